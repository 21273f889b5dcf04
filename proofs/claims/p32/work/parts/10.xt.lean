/-! ===== methods that throw ===== -/
def xTX : List (Nat × String) := [(47, "there are 8 purposes"), (86, "the source is not present"), (90, "the source is not lower than the record"), (93, "the source is one of its sources already"), (99, "the record is a root record"), (101, "the record or the source is not present"), (139, "the record must not be used for the purpose"), (144, "days is out of range"), (167, "the record is erased"), (169, "the case holds the record already"), (188, "there is no such subject"), (191, "there is no such purpose"), (196, "the set has a bit of no purpose"), (198, "the set of purposes is empty"), (200, "retention is out of range"), (202, "there is no such record"), (204, "there is no such case"), (206, "there are 30 records"), (212, "none of these purposes would be open")]
def xNm : List String := ["java/lang/RuntimeException", "java/lang/Exception"]
def xDe : List MethodName := [Bundle.initS "java/lang/RuntimeException", Bundle.initS "java/lang/Exception", Bundle.initS "java/lang/Throwable"]
def xCa : List String := ["java/lang/IllegalStateException", "java/lang/IllegalArgumentException", "java/lang/IndexOutOfBoundsException"]
def xNG : List Cond := xDe.map (fun x => Cond.declares x) ++ xCa.map (fun C => Cond.castable C C)
def e_E (U : State) (H : Heap) : Prop := vx_Zq Bundle.tN "UNASSIGNED_STACK" Bundle.steD (fun q => H.size ≤ q) U H ∧ vx_Zq Bundle.tN "SUPPRESSED_SENTINEL" Bundle.listD (fun q => H.size ≤ q) U H ∧ (∀ q ∈ xTX, ∃ sa, vk_R RX0 q.1 q.2 sa U) ∧ (∀ x ∈ xDe, va_Nw (.declares x) U) ∧ ∀ C ∈ xCa, va_Nw (.castable C C) U
def e_X (E0 : String) : String → State → State → Prop := fun E st t => E = E0 ∧ st.heap.size ≤ t.heap.size ∧ ∀ q : Nat, q < st.heap.size → t.heap[q]? = st.heap[q]?
def t_N : Array Value → State → Outcome → State → Prop := fun _ _ _ _ => False
def t_B (D : va_G) (tI tZ tL : ClassId) (h0 : Nat) (ad : Nat → Nat) (σ : ST) : State → Prop := fun U => va_P D vwCl (x_W tI tZ h0 ad σ) U.heap ∧ va_K D vwCl (kTY tI tZ tL) U ∧ e_E U U.heap
section KT
variable {p : Program} {l : Launch} {e : Env} {R : Room} {s : State} {m : MethodId} {args : Array Value} {below : List Frame} {meth : Method} {c : Code} {cc : ByteArray} {pc : Nat} {ls : Array Slot} {rest : List Value} {Ts : List Cond} {D : va_G} {tI tZ tL : ClassId} {h0 : Nat} {ad : Nat → Nat} {σ : ST}
abbrev t_G (p : Program) (l : Launch) (e : Env) (rm : Room) (s : State) (m : MethodId) (args : Array Value) (below : List Frame) (meth : Method) (c : Code) (E : String) (g : JFrame) : Prop := W p l e rm s m args below meth c s.heap [] 0 0 (vx_MQ below t_N (e_X E) args s 1 6 q_no) g
theorem e_warm {U : State} {H : Heap} (hW : s.WarmedH U.vm) (h : e_E s H) : e_E U H := ⟨vx_Zq.moved hW.alike h.1, vx_Zq.moved hW.alike h.2.1, fun q hq => by obtain ⟨sa, h1⟩ := h.2.2.1 q hq; exact ⟨sa, vk_R.warm hW h1⟩, fun x hx => va_Nw.warmD hW (h.2.2.2.1 x hx), fun C hC => va_Nw.warmC hW (h.2.2.2.2 C hC)⟩
theorem t_blind {av : List Value} : FrameBlind (va_Pc av (t_B D tI tZ tL h0 ad σ)) := fun a U g mk q => ⟨q.1, q.2.1, va_K.moved (u := U) (U := U.calling g mk a) (Vm.Alike.refl U.vm) q.2.2.1, vx_Zq.moved (u := U) (U := U.calling g mk a) (Vm.Alike.refl U.vm) q.2.2.2.1, vx_Zq.moved (u := U) (U := U.calling g mk a) (Vm.Alike.refl U.vm) q.2.2.2.2.1, fun z hz => by obtain ⟨sa, h1⟩ := q.2.2.2.2.2.1 z hz; exact ⟨sa, vk_R.same (u := U) (U := U.calling g mk a) rfl h1⟩, fun x hx => va_Nw.same (u := U) (U := U.calling g mk a) rfl rfl (q.2.2.2.2.2.2.1 x hx), fun C hC => va_Nw.same (u := U) (U := U.calling g mk a) rfl rfl (q.2.2.2.2.2.2.2 C hC)⟩
theorem t_pre {As : List Value} {H : Heap} (hK : va_K D vwCl (kTY tI tZ tL) s) (hP : va_P D vwCl (x_W tI tZ h0 ad σ) H) (hE : e_E s H) : PreV s H RX0 h0 (va_Pc (.ref h0 :: As) (t_B D tI tZ tL h0 ad σ)) As := ⟨t_blind, va_recv hK hP (ci := 0) (q0 := 0) rfl rfl, fun U hU hW => ⟨rfl, by rw [hU]; exact hP, va_K.moved hW.alike hK, by rw [hU]; exact e_warm hW hE⟩⟩
theorem t_met {y : MethodName} {ws ws' : List Cond} {rm : Room} {maxL : Nat} {ret : Option FieldType} {av : List Value} {Bp : State → Prop} {E : String} (hy : plainName y.cls = true) (hw : ws = Cond.code y cc maxL ret :: ws') (hlen : (lg_sl av).length ≤ maxL)
    (body : ∀ (p : Program) (e : Env) (s : State) (m : MethodId) (below : List Frame) (meth : Method) (c : Code), p.tables.exec = Jvm.exec → c.code = cc → c.maxLocals = maxL → meth.sig.returnType = ret → (∀ w ∈ ws, w.before av.toArray s = true) → s.vm.findClass y.cls = some m.cls → meth.locks = false → (∀ x ∈ c.exceptionTable.toList, False) → Bp s → ∀ ls, lv_has ls maxL (lv_args 0 av) → t_G p l e rm s m av.toArray below meth c E (F0 m 0 ls [])) :
    vx_Met l y ws rm (va_Pc av Bp) t_N (e_X E) 1 6 q_no := by
  refine vx_ofW (cc := cc) (maxL := maxL) (ret := ret) hy hw ?_
  intro p e s m args below meth c s₁ B hml hnt hv
  obtain ⟨rfl, hB⟩ := hv
  have hl := lv_entry av (n := maxL) hlen
  rw [lg_entry_eq]
  exact body p e s m below meth c B.exec B.bytes hml B.returns (atoms_spec (ws := ws) B.pre) (findClass_of_methodNamed B.named) B.notSynchronized hnt hB _ hl
theorem t_thr {cls t : String} {ik is ic : Nat} (hx : p.tables.exec = Jvm.exec) (hb : c.code = cc) (hlf : l.stackTraces = false) (hown : s.vm.findClass RX0 = some m.cls) (hcls : Bundle.fit cls = true) (hnames : ∀ n ∈ xNm, Bundle.fit n = true) (hts : ∀ w ∈ Ts, w.before args s = true) (hk : Cond.classLink RX0 ik cls ∈ Ts) (hini : Cond.initialized cls ∈ Ts) (hat : ∀ w ∈ (vx_atS RX0 ic cls xNm).filter goodWord, w ∈ Ts) (hng : ∀ w ∈ (vx_atS RX0 ic cls xNm).filter (fun w => !goodWord w), w ∈ xNG) (hgood : ∀ w ∈ Cond.classLink RX0 ik cls :: Cond.initialized cls :: vx_atS RX0 ic cls xNm, vx_ot w = true)
    (hE : e_E s s.heap) (ht : (is, t) ∈ xTX) (hsize : ls.size = c.maxLocals) (d0 : decode cc pc = .ok (.new ik, 3)) (d3 : decode cc (pc + 3) = .ok (.dup, 1)) (d4 : decode cc (pc + 4) = .ok (.ldc is, 2)) (d6 : decode cc (pc + 6) = .ok (.invokespecial ic, 3)) (d9 : decode cc (pc + 9) = .ok (.athrow, 1)) (hnt : ∀ x ∈ c.exceptionTable.toList, False)
    (hRf : 6 ≤ R.frames) (hRl : (rest.map fun v => v.category).sum + 82 ≤ R.locals) (hRc : 1 ≤ R.cells) (hRs : 6 ≤ R.slots) (hlocks : meth.locks = false) : t_G p l e R s m args below meth c cls (F0 m pc ls rest) := by
  obtain ⟨sa, hstr⟩ := hE.2.2.1 _ ht
  have h3 : ∀ w ∈ xNG, w.before args s = true := by
    intro w hw
    rcases List.mem_append.mp hw with h | h
    · obtain ⟨x, hx, rfl⟩ := List.mem_map.mp h
      exact va_Nw.use rfl (hE.2.2.2.1 x hx)
    · obtain ⟨C, hC, rfl⟩ := List.mem_map.mp h
      exact va_Nw.use rfl (hE.2.2.2.2 C hC)
  exact vx_throwS (names := xNm) (A := fun q => s.heap.size ≤ q) hx hb hlf hown hcls hnames (hts _ hk) (hts _ hini) hstr (vx_hat (fun w hw => hts w (hat w hw)) hng h3) hgood hE.1 hE.2.1 va_S.rf hsize d0 d3 d4 d6 d9 (fun x hx => absurd hx (hnt x)) (show 2 + 3 < R.frames by omega) (show (rest.map fun v => v.category).sum + (13 * (2 + 1) + 43) ≤ R.locals by omega) (by omega) (by omega) hlocks (fun t _ h1 h2 => ⟨rfl, h1, h2⟩) (fun z hz => by cases hz) (Nat.le_refl _) (Nat.le_refl _)
/-- a callee throws, and nothing here catches it -/
theorem t_pass {E : String} {st0 : List Value} {Qc : Array Value → State → Outcome → State → Prop} {a : Array Value} (hr : vx_Run p l e R s m args below meth c s.heap [] 0 0 1 6 (F0 m pc ls st0) rest (t_N a) (e_X E) q_no) (hnt : ∀ x ∈ c.exceptionTable.toList, False) (hlocks : meth.locks = false) : W p l e R s m args below meth c s.heap [] 0 0 (vx_MQ below Qc (e_X E) args s 1 6 q_no) (F0 m pc ls st0) := by
  intro T hT X
  rcases hr T hT X with ⟨v, st₀, t, T', L, h0, X', hL, e1, e2, hN, st⟩ | ⟨q, st₀, t, T', L, E1, ce, h0, X', hL, e1, e2, ⟨hEe, hz, hk⟩, hce, hcv, hcl, st⟩
  · exact absurd hN (fun h => h)
  · subst hEe
    have hL0 : L = [] := by
      cases L with
      | nil => rfl
      | cons z L => exact absurd (hL z List.mem_cons_self) (fun h => h)
    subst hL0
    rw [h0] at hz hk
    obtain ⟨t2, a1, b1⟩ := vx_out (Qc := Qc) (XC := e_X E1) (mc := 1) (ms := 6) (free := q_no) (rest := rest) (ls := ls) (pc := pc) (H := T'.heap) (locs := []) (fun x hx => absurd hx (hnt x)) hlocks (by rw [e1]; exact hce) hcv hcl (fun t9 ht9 _ => ⟨rfl, by rw [ht9, e1]; exact hz, fun q9 hq9 => by rw [ht9, e1]; exact hk q9 hq9⟩) (fun z hz => by cases hz) (Nat.le_refl _) (Nat.le_refl _) T' rfl X'
    exact ⟨t2, st.trans a1, b1⟩
end KT
set_option maxHeartbeats 4000000 in
set_option maxRecDepth 100000 in
theorem c_X0_checkSubject_t (l : Launch) (D : va_G) (tI tZ tL : ClassId) (h0 : Nat) (ad : Nat → Nat) (σ : ST) (v : Int32) (hv : v < 0 ∨ 12 ≤ v) (hlf : l.stackTraces = false) : vx_Met l yX0_checkSubject wsX0_checkSubject ({ frames := 6, cells := 1, slots := 6, locals := 140 } : Room) (va_Pc ([.ref h0, .int v] : List Value) (t_B D tI tZ tL h0 ad σ)) t_N (e_X "java/lang/IndexOutOfBoundsException") 1 6 q_no := by
  refine t_met (cc := cX0_checkSubject) (maxL := 2) (ret := none) (by decide) rfl (Nat.le_of_ble_eq_true rfl) ?_
  intro p e s m below meth c hx hb hml hr hts hown hlocks hnt hB ls hl
  have hown : s.vm.findClass RX0 = some m.cls := hown
  obtain ⟨hP, hK, hE⟩ := hB
  have hl : lv_has ls 2 [(0, .ref h0), (1, .int v)] := hl
  refine lv_iload_n hx hb dX0_checkSubject_0 rfl (lv_at hl 1 rfl) ?_
  refine lv_if_lt (tgt := 10) hx hb dX0_checkSubject_1 (by decide) (fun c1 => ?_) (fun c1 => ?_)
  · exact t_thr (ik := 186) (is := 188) (ic := 190) hx hb hlf hown (by decide +kernel) (by decide +kernel) hts (by decide +kernel) (by decide +kernel) (by decide +kernel) (by decide +kernel) (by decide +kernel) hE (t := "there is no such subject") (by decide +kernel) (by rw [hml]; exact hl.1) dX0_checkSubject_10 dX0_checkSubject_13 dX0_checkSubject_14 dX0_checkSubject_16 dX0_checkSubject_19 hnt (Nat.le_of_ble_eq_true rfl) (Nat.le_of_ble_eq_true rfl) (Nat.le_of_ble_eq_true rfl) (Nat.le_of_ble_eq_true rfl) hlocks
  · refine lv_iload_n hx hb dX0_checkSubject_4 rfl (lv_at hl 1 rfl) ?_
    refine lv_bipush (v := 12) hx hb dX0_checkSubject_5 (by decide) ?_
    refine lv_icmp_lt (tgt := 20) hx hb dX0_checkSubject_7 (by decide) (fun c7 => absurd c7 (hv.elim (fun h => absurd h c1) (fun h => Int32.not_lt.mpr h))) (fun c7 => ?_)
    exact t_thr (ik := 186) (is := 188) (ic := 190) hx hb hlf hown (by decide +kernel) (by decide +kernel) hts (by decide +kernel) (by decide +kernel) (by decide +kernel) (by decide +kernel) (by decide +kernel) hE (t := "there is no such subject") (by decide +kernel) (by rw [hml]; exact hl.1) dX0_checkSubject_10 dX0_checkSubject_13 dX0_checkSubject_14 dX0_checkSubject_16 dX0_checkSubject_19 hnt (Nat.le_of_ble_eq_true rfl) (Nat.le_of_ble_eq_true rfl) (Nat.le_of_ble_eq_true rfl) (Nat.le_of_ble_eq_true rfl) hlocks
theorem k_X0_checkSubject_t {p : Program} {l : Launch} {e : Env} {R : Room} {s : State} {m : MethodId} {args : Array Value} {below : List Frame} {meth : Method} {c : Code} {cc : ByteArray} {pc : Nat} {ls : Array Slot} {rest : List Value} {Ts : List Cond} (D : va_G) (tI tZ tL : ClassId) (h0 : Nat) (ad : Nat → Nat) (σ : ST) (v : Int32) (hv : v < 0 ∨ 12 ≤ v) {Qc : Array Value → State → Outcome → State → Prop} {own : String} {idx nL : Nat} (S : CallFix p m c cc nL s args Ts own) (hG : GoodIn Ts (wsV own idx RX0 yX0_checkSubject wsX0_checkSubject)) (hR : ({ frames := 6, cells := 1, slots := 6, locals := 140 } : Room).frames + 1 ≤ R.frames ∧ 8 + (2 + 11) + ({ frames := 6, cells := 1, slots := 6, locals := 140 } : Room).locals ≤ R.locals) (hsz : ls.size = nL) (hrm : (rest.map fun v => v.category).sum ≤ 8) (hlf : l.stackTraces = false) (hcap : 1 ≤ R.cells ∧ 6 ≤ R.slots) (hE : e_E s s.heap) (hK : va_K D vwCl (kTY tI tZ tL) s) (hP : va_P D vwCl (x_W tI tZ h0 ad σ) s.heap) (hlocks : meth.locks = false) (hnt : ∀ x ∈ c.exceptionTable.toList, False) (hdg : decode cc pc = .ok (.invokevirtual idx, 3)) : W p l e R s m args below meth c s.heap [] 0 0 (vx_MQ below Qc (e_X "java/lang/IndexOutOfBoundsException") args s 1 6 q_no) (F0 m pc ls (.int v :: .ref h0 :: rest)) :=
  t_pass (vx_runV (As := [.int v]) (rest := rest) S (c_X0_checkSubject_t l D tI tZ tL h0 ad σ v hv hlf) (cwV 1 S.2.2.2.2 hG rfl rfl rfl (by decide +kernel) hR) (t_pre hK hP hE) rfl rfl hsz rfl (lv_room hrm) hdg ⟨by omega, by omega⟩) hnt hlocks

set_option maxHeartbeats 4000000 in
set_option maxRecDepth 100000 in
theorem c_X0_checkCase_t (l : Launch) (D : va_G) (tI tZ tL : ClassId) (h0 : Nat) (ad : Nat → Nat) (σ : ST) (v : Int32) (hv : v < 0 ∨ 6 ≤ v) (hlf : l.stackTraces = false) : vx_Met l yX0_checkCase wsX0_checkCase ({ frames := 6, cells := 1, slots := 6, locals := 140 } : Room) (va_Pc ([.ref h0, .int v] : List Value) (t_B D tI tZ tL h0 ad σ)) t_N (e_X "java/lang/IndexOutOfBoundsException") 1 6 q_no := by
  refine t_met (cc := cX0_checkCase) (maxL := 2) (ret := none) (by decide) rfl (Nat.le_of_ble_eq_true rfl) ?_
  intro p e s m below meth c hx hb hml hr hts hown hlocks hnt hB ls hl
  have hown : s.vm.findClass RX0 = some m.cls := hown
  obtain ⟨hP, hK, hE⟩ := hB
  have hl : lv_has ls 2 [(0, .ref h0), (1, .int v)] := hl
  refine lv_iload_n hx hb dX0_checkCase_0 rfl (lv_at hl 1 rfl) ?_
  refine lv_if_lt (tgt := 10) hx hb dX0_checkCase_1 (by decide) (fun c1 => ?_) (fun c1 => ?_)
  · exact t_thr (ik := 186) (is := 204) (ic := 190) hx hb hlf hown (by decide +kernel) (by decide +kernel) hts (by decide +kernel) (by decide +kernel) (by decide +kernel) (by decide +kernel) (by decide +kernel) hE (t := "there is no such case") (by decide +kernel) (by rw [hml]; exact hl.1) dX0_checkCase_10 dX0_checkCase_13 dX0_checkCase_14 dX0_checkCase_16 dX0_checkCase_19 hnt (Nat.le_of_ble_eq_true rfl) (Nat.le_of_ble_eq_true rfl) (Nat.le_of_ble_eq_true rfl) (Nat.le_of_ble_eq_true rfl) hlocks
  · refine lv_iload_n hx hb dX0_checkCase_4 rfl (lv_at hl 1 rfl) ?_
    refine lv_bipush (v := 6) hx hb dX0_checkCase_5 (by decide) ?_
    refine lv_icmp_lt (tgt := 20) hx hb dX0_checkCase_7 (by decide) (fun c7 => absurd c7 (hv.elim (fun h => absurd h c1) (fun h => Int32.not_lt.mpr h))) (fun c7 => ?_)
    exact t_thr (ik := 186) (is := 204) (ic := 190) hx hb hlf hown (by decide +kernel) (by decide +kernel) hts (by decide +kernel) (by decide +kernel) (by decide +kernel) (by decide +kernel) (by decide +kernel) hE (t := "there is no such case") (by decide +kernel) (by rw [hml]; exact hl.1) dX0_checkCase_10 dX0_checkCase_13 dX0_checkCase_14 dX0_checkCase_16 dX0_checkCase_19 hnt (Nat.le_of_ble_eq_true rfl) (Nat.le_of_ble_eq_true rfl) (Nat.le_of_ble_eq_true rfl) (Nat.le_of_ble_eq_true rfl) hlocks
theorem k_X0_checkCase_t {p : Program} {l : Launch} {e : Env} {R : Room} {s : State} {m : MethodId} {args : Array Value} {below : List Frame} {meth : Method} {c : Code} {cc : ByteArray} {pc : Nat} {ls : Array Slot} {rest : List Value} {Ts : List Cond} (D : va_G) (tI tZ tL : ClassId) (h0 : Nat) (ad : Nat → Nat) (σ : ST) (v : Int32) (hv : v < 0 ∨ 6 ≤ v) {Qc : Array Value → State → Outcome → State → Prop} {own : String} {idx nL : Nat} (S : CallFix p m c cc nL s args Ts own) (hG : GoodIn Ts (wsV own idx RX0 yX0_checkCase wsX0_checkCase)) (hR : ({ frames := 6, cells := 1, slots := 6, locals := 140 } : Room).frames + 1 ≤ R.frames ∧ 8 + (2 + 11) + ({ frames := 6, cells := 1, slots := 6, locals := 140 } : Room).locals ≤ R.locals) (hsz : ls.size = nL) (hrm : (rest.map fun v => v.category).sum ≤ 8) (hlf : l.stackTraces = false) (hcap : 1 ≤ R.cells ∧ 6 ≤ R.slots) (hE : e_E s s.heap) (hK : va_K D vwCl (kTY tI tZ tL) s) (hP : va_P D vwCl (x_W tI tZ h0 ad σ) s.heap) (hlocks : meth.locks = false) (hnt : ∀ x ∈ c.exceptionTable.toList, False) (hdg : decode cc pc = .ok (.invokevirtual idx, 3)) : W p l e R s m args below meth c s.heap [] 0 0 (vx_MQ below Qc (e_X "java/lang/IndexOutOfBoundsException") args s 1 6 q_no) (F0 m pc ls (.int v :: .ref h0 :: rest)) :=
  t_pass (vx_runV (As := [.int v]) (rest := rest) S (c_X0_checkCase_t l D tI tZ tL h0 ad σ v hv hlf) (cwV 1 S.2.2.2.2 hG rfl rfl rfl (by decide +kernel) hR) (t_pre hK hP hE) rfl rfl hsz rfl (lv_room hrm) hdg ⟨by omega, by omega⟩) hnt hlocks

set_option maxHeartbeats 4000000 in
set_option maxRecDepth 100000 in
theorem c_X0_checkPurpose_t (l : Launch) (D : va_G) (tI tZ tL : ClassId) (h0 : Nat) (ad : Nat → Nat) (σ : ST) (v : Int32) (hv : v < 0 ∨ σ.1 1 ≤ v) (hlf : l.stackTraces = false) : vx_Met l yX0_checkPurpose wsX0_checkPurpose ({ frames := 6, cells := 1, slots := 6, locals := 140 } : Room) (va_Pc ([.ref h0, .int v] : List Value) (t_B D tI tZ tL h0 ad σ)) t_N (e_X "java/lang/IndexOutOfBoundsException") 1 6 q_no := by
  refine t_met (cc := cX0_checkPurpose) (maxL := 2) (ret := none) (by decide) rfl (Nat.le_of_ble_eq_true rfl) ?_
  intro p e s m below meth c hx hb hml hr hts hown hlocks hnt hB ls hl
  have hown : s.vm.findClass RX0 = some m.cls := hown
  obtain ⟨hP, hK, hE⟩ := hB
  have hl : lv_has ls 2 [(0, .ref h0), (1, .int v)] := hl
  have hin : ∀ w ∈ wsX00, w ∈ wsX0_checkPurpose := in_X0_checkPurpose
  have hl_purposeCount : xl_purposeCount ∈ wsX0_checkPurpose := by decide +kernel
  refine lv_iload_n hx hb dX0_checkPurpose_0 rfl (lv_at hl 1 rfl) ?_
  refine lv_if_lt (tgt := 12) hx hb dX0_checkPurpose_1 (by decide) (fun c1 => ?_) (fun c1 => ?_)
  · exact t_thr (ik := 186) (is := 191) (ic := 190) hx hb hlf hown (by decide +kernel) (by decide +kernel) hts (by decide +kernel) (by decide +kernel) (by decide +kernel) (by decide +kernel) (by decide +kernel) hE (t := "there is no such purpose") (by decide +kernel) (by rw [hml]; exact hl.1) dX0_checkPurpose_12 dX0_checkPurpose_15 dX0_checkPurpose_16 dX0_checkPurpose_18 dX0_checkPurpose_21 hnt (Nat.le_of_ble_eq_true rfl) (Nat.le_of_ble_eq_true rfl) (Nat.le_of_ble_eq_true rfl) (Nat.le_of_ble_eq_true rfl) hlocks
  · refine lv_iload_n hx hb dX0_checkPurpose_4 rfl (lv_at hl 1 rfl) ?_
    refine lv_aload_n hx hb dX0_checkPurpose_5 rfl (lv_at hl 0 rfl) ?_
    refine xg_purposeCount hx hb hts hin hown hK hP hl_purposeCount dX0_checkPurpose_6 ?_
    refine lv_icmp_lt (tgt := 22) hx hb dX0_checkPurpose_9 (by decide) (fun c9 => absurd c9 (hv.elim (fun h => absurd h c1) (fun h => Int32.not_lt.mpr h))) (fun c9 => ?_)
    exact t_thr (ik := 186) (is := 191) (ic := 190) hx hb hlf hown (by decide +kernel) (by decide +kernel) hts (by decide +kernel) (by decide +kernel) (by decide +kernel) (by decide +kernel) (by decide +kernel) hE (t := "there is no such purpose") (by decide +kernel) (by rw [hml]; exact hl.1) dX0_checkPurpose_12 dX0_checkPurpose_15 dX0_checkPurpose_16 dX0_checkPurpose_18 dX0_checkPurpose_21 hnt (Nat.le_of_ble_eq_true rfl) (Nat.le_of_ble_eq_true rfl) (Nat.le_of_ble_eq_true rfl) (Nat.le_of_ble_eq_true rfl) hlocks
theorem k_X0_checkPurpose_t {p : Program} {l : Launch} {e : Env} {R : Room} {s : State} {m : MethodId} {args : Array Value} {below : List Frame} {meth : Method} {c : Code} {cc : ByteArray} {pc : Nat} {ls : Array Slot} {rest : List Value} {Ts : List Cond} (D : va_G) (tI tZ tL : ClassId) (h0 : Nat) (ad : Nat → Nat) (σ : ST) (v : Int32) (hv : v < 0 ∨ σ.1 1 ≤ v) {Qc : Array Value → State → Outcome → State → Prop} {own : String} {idx nL : Nat} (S : CallFix p m c cc nL s args Ts own) (hG : GoodIn Ts (wsV own idx RX0 yX0_checkPurpose wsX0_checkPurpose)) (hR : ({ frames := 6, cells := 1, slots := 6, locals := 140 } : Room).frames + 1 ≤ R.frames ∧ 8 + (2 + 11) + ({ frames := 6, cells := 1, slots := 6, locals := 140 } : Room).locals ≤ R.locals) (hsz : ls.size = nL) (hrm : (rest.map fun v => v.category).sum ≤ 8) (hlf : l.stackTraces = false) (hcap : 1 ≤ R.cells ∧ 6 ≤ R.slots) (hE : e_E s s.heap) (hK : va_K D vwCl (kTY tI tZ tL) s) (hP : va_P D vwCl (x_W tI tZ h0 ad σ) s.heap) (hlocks : meth.locks = false) (hnt : ∀ x ∈ c.exceptionTable.toList, False) (hdg : decode cc pc = .ok (.invokevirtual idx, 3)) : W p l e R s m args below meth c s.heap [] 0 0 (vx_MQ below Qc (e_X "java/lang/IndexOutOfBoundsException") args s 1 6 q_no) (F0 m pc ls (.int v :: .ref h0 :: rest)) :=
  t_pass (vx_runV (As := [.int v]) (rest := rest) S (c_X0_checkPurpose_t l D tI tZ tL h0 ad σ v hv hlf) (cwV 1 S.2.2.2.2 hG rfl rfl rfl (by decide +kernel) hR) (t_pre hK hP hE) rfl rfl hsz rfl (lv_room hrm) hdg ⟨by omega, by omega⟩) hnt hlocks

set_option maxHeartbeats 4000000 in
set_option maxRecDepth 100000 in
theorem c_X0_checkRecord_t (l : Launch) (D : va_G) (tI tZ tL : ClassId) (h0 : Nat) (ad : Nat → Nat) (σ : ST) (v : Int32) (hv : v < 0 ∨ σ.1 6 ≤ v) (hlf : l.stackTraces = false) : vx_Met l yX0_checkRecord wsX0_checkRecord ({ frames := 6, cells := 1, slots := 6, locals := 140 } : Room) (va_Pc ([.ref h0, .int v] : List Value) (t_B D tI tZ tL h0 ad σ)) t_N (e_X "java/lang/IndexOutOfBoundsException") 1 6 q_no := by
  refine t_met (cc := cX0_checkRecord) (maxL := 2) (ret := none) (by decide) rfl (Nat.le_of_ble_eq_true rfl) ?_
  intro p e s m below meth c hx hb hml hr hts hown hlocks hnt hB ls hl
  have hown : s.vm.findClass RX0 = some m.cls := hown
  obtain ⟨hP, hK, hE⟩ := hB
  have hl : lv_has ls 2 [(0, .ref h0), (1, .int v)] := hl
  have hin : ∀ w ∈ wsX00, w ∈ wsX0_checkRecord := in_X0_checkRecord
  have hl_recordCount : xl_recordCount ∈ wsX0_checkRecord := by decide +kernel
  refine lv_iload_n hx hb dX0_checkRecord_0 rfl (lv_at hl 1 rfl) ?_
  refine lv_if_lt (tgt := 12) hx hb dX0_checkRecord_1 (by decide) (fun c1 => ?_) (fun c1 => ?_)
  · exact t_thr (ik := 186) (is := 202) (ic := 190) hx hb hlf hown (by decide +kernel) (by decide +kernel) hts (by decide +kernel) (by decide +kernel) (by decide +kernel) (by decide +kernel) (by decide +kernel) hE (t := "there is no such record") (by decide +kernel) (by rw [hml]; exact hl.1) dX0_checkRecord_12 dX0_checkRecord_15 dX0_checkRecord_16 dX0_checkRecord_18 dX0_checkRecord_21 hnt (Nat.le_of_ble_eq_true rfl) (Nat.le_of_ble_eq_true rfl) (Nat.le_of_ble_eq_true rfl) (Nat.le_of_ble_eq_true rfl) hlocks
  · refine lv_iload_n hx hb dX0_checkRecord_4 rfl (lv_at hl 1 rfl) ?_
    refine lv_aload_n hx hb dX0_checkRecord_5 rfl (lv_at hl 0 rfl) ?_
    refine xg_recordCount hx hb hts hin hown hK hP hl_recordCount dX0_checkRecord_6 ?_
    refine lv_icmp_lt (tgt := 22) hx hb dX0_checkRecord_9 (by decide) (fun c9 => absurd c9 (hv.elim (fun h => absurd h c1) (fun h => Int32.not_lt.mpr h))) (fun c9 => ?_)
    exact t_thr (ik := 186) (is := 202) (ic := 190) hx hb hlf hown (by decide +kernel) (by decide +kernel) hts (by decide +kernel) (by decide +kernel) (by decide +kernel) (by decide +kernel) (by decide +kernel) hE (t := "there is no such record") (by decide +kernel) (by rw [hml]; exact hl.1) dX0_checkRecord_12 dX0_checkRecord_15 dX0_checkRecord_16 dX0_checkRecord_18 dX0_checkRecord_21 hnt (Nat.le_of_ble_eq_true rfl) (Nat.le_of_ble_eq_true rfl) (Nat.le_of_ble_eq_true rfl) (Nat.le_of_ble_eq_true rfl) hlocks
theorem k_X0_checkRecord_t {p : Program} {l : Launch} {e : Env} {R : Room} {s : State} {m : MethodId} {args : Array Value} {below : List Frame} {meth : Method} {c : Code} {cc : ByteArray} {pc : Nat} {ls : Array Slot} {rest : List Value} {Ts : List Cond} (D : va_G) (tI tZ tL : ClassId) (h0 : Nat) (ad : Nat → Nat) (σ : ST) (v : Int32) (hv : v < 0 ∨ σ.1 6 ≤ v) {Qc : Array Value → State → Outcome → State → Prop} {own : String} {idx nL : Nat} (S : CallFix p m c cc nL s args Ts own) (hG : GoodIn Ts (wsV own idx RX0 yX0_checkRecord wsX0_checkRecord)) (hR : ({ frames := 6, cells := 1, slots := 6, locals := 140 } : Room).frames + 1 ≤ R.frames ∧ 8 + (2 + 11) + ({ frames := 6, cells := 1, slots := 6, locals := 140 } : Room).locals ≤ R.locals) (hsz : ls.size = nL) (hrm : (rest.map fun v => v.category).sum ≤ 8) (hlf : l.stackTraces = false) (hcap : 1 ≤ R.cells ∧ 6 ≤ R.slots) (hE : e_E s s.heap) (hK : va_K D vwCl (kTY tI tZ tL) s) (hP : va_P D vwCl (x_W tI tZ h0 ad σ) s.heap) (hlocks : meth.locks = false) (hnt : ∀ x ∈ c.exceptionTable.toList, False) (hdg : decode cc pc = .ok (.invokevirtual idx, 3)) : W p l e R s m args below meth c s.heap [] 0 0 (vx_MQ below Qc (e_X "java/lang/IndexOutOfBoundsException") args s 1 6 q_no) (F0 m pc ls (.int v :: .ref h0 :: rest)) :=
  t_pass (vx_runV (As := [.int v]) (rest := rest) S (c_X0_checkRecord_t l D tI tZ tL h0 ad σ v hv hlf) (cwV 1 S.2.2.2.2 hG rfl rfl rfl (by decide +kernel) hR) (t_pre hK hP hE) rfl rfl hsz rfl (lv_room hrm) hdg ⟨by omega, by omega⟩) hnt hlocks

set_option maxHeartbeats 4000000 in
set_option maxRecDepth 100000 in
theorem c_X0_checkRetention_t (l : Launch) (D : va_G) (tI tZ tL : ClassId) (h0 : Nat) (ad : Nat → Nat) (σ : ST) (v : Int32) (hv : v < 0 ∨ ¬ v ≤ 3650) (hlf : l.stackTraces = false) : vx_Met l yX0_checkRetention wsX0_checkRetention ({ frames := 6, cells := 1, slots := 6, locals := 140 } : Room) (va_Pc ([.ref h0, .int v] : List Value) (t_B D tI tZ tL h0 ad σ)) t_N (e_X "java/lang/IllegalArgumentException") 1 6 q_no := by
  refine t_met (cc := cX0_checkRetention) (maxL := 2) (ret := none) (by decide) rfl (Nat.le_of_ble_eq_true rfl) ?_
  intro p e s m below meth c hx hb hml hr hts hown hlocks hnt hB ls hl
  have hown : s.vm.findClass RX0 = some m.cls := hown
  obtain ⟨hP, hK, hE⟩ := hB
  have hl : lv_has ls 2 [(0, .ref h0), (1, .int v)] := hl
  refine lv_iload_n hx hb dX0_checkRetention_0 rfl (lv_at hl 1 rfl) ?_
  refine lv_if_lt (tgt := 11) hx hb dX0_checkRetention_1 (by decide) (fun c1 => ?_) (fun c1 => ?_)
  · exact t_thr (ik := 88) (is := 200) (ic := 92) hx hb hlf hown (by decide +kernel) (by decide +kernel) hts (by decide +kernel) (by decide +kernel) (by decide +kernel) (by decide +kernel) (by decide +kernel) hE (t := "retention is out of range") (by decide +kernel) (by rw [hml]; exact hl.1) dX0_checkRetention_11 dX0_checkRetention_14 dX0_checkRetention_15 dX0_checkRetention_17 dX0_checkRetention_20 hnt (Nat.le_of_ble_eq_true rfl) (Nat.le_of_ble_eq_true rfl) (Nat.le_of_ble_eq_true rfl) (Nat.le_of_ble_eq_true rfl) hlocks
  · refine lv_iload_n hx hb dX0_checkRetention_4 rfl (lv_at hl 1 rfl) ?_
    refine lv_sipush (v := 3650) hx hb dX0_checkRetention_5 (by decide) ?_
    refine lv_icmp_le (tgt := 21) hx hb dX0_checkRetention_8 (by decide) (fun c8 => absurd c8 (hv.elim (fun h => absurd h c1) (fun h => h))) (fun c8 => ?_)
    exact t_thr (ik := 88) (is := 200) (ic := 92) hx hb hlf hown (by decide +kernel) (by decide +kernel) hts (by decide +kernel) (by decide +kernel) (by decide +kernel) (by decide +kernel) (by decide +kernel) hE (t := "retention is out of range") (by decide +kernel) (by rw [hml]; exact hl.1) dX0_checkRetention_11 dX0_checkRetention_14 dX0_checkRetention_15 dX0_checkRetention_17 dX0_checkRetention_20 hnt (Nat.le_of_ble_eq_true rfl) (Nat.le_of_ble_eq_true rfl) (Nat.le_of_ble_eq_true rfl) (Nat.le_of_ble_eq_true rfl) hlocks
theorem k_X0_checkRetention_t {p : Program} {l : Launch} {e : Env} {R : Room} {s : State} {m : MethodId} {args : Array Value} {below : List Frame} {meth : Method} {c : Code} {cc : ByteArray} {pc : Nat} {ls : Array Slot} {rest : List Value} {Ts : List Cond} (D : va_G) (tI tZ tL : ClassId) (h0 : Nat) (ad : Nat → Nat) (σ : ST) (v : Int32) (hv : v < 0 ∨ ¬ v ≤ 3650) {Qc : Array Value → State → Outcome → State → Prop} {own : String} {idx nL : Nat} (S : CallFix p m c cc nL s args Ts own) (hG : GoodIn Ts (wsV own idx RX0 yX0_checkRetention wsX0_checkRetention)) (hR : ({ frames := 6, cells := 1, slots := 6, locals := 140 } : Room).frames + 1 ≤ R.frames ∧ 8 + (2 + 11) + ({ frames := 6, cells := 1, slots := 6, locals := 140 } : Room).locals ≤ R.locals) (hsz : ls.size = nL) (hrm : (rest.map fun v => v.category).sum ≤ 8) (hlf : l.stackTraces = false) (hcap : 1 ≤ R.cells ∧ 6 ≤ R.slots) (hE : e_E s s.heap) (hK : va_K D vwCl (kTY tI tZ tL) s) (hP : va_P D vwCl (x_W tI tZ h0 ad σ) s.heap) (hlocks : meth.locks = false) (hnt : ∀ x ∈ c.exceptionTable.toList, False) (hdg : decode cc pc = .ok (.invokevirtual idx, 3)) : W p l e R s m args below meth c s.heap [] 0 0 (vx_MQ below Qc (e_X "java/lang/IllegalArgumentException") args s 1 6 q_no) (F0 m pc ls (.int v :: .ref h0 :: rest)) :=
  t_pass (vx_runV (As := [.int v]) (rest := rest) S (c_X0_checkRetention_t l D tI tZ tL h0 ad σ v hv hlf) (cwV 1 S.2.2.2.2 hG rfl rfl rfl (by decide +kernel) hR) (t_pre hK hP hE) rfl rfl hsz rfl (lv_room hrm) hdg ⟨by omega, by omega⟩) hnt hlocks

set_option maxHeartbeats 4000000 in
set_option maxRecDepth 100000 in
theorem c_X0_checkPurposes_tA (l : Launch) (D : va_G) (tI tZ tL : ClassId) (h0 : Nat) (ad : Nat → Nat) (σ : ST) (P : Int32) (np : Nat) (hnp : σ.1 1 = nI np) (hn8 : np ≤ 8) (hq1 : ¬ P &&& ((bI np - 1) ^^^ (-1)) = 0) (hlf : l.stackTraces = false) : vx_Met l yX0_checkPurposes wsX0_checkPurposes ({ frames := 6, cells := 1, slots := 6, locals := 140 } : Room) (va_Pc ([.ref h0, .int P] : List Value) (t_B D tI tZ tL h0 ad σ)) t_N (e_X "java/lang/IndexOutOfBoundsException") 1 6 q_no := by
  refine t_met (cc := cX0_checkPurposes) (maxL := 2) (ret := none) (by decide) rfl (Nat.le_of_ble_eq_true rfl) ?_
  intro p e s m below meth c hx hb hml hr hts hown hlocks hnt hB ls hl
  have hown : s.vm.findClass RX0 = some m.cls := hown
  obtain ⟨hP, hK, hE⟩ := hB
  have hl : lv_has ls 2 [(0, .ref h0), (1, .int P)] := hl
  refine lv_iload_n hx hb dX0_checkPurposes_0 rfl (lv_at hl 1 rfl) ?_
  refine lv_aload_n hx hb dX0_checkPurposes_1 rfl (lv_at hl 0 rfl) ?_
  refine k_X0_allPurposes D tI tZ tL h0 ad σ np hnp hn8 ⟨hx, hb, hml, hown, hts⟩ gX0_checkPurposes_X0_allPurposes ⟨Nat.le_of_ble_eq_true rfl, Nat.le_of_ble_eq_true rfl⟩ hl.1 ⟨Nat.zero_le _, Nat.zero_le _⟩ (Nat.le_of_ble_eq_true rfl) hK hP dX0_checkPurposes_2 ?_
  refine lv_iconst (v := (-1)) hx hb dX0_checkPurposes_5 (by decide) ?_
  refine lv_ixor hx hb dX0_checkPurposes_6 ?_
  refine lv_iand hx hb dX0_checkPurposes_7 ?_
  refine lv_if_eq (tgt := 21) hx hb dX0_checkPurposes_8 (by decide) (fun c8 => absurd c8 hq1) (fun c8 => ?_)
  exact t_thr (ik := 186) (is := 196) (ic := 190) hx hb hlf hown (by decide +kernel) (by decide +kernel) hts (by decide +kernel) (by decide +kernel) (by decide +kernel) (by decide +kernel) (by decide +kernel) hE (t := "the set has a bit of no purpose") (by decide +kernel) (by rw [hml]; exact hl.1) dX0_checkPurposes_11 dX0_checkPurposes_14 dX0_checkPurposes_15 dX0_checkPurposes_17 dX0_checkPurposes_20 hnt (Nat.le_of_ble_eq_true rfl) (Nat.le_of_ble_eq_true rfl) (Nat.le_of_ble_eq_true rfl) (Nat.le_of_ble_eq_true rfl) hlocks
theorem k_X0_checkPurposes_tA {p : Program} {l : Launch} {e : Env} {R : Room} {s : State} {m : MethodId} {args : Array Value} {below : List Frame} {meth : Method} {c : Code} {cc : ByteArray} {pc : Nat} {ls : Array Slot} {rest : List Value} {Ts : List Cond} (D : va_G) (tI tZ tL : ClassId) (h0 : Nat) (ad : Nat → Nat) (σ : ST) (P : Int32) (np : Nat) (hnp : σ.1 1 = nI np) (hn8 : np ≤ 8) (hq1 : ¬ P &&& ((bI np - 1) ^^^ (-1)) = 0) {Qc : Array Value → State → Outcome → State → Prop} {own : String} {idx nL : Nat} (S : CallFix p m c cc nL s args Ts own) (hG : GoodIn Ts (wsV own idx RX0 yX0_checkPurposes wsX0_checkPurposes)) (hR : ({ frames := 6, cells := 1, slots := 6, locals := 140 } : Room).frames + 1 ≤ R.frames ∧ 8 + (2 + 11) + ({ frames := 6, cells := 1, slots := 6, locals := 140 } : Room).locals ≤ R.locals) (hsz : ls.size = nL) (hrm : (rest.map fun v => v.category).sum ≤ 8) (hlf : l.stackTraces = false) (hcap : 1 ≤ R.cells ∧ 6 ≤ R.slots) (hE : e_E s s.heap) (hK : va_K D vwCl (kTY tI tZ tL) s) (hP : va_P D vwCl (x_W tI tZ h0 ad σ) s.heap) (hlocks : meth.locks = false) (hnt : ∀ x ∈ c.exceptionTable.toList, False) (hdg : decode cc pc = .ok (.invokevirtual idx, 3)) : W p l e R s m args below meth c s.heap [] 0 0 (vx_MQ below Qc (e_X "java/lang/IndexOutOfBoundsException") args s 1 6 q_no) (F0 m pc ls (.int P :: .ref h0 :: rest)) :=
  t_pass (vx_runV (As := [.int P]) (rest := rest) S (c_X0_checkPurposes_tA l D tI tZ tL h0 ad σ P np hnp hn8 hq1 hlf) (cwV 1 S.2.2.2.2 hG rfl rfl rfl (by decide +kernel) hR) (t_pre hK hP hE) rfl rfl hsz rfl (lv_room hrm) hdg ⟨by omega, by omega⟩) hnt hlocks

set_option maxHeartbeats 4000000 in
set_option maxRecDepth 100000 in
theorem c_X0_checkPurposes_tB (l : Launch) (D : va_G) (tI tZ tL : ClassId) (h0 : Nat) (ad : Nat → Nat) (σ : ST) (P : Int32) (np : Nat) (hnp : σ.1 1 = nI np) (hn8 : np ≤ 8) (hq1 : P &&& ((bI np - 1) ^^^ (-1)) = 0) (hq2 : P = 0) (hlf : l.stackTraces = false) : vx_Met l yX0_checkPurposes wsX0_checkPurposes ({ frames := 6, cells := 1, slots := 6, locals := 140 } : Room) (va_Pc ([.ref h0, .int P] : List Value) (t_B D tI tZ tL h0 ad σ)) t_N (e_X "java/lang/IllegalArgumentException") 1 6 q_no := by
  refine t_met (cc := cX0_checkPurposes) (maxL := 2) (ret := none) (by decide) rfl (Nat.le_of_ble_eq_true rfl) ?_
  intro p e s m below meth c hx hb hml hr hts hown hlocks hnt hB ls hl
  have hown : s.vm.findClass RX0 = some m.cls := hown
  obtain ⟨hP, hK, hE⟩ := hB
  have hl : lv_has ls 2 [(0, .ref h0), (1, .int P)] := hl
  refine lv_iload_n hx hb dX0_checkPurposes_0 rfl (lv_at hl 1 rfl) ?_
  refine lv_aload_n hx hb dX0_checkPurposes_1 rfl (lv_at hl 0 rfl) ?_
  refine k_X0_allPurposes D tI tZ tL h0 ad σ np hnp hn8 ⟨hx, hb, hml, hown, hts⟩ gX0_checkPurposes_X0_allPurposes ⟨Nat.le_of_ble_eq_true rfl, Nat.le_of_ble_eq_true rfl⟩ hl.1 ⟨Nat.zero_le _, Nat.zero_le _⟩ (Nat.le_of_ble_eq_true rfl) hK hP dX0_checkPurposes_2 ?_
  refine lv_iconst (v := (-1)) hx hb dX0_checkPurposes_5 (by decide) ?_
  refine lv_ixor hx hb dX0_checkPurposes_6 ?_
  refine lv_iand hx hb dX0_checkPurposes_7 ?_
  refine lv_if_eq (tgt := 21) hx hb dX0_checkPurposes_8 (by decide) (fun c8 => ?_) (fun c8 => absurd hq1 c8)
  refine lv_iload_n hx hb dX0_checkPurposes_21 rfl (lv_at hl 1 rfl) ?_
  refine lv_if_ne (tgt := 35) hx hb dX0_checkPurposes_22 (by decide) (fun c22 => absurd hq2 c22) (fun c22 => ?_)
  exact t_thr (ik := 88) (is := 198) (ic := 92) hx hb hlf hown (by decide +kernel) (by decide +kernel) hts (by decide +kernel) (by decide +kernel) (by decide +kernel) (by decide +kernel) (by decide +kernel) hE (t := "the set of purposes is empty") (by decide +kernel) (by rw [hml]; exact hl.1) dX0_checkPurposes_25 dX0_checkPurposes_28 dX0_checkPurposes_29 dX0_checkPurposes_31 dX0_checkPurposes_34 hnt (Nat.le_of_ble_eq_true rfl) (Nat.le_of_ble_eq_true rfl) (Nat.le_of_ble_eq_true rfl) (Nat.le_of_ble_eq_true rfl) hlocks
theorem k_X0_checkPurposes_tB {p : Program} {l : Launch} {e : Env} {R : Room} {s : State} {m : MethodId} {args : Array Value} {below : List Frame} {meth : Method} {c : Code} {cc : ByteArray} {pc : Nat} {ls : Array Slot} {rest : List Value} {Ts : List Cond} (D : va_G) (tI tZ tL : ClassId) (h0 : Nat) (ad : Nat → Nat) (σ : ST) (P : Int32) (np : Nat) (hnp : σ.1 1 = nI np) (hn8 : np ≤ 8) (hq1 : P &&& ((bI np - 1) ^^^ (-1)) = 0) (hq2 : P = 0) {Qc : Array Value → State → Outcome → State → Prop} {own : String} {idx nL : Nat} (S : CallFix p m c cc nL s args Ts own) (hG : GoodIn Ts (wsV own idx RX0 yX0_checkPurposes wsX0_checkPurposes)) (hR : ({ frames := 6, cells := 1, slots := 6, locals := 140 } : Room).frames + 1 ≤ R.frames ∧ 8 + (2 + 11) + ({ frames := 6, cells := 1, slots := 6, locals := 140 } : Room).locals ≤ R.locals) (hsz : ls.size = nL) (hrm : (rest.map fun v => v.category).sum ≤ 8) (hlf : l.stackTraces = false) (hcap : 1 ≤ R.cells ∧ 6 ≤ R.slots) (hE : e_E s s.heap) (hK : va_K D vwCl (kTY tI tZ tL) s) (hP : va_P D vwCl (x_W tI tZ h0 ad σ) s.heap) (hlocks : meth.locks = false) (hnt : ∀ x ∈ c.exceptionTable.toList, False) (hdg : decode cc pc = .ok (.invokevirtual idx, 3)) : W p l e R s m args below meth c s.heap [] 0 0 (vx_MQ below Qc (e_X "java/lang/IllegalArgumentException") args s 1 6 q_no) (F0 m pc ls (.int P :: .ref h0 :: rest)) :=
  t_pass (vx_runV (As := [.int P]) (rest := rest) S (c_X0_checkPurposes_tB l D tI tZ tL h0 ad σ P np hnp hn8 hq1 hq2 hlf) (cwV 1 S.2.2.2.2 hG rfl rfl rfl (by decide +kernel) hR) (t_pre hK hP hE) rfl rfl hsz rfl (lv_room hrm) hdg ⟨by omega, by omega⟩) hnt hlocks

set_option maxHeartbeats 4000000 in
set_option maxRecDepth 100000 in
theorem c_X0_consents_t (l : Launch) (D : va_G) (tI tZ tL : ClassId) (h0 : Nat) (ad : Nat → Nat) (σ : ST) (v : Int32) (hv : v < 0 ∨ 12 ≤ v) (hlf : l.stackTraces = false) : vx_Met l yX0_consents wsX0_consents ({ frames := 7, cells := 1, slots := 6, locals := 161 } : Room) (va_Pc ([.ref h0, .int v] : List Value) (t_B D tI tZ tL h0 ad σ)) t_N (e_X "java/lang/IndexOutOfBoundsException") 1 6 q_no := by
  refine t_met (cc := cX0_consents) (maxL := 2) (ret := (some .int)) (by decide) rfl (Nat.le_of_ble_eq_true rfl) ?_
  intro p e s m below meth c hx hb hml hr hts hown hlocks hnt hB ls hl
  have hown : s.vm.findClass RX0 = some m.cls := hown
  obtain ⟨hP, hK, hE⟩ := hB
  have hl : lv_has ls 2 [(0, .ref h0), (1, .int v)] := hl
  refine lv_aload_n hx hb dX0_consents_0 rfl (lv_at hl 0 rfl) ?_
  refine lv_iload_n hx hb dX0_consents_1 rfl (lv_at hl 1 rfl) ?_
  exact k_X0_checkSubject_t D tI tZ tL h0 ad σ v hv ⟨hx, hb, hml, hown, hts⟩ gX0_consents_X0_checkSubject ⟨Nat.le_of_ble_eq_true rfl, Nat.le_of_ble_eq_true rfl⟩ hl.1 (Nat.le_of_ble_eq_true rfl) hlf ⟨Nat.le_of_ble_eq_true rfl, Nat.le_of_ble_eq_true rfl⟩ hE hK hP hlocks hnt dX0_consents_2
theorem k_X0_consents_t {p : Program} {l : Launch} {e : Env} {R : Room} {s : State} {m : MethodId} {args : Array Value} {below : List Frame} {meth : Method} {c : Code} {cc : ByteArray} {pc : Nat} {ls : Array Slot} {rest : List Value} {Ts : List Cond} (D : va_G) (tI tZ tL : ClassId) (h0 : Nat) (ad : Nat → Nat) (σ : ST) (v : Int32) (hv : v < 0 ∨ 12 ≤ v) {Qc : Array Value → State → Outcome → State → Prop} {own : String} {idx nL : Nat} (S : CallFix p m c cc nL s args Ts own) (hG : GoodIn Ts (wsV own idx RX0 yX0_consents wsX0_consents)) (hR : ({ frames := 7, cells := 1, slots := 6, locals := 161 } : Room).frames + 1 ≤ R.frames ∧ 8 + (2 + 11) + ({ frames := 7, cells := 1, slots := 6, locals := 161 } : Room).locals ≤ R.locals) (hsz : ls.size = nL) (hrm : (rest.map fun v => v.category).sum ≤ 8) (hlf : l.stackTraces = false) (hcap : 1 ≤ R.cells ∧ 6 ≤ R.slots) (hE : e_E s s.heap) (hK : va_K D vwCl (kTY tI tZ tL) s) (hP : va_P D vwCl (x_W tI tZ h0 ad σ) s.heap) (hlocks : meth.locks = false) (hnt : ∀ x ∈ c.exceptionTable.toList, False) (hdg : decode cc pc = .ok (.invokevirtual idx, 3)) : W p l e R s m args below meth c s.heap [] 0 0 (vx_MQ below Qc (e_X "java/lang/IndexOutOfBoundsException") args s 1 6 q_no) (F0 m pc ls (.int v :: .ref h0 :: rest)) :=
  t_pass (vx_runV (As := [.int v]) (rest := rest) S (c_X0_consents_t l D tI tZ tL h0 ad σ v hv hlf) (cwV 1 S.2.2.2.2 hG rfl rfl rfl (by decide +kernel) hR) (t_pre hK hP hE) rfl rfl hsz rfl (lv_room hrm) hdg ⟨by omega, by omega⟩) hnt hlocks

set_option maxHeartbeats 4000000 in
set_option maxRecDepth 100000 in
theorem c_X0_request_t (l : Launch) (D : va_G) (tI tZ tL : ClassId) (h0 : Nat) (ad : Nat → Nat) (σ : ST) (v : Int32) (hv : v < 0 ∨ 12 ≤ v) (hlf : l.stackTraces = false) : vx_Met l yX0_request wsX0_request ({ frames := 7, cells := 1, slots := 6, locals := 161 } : Room) (va_Pc ([.ref h0, .int v] : List Value) (t_B D tI tZ tL h0 ad σ)) t_N (e_X "java/lang/IndexOutOfBoundsException") 1 6 q_no := by
  refine t_met (cc := cX0_request) (maxL := 2) (ret := (some .int)) (by decide) rfl (Nat.le_of_ble_eq_true rfl) ?_
  intro p e s m below meth c hx hb hml hr hts hown hlocks hnt hB ls hl
  have hown : s.vm.findClass RX0 = some m.cls := hown
  obtain ⟨hP, hK, hE⟩ := hB
  have hl : lv_has ls 2 [(0, .ref h0), (1, .int v)] := hl
  refine lv_aload_n hx hb dX0_request_0 rfl (lv_at hl 0 rfl) ?_
  refine lv_iload_n hx hb dX0_request_1 rfl (lv_at hl 1 rfl) ?_
  exact k_X0_checkSubject_t D tI tZ tL h0 ad σ v hv ⟨hx, hb, hml, hown, hts⟩ gX0_request_X0_checkSubject ⟨Nat.le_of_ble_eq_true rfl, Nat.le_of_ble_eq_true rfl⟩ hl.1 (Nat.le_of_ble_eq_true rfl) hlf ⟨Nat.le_of_ble_eq_true rfl, Nat.le_of_ble_eq_true rfl⟩ hE hK hP hlocks hnt dX0_request_2
theorem k_X0_request_t {p : Program} {l : Launch} {e : Env} {R : Room} {s : State} {m : MethodId} {args : Array Value} {below : List Frame} {meth : Method} {c : Code} {cc : ByteArray} {pc : Nat} {ls : Array Slot} {rest : List Value} {Ts : List Cond} (D : va_G) (tI tZ tL : ClassId) (h0 : Nat) (ad : Nat → Nat) (σ : ST) (v : Int32) (hv : v < 0 ∨ 12 ≤ v) {Qc : Array Value → State → Outcome → State → Prop} {own : String} {idx nL : Nat} (S : CallFix p m c cc nL s args Ts own) (hG : GoodIn Ts (wsV own idx RX0 yX0_request wsX0_request)) (hR : ({ frames := 7, cells := 1, slots := 6, locals := 161 } : Room).frames + 1 ≤ R.frames ∧ 8 + (2 + 11) + ({ frames := 7, cells := 1, slots := 6, locals := 161 } : Room).locals ≤ R.locals) (hsz : ls.size = nL) (hrm : (rest.map fun v => v.category).sum ≤ 8) (hlf : l.stackTraces = false) (hcap : 1 ≤ R.cells ∧ 6 ≤ R.slots) (hE : e_E s s.heap) (hK : va_K D vwCl (kTY tI tZ tL) s) (hP : va_P D vwCl (x_W tI tZ h0 ad σ) s.heap) (hlocks : meth.locks = false) (hnt : ∀ x ∈ c.exceptionTable.toList, False) (hdg : decode cc pc = .ok (.invokevirtual idx, 3)) : W p l e R s m args below meth c s.heap [] 0 0 (vx_MQ below Qc (e_X "java/lang/IndexOutOfBoundsException") args s 1 6 q_no) (F0 m pc ls (.int v :: .ref h0 :: rest)) :=
  t_pass (vx_runV (As := [.int v]) (rest := rest) S (c_X0_request_t l D tI tZ tL h0 ad σ v hv hlf) (cwV 1 S.2.2.2.2 hG rfl rfl rfl (by decide +kernel) hR) (t_pre hK hP hE) rfl rfl hsz rfl (lv_room hrm) hdg ⟨by omega, by omega⟩) hnt hlocks

set_option maxHeartbeats 4000000 in
set_option maxRecDepth 100000 in
theorem c_X0_traces_t (l : Launch) (D : va_G) (tI tZ tL : ClassId) (h0 : Nat) (ad : Nat → Nat) (σ : ST) (v : Int32) (hv : v < 0 ∨ 12 ≤ v) (hlf : l.stackTraces = false) : vx_Met l yX0_traces wsX0_traces ({ frames := 7, cells := 1, slots := 6, locals := 161 } : Room) (va_Pc ([.ref h0, .int v] : List Value) (t_B D tI tZ tL h0 ad σ)) t_N (e_X "java/lang/IndexOutOfBoundsException") 1 6 q_no := by
  refine t_met (cc := cX0_traces) (maxL := 2) (ret := (some .int)) (by decide) rfl (Nat.le_of_ble_eq_true rfl) ?_
  intro p e s m below meth c hx hb hml hr hts hown hlocks hnt hB ls hl
  have hown : s.vm.findClass RX0 = some m.cls := hown
  obtain ⟨hP, hK, hE⟩ := hB
  have hl : lv_has ls 2 [(0, .ref h0), (1, .int v)] := hl
  refine lv_aload_n hx hb dX0_traces_0 rfl (lv_at hl 0 rfl) ?_
  refine lv_iload_n hx hb dX0_traces_1 rfl (lv_at hl 1 rfl) ?_
  exact k_X0_checkSubject_t D tI tZ tL h0 ad σ v hv ⟨hx, hb, hml, hown, hts⟩ gX0_traces_X0_checkSubject ⟨Nat.le_of_ble_eq_true rfl, Nat.le_of_ble_eq_true rfl⟩ hl.1 (Nat.le_of_ble_eq_true rfl) hlf ⟨Nat.le_of_ble_eq_true rfl, Nat.le_of_ble_eq_true rfl⟩ hE hK hP hlocks hnt dX0_traces_2
theorem k_X0_traces_t {p : Program} {l : Launch} {e : Env} {R : Room} {s : State} {m : MethodId} {args : Array Value} {below : List Frame} {meth : Method} {c : Code} {cc : ByteArray} {pc : Nat} {ls : Array Slot} {rest : List Value} {Ts : List Cond} (D : va_G) (tI tZ tL : ClassId) (h0 : Nat) (ad : Nat → Nat) (σ : ST) (v : Int32) (hv : v < 0 ∨ 12 ≤ v) {Qc : Array Value → State → Outcome → State → Prop} {own : String} {idx nL : Nat} (S : CallFix p m c cc nL s args Ts own) (hG : GoodIn Ts (wsV own idx RX0 yX0_traces wsX0_traces)) (hR : ({ frames := 7, cells := 1, slots := 6, locals := 161 } : Room).frames + 1 ≤ R.frames ∧ 8 + (2 + 11) + ({ frames := 7, cells := 1, slots := 6, locals := 161 } : Room).locals ≤ R.locals) (hsz : ls.size = nL) (hrm : (rest.map fun v => v.category).sum ≤ 8) (hlf : l.stackTraces = false) (hcap : 1 ≤ R.cells ∧ 6 ≤ R.slots) (hE : e_E s s.heap) (hK : va_K D vwCl (kTY tI tZ tL) s) (hP : va_P D vwCl (x_W tI tZ h0 ad σ) s.heap) (hlocks : meth.locks = false) (hnt : ∀ x ∈ c.exceptionTable.toList, False) (hdg : decode cc pc = .ok (.invokevirtual idx, 3)) : W p l e R s m args below meth c s.heap [] 0 0 (vx_MQ below Qc (e_X "java/lang/IndexOutOfBoundsException") args s 1 6 q_no) (F0 m pc ls (.int v :: .ref h0 :: rest)) :=
  t_pass (vx_runV (As := [.int v]) (rest := rest) S (c_X0_traces_t l D tI tZ tL h0 ad σ v hv hlf) (cwV 1 S.2.2.2.2 hG rfl rfl rfl (by decide +kernel) hR) (t_pre hK hP hE) rfl rfl hsz rfl (lv_room hrm) hdg ⟨by omega, by omega⟩) hnt hlocks

set_option maxHeartbeats 4000000 in
set_option maxRecDepth 100000 in
theorem c_X0_tracesFromRoots_t (l : Launch) (D : va_G) (tI tZ tL : ClassId) (h0 : Nat) (ad : Nat → Nat) (σ : ST) (v : Int32) (hv : v < 0 ∨ 12 ≤ v) (hlf : l.stackTraces = false) : vx_Met l yX0_tracesFromRoots wsX0_tracesFromRoots ({ frames := 7, cells := 1, slots := 6, locals := 161 } : Room) (va_Pc ([.ref h0, .int v] : List Value) (t_B D tI tZ tL h0 ad σ)) t_N (e_X "java/lang/IndexOutOfBoundsException") 1 6 q_no := by
  refine t_met (cc := cX0_tracesFromRoots) (maxL := 2) (ret := (some .int)) (by decide) rfl (Nat.le_of_ble_eq_true rfl) ?_
  intro p e s m below meth c hx hb hml hr hts hown hlocks hnt hB ls hl
  have hown : s.vm.findClass RX0 = some m.cls := hown
  obtain ⟨hP, hK, hE⟩ := hB
  have hl : lv_has ls 2 [(0, .ref h0), (1, .int v)] := hl
  refine lv_aload_n hx hb dX0_tracesFromRoots_0 rfl (lv_at hl 0 rfl) ?_
  refine lv_iload_n hx hb dX0_tracesFromRoots_1 rfl (lv_at hl 1 rfl) ?_
  exact k_X0_checkSubject_t D tI tZ tL h0 ad σ v hv ⟨hx, hb, hml, hown, hts⟩ gX0_tracesFromRoots_X0_checkSubject ⟨Nat.le_of_ble_eq_true rfl, Nat.le_of_ble_eq_true rfl⟩ hl.1 (Nat.le_of_ble_eq_true rfl) hlf ⟨Nat.le_of_ble_eq_true rfl, Nat.le_of_ble_eq_true rfl⟩ hE hK hP hlocks hnt dX0_tracesFromRoots_2
theorem k_X0_tracesFromRoots_t {p : Program} {l : Launch} {e : Env} {R : Room} {s : State} {m : MethodId} {args : Array Value} {below : List Frame} {meth : Method} {c : Code} {cc : ByteArray} {pc : Nat} {ls : Array Slot} {rest : List Value} {Ts : List Cond} (D : va_G) (tI tZ tL : ClassId) (h0 : Nat) (ad : Nat → Nat) (σ : ST) (v : Int32) (hv : v < 0 ∨ 12 ≤ v) {Qc : Array Value → State → Outcome → State → Prop} {own : String} {idx nL : Nat} (S : CallFix p m c cc nL s args Ts own) (hG : GoodIn Ts (wsV own idx RX0 yX0_tracesFromRoots wsX0_tracesFromRoots)) (hR : ({ frames := 7, cells := 1, slots := 6, locals := 161 } : Room).frames + 1 ≤ R.frames ∧ 8 + (2 + 11) + ({ frames := 7, cells := 1, slots := 6, locals := 161 } : Room).locals ≤ R.locals) (hsz : ls.size = nL) (hrm : (rest.map fun v => v.category).sum ≤ 8) (hlf : l.stackTraces = false) (hcap : 1 ≤ R.cells ∧ 6 ≤ R.slots) (hE : e_E s s.heap) (hK : va_K D vwCl (kTY tI tZ tL) s) (hP : va_P D vwCl (x_W tI tZ h0 ad σ) s.heap) (hlocks : meth.locks = false) (hnt : ∀ x ∈ c.exceptionTable.toList, False) (hdg : decode cc pc = .ok (.invokevirtual idx, 3)) : W p l e R s m args below meth c s.heap [] 0 0 (vx_MQ below Qc (e_X "java/lang/IndexOutOfBoundsException") args s 1 6 q_no) (F0 m pc ls (.int v :: .ref h0 :: rest)) :=
  t_pass (vx_runV (As := [.int v]) (rest := rest) S (c_X0_tracesFromRoots_t l D tI tZ tL h0 ad σ v hv hlf) (cwV 1 S.2.2.2.2 hG rfl rfl rfl (by decide +kernel) hR) (t_pre hK hP hE) rfl rfl hsz rfl (lv_room hrm) hdg ⟨by omega, by omega⟩) hnt hlocks

set_option maxHeartbeats 4000000 in
set_option maxRecDepth 100000 in
theorem c_X0_stateOf_t (l : Launch) (D : va_G) (tI tZ tL : ClassId) (h0 : Nat) (ad : Nat → Nat) (σ : ST) (v : Int32) (hv : v < 0 ∨ σ.1 6 ≤ v) (hlf : l.stackTraces = false) : vx_Met l yX0_stateOf wsX0_stateOf ({ frames := 7, cells := 1, slots := 6, locals := 161 } : Room) (va_Pc ([.ref h0, .int v] : List Value) (t_B D tI tZ tL h0 ad σ)) t_N (e_X "java/lang/IndexOutOfBoundsException") 1 6 q_no := by
  refine t_met (cc := cX0_stateOf) (maxL := 2) (ret := (some .int)) (by decide) rfl (Nat.le_of_ble_eq_true rfl) ?_
  intro p e s m below meth c hx hb hml hr hts hown hlocks hnt hB ls hl
  have hown : s.vm.findClass RX0 = some m.cls := hown
  obtain ⟨hP, hK, hE⟩ := hB
  have hl : lv_has ls 2 [(0, .ref h0), (1, .int v)] := hl
  refine lv_aload_n hx hb dX0_stateOf_0 rfl (lv_at hl 0 rfl) ?_
  refine lv_iload_n hx hb dX0_stateOf_1 rfl (lv_at hl 1 rfl) ?_
  exact k_X0_checkRecord_t D tI tZ tL h0 ad σ v hv ⟨hx, hb, hml, hown, hts⟩ gX0_stateOf_X0_checkRecord ⟨Nat.le_of_ble_eq_true rfl, Nat.le_of_ble_eq_true rfl⟩ hl.1 (Nat.le_of_ble_eq_true rfl) hlf ⟨Nat.le_of_ble_eq_true rfl, Nat.le_of_ble_eq_true rfl⟩ hE hK hP hlocks hnt dX0_stateOf_2
theorem k_X0_stateOf_t {p : Program} {l : Launch} {e : Env} {R : Room} {s : State} {m : MethodId} {args : Array Value} {below : List Frame} {meth : Method} {c : Code} {cc : ByteArray} {pc : Nat} {ls : Array Slot} {rest : List Value} {Ts : List Cond} (D : va_G) (tI tZ tL : ClassId) (h0 : Nat) (ad : Nat → Nat) (σ : ST) (v : Int32) (hv : v < 0 ∨ σ.1 6 ≤ v) {Qc : Array Value → State → Outcome → State → Prop} {own : String} {idx nL : Nat} (S : CallFix p m c cc nL s args Ts own) (hG : GoodIn Ts (wsV own idx RX0 yX0_stateOf wsX0_stateOf)) (hR : ({ frames := 7, cells := 1, slots := 6, locals := 161 } : Room).frames + 1 ≤ R.frames ∧ 8 + (2 + 11) + ({ frames := 7, cells := 1, slots := 6, locals := 161 } : Room).locals ≤ R.locals) (hsz : ls.size = nL) (hrm : (rest.map fun v => v.category).sum ≤ 8) (hlf : l.stackTraces = false) (hcap : 1 ≤ R.cells ∧ 6 ≤ R.slots) (hE : e_E s s.heap) (hK : va_K D vwCl (kTY tI tZ tL) s) (hP : va_P D vwCl (x_W tI tZ h0 ad σ) s.heap) (hlocks : meth.locks = false) (hnt : ∀ x ∈ c.exceptionTable.toList, False) (hdg : decode cc pc = .ok (.invokevirtual idx, 3)) : W p l e R s m args below meth c s.heap [] 0 0 (vx_MQ below Qc (e_X "java/lang/IndexOutOfBoundsException") args s 1 6 q_no) (F0 m pc ls (.int v :: .ref h0 :: rest)) :=
  t_pass (vx_runV (As := [.int v]) (rest := rest) S (c_X0_stateOf_t l D tI tZ tL h0 ad σ v hv hlf) (cwV 1 S.2.2.2.2 hG rfl rfl rfl (by decide +kernel) hR) (t_pre hK hP hE) rfl rfl hsz rfl (lv_room hrm) hdg ⟨by omega, by omega⟩) hnt hlocks

set_option maxHeartbeats 4000000 in
set_option maxRecDepth 100000 in
theorem c_X0_subjectsOf_t (l : Launch) (D : va_G) (tI tZ tL : ClassId) (h0 : Nat) (ad : Nat → Nat) (σ : ST) (v : Int32) (hv : v < 0 ∨ σ.1 6 ≤ v) (hlf : l.stackTraces = false) : vx_Met l yX0_subjectsOf wsX0_subjectsOf ({ frames := 7, cells := 1, slots := 6, locals := 161 } : Room) (va_Pc ([.ref h0, .int v] : List Value) (t_B D tI tZ tL h0 ad σ)) t_N (e_X "java/lang/IndexOutOfBoundsException") 1 6 q_no := by
  refine t_met (cc := cX0_subjectsOf) (maxL := 2) (ret := (some .int)) (by decide) rfl (Nat.le_of_ble_eq_true rfl) ?_
  intro p e s m below meth c hx hb hml hr hts hown hlocks hnt hB ls hl
  have hown : s.vm.findClass RX0 = some m.cls := hown
  obtain ⟨hP, hK, hE⟩ := hB
  have hl : lv_has ls 2 [(0, .ref h0), (1, .int v)] := hl
  refine lv_aload_n hx hb dX0_subjectsOf_0 rfl (lv_at hl 0 rfl) ?_
  refine lv_iload_n hx hb dX0_subjectsOf_1 rfl (lv_at hl 1 rfl) ?_
  exact k_X0_checkRecord_t D tI tZ tL h0 ad σ v hv ⟨hx, hb, hml, hown, hts⟩ gX0_subjectsOf_X0_checkRecord ⟨Nat.le_of_ble_eq_true rfl, Nat.le_of_ble_eq_true rfl⟩ hl.1 (Nat.le_of_ble_eq_true rfl) hlf ⟨Nat.le_of_ble_eq_true rfl, Nat.le_of_ble_eq_true rfl⟩ hE hK hP hlocks hnt dX0_subjectsOf_2
theorem k_X0_subjectsOf_t {p : Program} {l : Launch} {e : Env} {R : Room} {s : State} {m : MethodId} {args : Array Value} {below : List Frame} {meth : Method} {c : Code} {cc : ByteArray} {pc : Nat} {ls : Array Slot} {rest : List Value} {Ts : List Cond} (D : va_G) (tI tZ tL : ClassId) (h0 : Nat) (ad : Nat → Nat) (σ : ST) (v : Int32) (hv : v < 0 ∨ σ.1 6 ≤ v) {Qc : Array Value → State → Outcome → State → Prop} {own : String} {idx nL : Nat} (S : CallFix p m c cc nL s args Ts own) (hG : GoodIn Ts (wsV own idx RX0 yX0_subjectsOf wsX0_subjectsOf)) (hR : ({ frames := 7, cells := 1, slots := 6, locals := 161 } : Room).frames + 1 ≤ R.frames ∧ 8 + (2 + 11) + ({ frames := 7, cells := 1, slots := 6, locals := 161 } : Room).locals ≤ R.locals) (hsz : ls.size = nL) (hrm : (rest.map fun v => v.category).sum ≤ 8) (hlf : l.stackTraces = false) (hcap : 1 ≤ R.cells ∧ 6 ≤ R.slots) (hE : e_E s s.heap) (hK : va_K D vwCl (kTY tI tZ tL) s) (hP : va_P D vwCl (x_W tI tZ h0 ad σ) s.heap) (hlocks : meth.locks = false) (hnt : ∀ x ∈ c.exceptionTable.toList, False) (hdg : decode cc pc = .ok (.invokevirtual idx, 3)) : W p l e R s m args below meth c s.heap [] 0 0 (vx_MQ below Qc (e_X "java/lang/IndexOutOfBoundsException") args s 1 6 q_no) (F0 m pc ls (.int v :: .ref h0 :: rest)) :=
  t_pass (vx_runV (As := [.int v]) (rest := rest) S (c_X0_subjectsOf_t l D tI tZ tL h0 ad σ v hv hlf) (cwV 1 S.2.2.2.2 hG rfl rfl rfl (by decide +kernel) hR) (t_pre hK hP hE) rfl rfl hsz rfl (lv_room hrm) hdg ⟨by omega, by omega⟩) hnt hlocks

set_option maxHeartbeats 4000000 in
set_option maxRecDepth 100000 in
theorem c_X0_below_t (l : Launch) (D : va_G) (tI tZ tL : ClassId) (h0 : Nat) (ad : Nat → Nat) (σ : ST) (v : Int32) (hv : v < 0 ∨ σ.1 6 ≤ v) (hlf : l.stackTraces = false) : vx_Met l yX0_below wsX0_below ({ frames := 7, cells := 1, slots := 6, locals := 161 } : Room) (va_Pc ([.ref h0, .int v] : List Value) (t_B D tI tZ tL h0 ad σ)) t_N (e_X "java/lang/IndexOutOfBoundsException") 1 6 q_no := by
  refine t_met (cc := cX0_below) (maxL := 2) (ret := (some .int)) (by decide) rfl (Nat.le_of_ble_eq_true rfl) ?_
  intro p e s m below meth c hx hb hml hr hts hown hlocks hnt hB ls hl
  have hown : s.vm.findClass RX0 = some m.cls := hown
  obtain ⟨hP, hK, hE⟩ := hB
  have hl : lv_has ls 2 [(0, .ref h0), (1, .int v)] := hl
  refine lv_aload_n hx hb dX0_below_0 rfl (lv_at hl 0 rfl) ?_
  refine lv_iload_n hx hb dX0_below_1 rfl (lv_at hl 1 rfl) ?_
  exact k_X0_checkRecord_t D tI tZ tL h0 ad σ v hv ⟨hx, hb, hml, hown, hts⟩ gX0_below_X0_checkRecord ⟨Nat.le_of_ble_eq_true rfl, Nat.le_of_ble_eq_true rfl⟩ hl.1 (Nat.le_of_ble_eq_true rfl) hlf ⟨Nat.le_of_ble_eq_true rfl, Nat.le_of_ble_eq_true rfl⟩ hE hK hP hlocks hnt dX0_below_2
theorem k_X0_below_t {p : Program} {l : Launch} {e : Env} {R : Room} {s : State} {m : MethodId} {args : Array Value} {below : List Frame} {meth : Method} {c : Code} {cc : ByteArray} {pc : Nat} {ls : Array Slot} {rest : List Value} {Ts : List Cond} (D : va_G) (tI tZ tL : ClassId) (h0 : Nat) (ad : Nat → Nat) (σ : ST) (v : Int32) (hv : v < 0 ∨ σ.1 6 ≤ v) {Qc : Array Value → State → Outcome → State → Prop} {own : String} {idx nL : Nat} (S : CallFix p m c cc nL s args Ts own) (hG : GoodIn Ts (wsV own idx RX0 yX0_below wsX0_below)) (hR : ({ frames := 7, cells := 1, slots := 6, locals := 161 } : Room).frames + 1 ≤ R.frames ∧ 8 + (2 + 11) + ({ frames := 7, cells := 1, slots := 6, locals := 161 } : Room).locals ≤ R.locals) (hsz : ls.size = nL) (hrm : (rest.map fun v => v.category).sum ≤ 8) (hlf : l.stackTraces = false) (hcap : 1 ≤ R.cells ∧ 6 ≤ R.slots) (hE : e_E s s.heap) (hK : va_K D vwCl (kTY tI tZ tL) s) (hP : va_P D vwCl (x_W tI tZ h0 ad σ) s.heap) (hlocks : meth.locks = false) (hnt : ∀ x ∈ c.exceptionTable.toList, False) (hdg : decode cc pc = .ok (.invokevirtual idx, 3)) : W p l e R s m args below meth c s.heap [] 0 0 (vx_MQ below Qc (e_X "java/lang/IndexOutOfBoundsException") args s 1 6 q_no) (F0 m pc ls (.int v :: .ref h0 :: rest)) :=
  t_pass (vx_runV (As := [.int v]) (rest := rest) S (c_X0_below_t l D tI tZ tL h0 ad σ v hv hlf) (cwV 1 S.2.2.2.2 hG rfl rfl rfl (by decide +kernel) hR) (t_pre hK hP hE) rfl rfl hsz rfl (lv_room hrm) hdg ⟨by omega, by omega⟩) hnt hlocks

set_option maxHeartbeats 4000000 in
set_option maxRecDepth 100000 in
theorem c_X0_endOf_t (l : Launch) (D : va_G) (tI tZ tL : ClassId) (h0 : Nat) (ad : Nat → Nat) (σ : ST) (v : Int32) (hv : v < 0 ∨ σ.1 6 ≤ v) (hlf : l.stackTraces = false) : vx_Met l yX0_endOf wsX0_endOf ({ frames := 7, cells := 1, slots := 6, locals := 161 } : Room) (va_Pc ([.ref h0, .int v] : List Value) (t_B D tI tZ tL h0 ad σ)) t_N (e_X "java/lang/IndexOutOfBoundsException") 1 6 q_no := by
  refine t_met (cc := cX0_endOf) (maxL := 2) (ret := (some .int)) (by decide) rfl (Nat.le_of_ble_eq_true rfl) ?_
  intro p e s m below meth c hx hb hml hr hts hown hlocks hnt hB ls hl
  have hown : s.vm.findClass RX0 = some m.cls := hown
  obtain ⟨hP, hK, hE⟩ := hB
  have hl : lv_has ls 2 [(0, .ref h0), (1, .int v)] := hl
  refine lv_aload_n hx hb dX0_endOf_0 rfl (lv_at hl 0 rfl) ?_
  refine lv_iload_n hx hb dX0_endOf_1 rfl (lv_at hl 1 rfl) ?_
  exact k_X0_checkRecord_t D tI tZ tL h0 ad σ v hv ⟨hx, hb, hml, hown, hts⟩ gX0_endOf_X0_checkRecord ⟨Nat.le_of_ble_eq_true rfl, Nat.le_of_ble_eq_true rfl⟩ hl.1 (Nat.le_of_ble_eq_true rfl) hlf ⟨Nat.le_of_ble_eq_true rfl, Nat.le_of_ble_eq_true rfl⟩ hE hK hP hlocks hnt dX0_endOf_2
theorem k_X0_endOf_t {p : Program} {l : Launch} {e : Env} {R : Room} {s : State} {m : MethodId} {args : Array Value} {below : List Frame} {meth : Method} {c : Code} {cc : ByteArray} {pc : Nat} {ls : Array Slot} {rest : List Value} {Ts : List Cond} (D : va_G) (tI tZ tL : ClassId) (h0 : Nat) (ad : Nat → Nat) (σ : ST) (v : Int32) (hv : v < 0 ∨ σ.1 6 ≤ v) {Qc : Array Value → State → Outcome → State → Prop} {own : String} {idx nL : Nat} (S : CallFix p m c cc nL s args Ts own) (hG : GoodIn Ts (wsV own idx RX0 yX0_endOf wsX0_endOf)) (hR : ({ frames := 7, cells := 1, slots := 6, locals := 161 } : Room).frames + 1 ≤ R.frames ∧ 8 + (2 + 11) + ({ frames := 7, cells := 1, slots := 6, locals := 161 } : Room).locals ≤ R.locals) (hsz : ls.size = nL) (hrm : (rest.map fun v => v.category).sum ≤ 8) (hlf : l.stackTraces = false) (hcap : 1 ≤ R.cells ∧ 6 ≤ R.slots) (hE : e_E s s.heap) (hK : va_K D vwCl (kTY tI tZ tL) s) (hP : va_P D vwCl (x_W tI tZ h0 ad σ) s.heap) (hlocks : meth.locks = false) (hnt : ∀ x ∈ c.exceptionTable.toList, False) (hdg : decode cc pc = .ok (.invokevirtual idx, 3)) : W p l e R s m args below meth c s.heap [] 0 0 (vx_MQ below Qc (e_X "java/lang/IndexOutOfBoundsException") args s 1 6 q_no) (F0 m pc ls (.int v :: .ref h0 :: rest)) :=
  t_pass (vx_runV (As := [.int v]) (rest := rest) S (c_X0_endOf_t l D tI tZ tL h0 ad σ v hv hlf) (cwV 1 S.2.2.2.2 hG rfl rfl rfl (by decide +kernel) hR) (t_pre hK hP hE) rfl rfl hsz rfl (lv_room hrm) hdg ⟨by omega, by omega⟩) hnt hlocks

set_option maxHeartbeats 4000000 in
set_option maxRecDepth 100000 in
theorem c_X0_whyKept_t (l : Launch) (D : va_G) (tI tZ tL : ClassId) (h0 : Nat) (ad : Nat → Nat) (σ : ST) (v : Int32) (hv : v < 0 ∨ σ.1 6 ≤ v) (hlf : l.stackTraces = false) : vx_Met l yX0_whyKept wsX0_whyKept ({ frames := 7, cells := 1, slots := 6, locals := 161 } : Room) (va_Pc ([.ref h0, .int v] : List Value) (t_B D tI tZ tL h0 ad σ)) t_N (e_X "java/lang/IndexOutOfBoundsException") 1 6 q_no := by
  refine t_met (cc := cX0_whyKept) (maxL := 2) (ret := (some .int)) (by decide) rfl (Nat.le_of_ble_eq_true rfl) ?_
  intro p e s m below meth c hx hb hml hr hts hown hlocks hnt hB ls hl
  have hown : s.vm.findClass RX0 = some m.cls := hown
  obtain ⟨hP, hK, hE⟩ := hB
  have hl : lv_has ls 2 [(0, .ref h0), (1, .int v)] := hl
  refine lv_aload_n hx hb dX0_whyKept_0 rfl (lv_at hl 0 rfl) ?_
  refine lv_iload_n hx hb dX0_whyKept_1 rfl (lv_at hl 1 rfl) ?_
  exact k_X0_checkRecord_t D tI tZ tL h0 ad σ v hv ⟨hx, hb, hml, hown, hts⟩ gX0_whyKept_X0_checkRecord ⟨Nat.le_of_ble_eq_true rfl, Nat.le_of_ble_eq_true rfl⟩ hl.1 (Nat.le_of_ble_eq_true rfl) hlf ⟨Nat.le_of_ble_eq_true rfl, Nat.le_of_ble_eq_true rfl⟩ hE hK hP hlocks hnt dX0_whyKept_2
theorem k_X0_whyKept_t {p : Program} {l : Launch} {e : Env} {R : Room} {s : State} {m : MethodId} {args : Array Value} {below : List Frame} {meth : Method} {c : Code} {cc : ByteArray} {pc : Nat} {ls : Array Slot} {rest : List Value} {Ts : List Cond} (D : va_G) (tI tZ tL : ClassId) (h0 : Nat) (ad : Nat → Nat) (σ : ST) (v : Int32) (hv : v < 0 ∨ σ.1 6 ≤ v) {Qc : Array Value → State → Outcome → State → Prop} {own : String} {idx nL : Nat} (S : CallFix p m c cc nL s args Ts own) (hG : GoodIn Ts (wsV own idx RX0 yX0_whyKept wsX0_whyKept)) (hR : ({ frames := 7, cells := 1, slots := 6, locals := 161 } : Room).frames + 1 ≤ R.frames ∧ 8 + (2 + 11) + ({ frames := 7, cells := 1, slots := 6, locals := 161 } : Room).locals ≤ R.locals) (hsz : ls.size = nL) (hrm : (rest.map fun v => v.category).sum ≤ 8) (hlf : l.stackTraces = false) (hcap : 1 ≤ R.cells ∧ 6 ≤ R.slots) (hE : e_E s s.heap) (hK : va_K D vwCl (kTY tI tZ tL) s) (hP : va_P D vwCl (x_W tI tZ h0 ad σ) s.heap) (hlocks : meth.locks = false) (hnt : ∀ x ∈ c.exceptionTable.toList, False) (hdg : decode cc pc = .ok (.invokevirtual idx, 3)) : W p l e R s m args below meth c s.heap [] 0 0 (vx_MQ below Qc (e_X "java/lang/IndexOutOfBoundsException") args s 1 6 q_no) (F0 m pc ls (.int v :: .ref h0 :: rest)) :=
  t_pass (vx_runV (As := [.int v]) (rest := rest) S (c_X0_whyKept_t l D tI tZ tL h0 ad σ v hv hlf) (cwV 1 S.2.2.2.2 hG rfl rfl rfl (by decide +kernel) hR) (t_pre hK hP hE) rfl rfl hsz rfl (lv_room hrm) hdg ⟨by omega, by omega⟩) hnt hlocks

set_option maxHeartbeats 4000000 in
set_option maxRecDepth 100000 in
theorem c_X0_close_t (l : Launch) (D : va_G) (tI tZ tL : ClassId) (h0 : Nat) (ad : Nat → Nat) (σ : ST) (v : Int32) (hv : v < 0 ∨ 6 ≤ v) (hlf : l.stackTraces = false) : vx_Met l yX0_close wsX0_close ({ frames := 7, cells := 1, slots := 6, locals := 161 } : Room) (va_Pc ([.ref h0, .int v] : List Value) (t_B D tI tZ tL h0 ad σ)) t_N (e_X "java/lang/IndexOutOfBoundsException") 1 6 q_no := by
  refine t_met (cc := cX0_close) (maxL := 3) (ret := (some .int)) (by decide) rfl (Nat.le_of_ble_eq_true rfl) ?_
  intro p e s m below meth c hx hb hml hr hts hown hlocks hnt hB ls hl
  have hown : s.vm.findClass RX0 = some m.cls := hown
  obtain ⟨hP, hK, hE⟩ := hB
  have hl : lv_has ls 3 [(0, .ref h0), (1, .int v)] := hl
  refine lv_aload_n hx hb dX0_close_0 rfl (lv_at hl 0 rfl) ?_
  refine lv_iload_n hx hb dX0_close_1 rfl (lv_at hl 1 rfl) ?_
  exact k_X0_checkCase_t D tI tZ tL h0 ad σ v hv ⟨hx, hb, hml, hown, hts⟩ gX0_close_X0_checkCase ⟨Nat.le_of_ble_eq_true rfl, Nat.le_of_ble_eq_true rfl⟩ hl.1 (Nat.le_of_ble_eq_true rfl) hlf ⟨Nat.le_of_ble_eq_true rfl, Nat.le_of_ble_eq_true rfl⟩ hE hK hP hlocks hnt dX0_close_2
theorem k_X0_close_t {p : Program} {l : Launch} {e : Env} {R : Room} {s : State} {m : MethodId} {args : Array Value} {below : List Frame} {meth : Method} {c : Code} {cc : ByteArray} {pc : Nat} {ls : Array Slot} {rest : List Value} {Ts : List Cond} (D : va_G) (tI tZ tL : ClassId) (h0 : Nat) (ad : Nat → Nat) (σ : ST) (v : Int32) (hv : v < 0 ∨ 6 ≤ v) {Qc : Array Value → State → Outcome → State → Prop} {own : String} {idx nL : Nat} (S : CallFix p m c cc nL s args Ts own) (hG : GoodIn Ts (wsV own idx RX0 yX0_close wsX0_close)) (hR : ({ frames := 7, cells := 1, slots := 6, locals := 161 } : Room).frames + 1 ≤ R.frames ∧ 8 + (3 + 11) + ({ frames := 7, cells := 1, slots := 6, locals := 161 } : Room).locals ≤ R.locals) (hsz : ls.size = nL) (hrm : (rest.map fun v => v.category).sum ≤ 8) (hlf : l.stackTraces = false) (hcap : 1 ≤ R.cells ∧ 6 ≤ R.slots) (hE : e_E s s.heap) (hK : va_K D vwCl (kTY tI tZ tL) s) (hP : va_P D vwCl (x_W tI tZ h0 ad σ) s.heap) (hlocks : meth.locks = false) (hnt : ∀ x ∈ c.exceptionTable.toList, False) (hdg : decode cc pc = .ok (.invokevirtual idx, 3)) : W p l e R s m args below meth c s.heap [] 0 0 (vx_MQ below Qc (e_X "java/lang/IndexOutOfBoundsException") args s 1 6 q_no) (F0 m pc ls (.int v :: .ref h0 :: rest)) :=
  t_pass (vx_runV (As := [.int v]) (rest := rest) S (c_X0_close_t l D tI tZ tL h0 ad σ v hv hlf) (cwV 1 S.2.2.2.2 hG rfl rfl rfl (by decide +kernel) hR) (t_pre hK hP hE) rfl rfl hsz rfl (lv_room hrm) hdg ⟨by omega, by omega⟩) hnt hlocks

set_option maxHeartbeats 4000000 in
set_option maxRecDepth 100000 in
theorem c_X0_passDays_t (l : Launch) (D : va_G) (tI tZ tL : ClassId) (h0 : Nat) (ad : Nat → Nat) (σ : ST) (v : Int32) (hv : v < 1 ∨ ¬ v ≤ 1000) (hlf : l.stackTraces = false) : vx_Met l yX0_passDays wsX0_passDays ({ frames := 6, cells := 1, slots := 6, locals := 140 } : Room) (va_Pc ([.ref h0, .int v] : List Value) (t_B D tI tZ tL h0 ad σ)) t_N (e_X "java/lang/IllegalArgumentException") 1 6 q_no := by
  refine t_met (cc := cX0_passDays) (maxL := 2) (ret := (some .int)) (by decide) rfl (Nat.le_of_ble_eq_true rfl) ?_
  intro p e s m below meth c hx hb hml hr hts hown hlocks hnt hB ls hl
  have hown : s.vm.findClass RX0 = some m.cls := hown
  obtain ⟨hP, hK, hE⟩ := hB
  have hl : lv_has ls 2 [(0, .ref h0), (1, .int v)] := hl
  refine lv_iload_n hx hb dX0_passDays_0 rfl (lv_at hl 1 rfl) ?_
  refine lv_iconst (v := 1) hx hb dX0_passDays_1 (by decide) ?_
  refine lv_icmp_lt (tgt := 12) hx hb dX0_passDays_2 (by decide) (fun c2 => ?_) (fun c2 => ?_)
  · exact t_thr (ik := 88) (is := 144) (ic := 92) hx hb hlf hown (by decide +kernel) (by decide +kernel) hts (by decide +kernel) (by decide +kernel) (by decide +kernel) (by decide +kernel) (by decide +kernel) hE (t := "days is out of range") (by decide +kernel) (by rw [hml]; exact hl.1) dX0_passDays_12 dX0_passDays_15 dX0_passDays_16 dX0_passDays_18 dX0_passDays_21 hnt (Nat.le_of_ble_eq_true rfl) (Nat.le_of_ble_eq_true rfl) (Nat.le_of_ble_eq_true rfl) (Nat.le_of_ble_eq_true rfl) hlocks
  · refine lv_iload_n hx hb dX0_passDays_5 rfl (lv_at hl 1 rfl) ?_
    refine lv_sipush (v := 1000) hx hb dX0_passDays_6 (by decide) ?_
    refine lv_icmp_le (tgt := 22) hx hb dX0_passDays_9 (by decide) (fun c9 => absurd c9 (hv.elim (fun h => absurd h c2) (fun h => h))) (fun c9 => ?_)
    exact t_thr (ik := 88) (is := 144) (ic := 92) hx hb hlf hown (by decide +kernel) (by decide +kernel) hts (by decide +kernel) (by decide +kernel) (by decide +kernel) (by decide +kernel) (by decide +kernel) hE (t := "days is out of range") (by decide +kernel) (by rw [hml]; exact hl.1) dX0_passDays_12 dX0_passDays_15 dX0_passDays_16 dX0_passDays_18 dX0_passDays_21 hnt (Nat.le_of_ble_eq_true rfl) (Nat.le_of_ble_eq_true rfl) (Nat.le_of_ble_eq_true rfl) (Nat.le_of_ble_eq_true rfl) hlocks
theorem k_X0_passDays_t {p : Program} {l : Launch} {e : Env} {R : Room} {s : State} {m : MethodId} {args : Array Value} {below : List Frame} {meth : Method} {c : Code} {cc : ByteArray} {pc : Nat} {ls : Array Slot} {rest : List Value} {Ts : List Cond} (D : va_G) (tI tZ tL : ClassId) (h0 : Nat) (ad : Nat → Nat) (σ : ST) (v : Int32) (hv : v < 1 ∨ ¬ v ≤ 1000) {Qc : Array Value → State → Outcome → State → Prop} {own : String} {idx nL : Nat} (S : CallFix p m c cc nL s args Ts own) (hG : GoodIn Ts (wsV own idx RX0 yX0_passDays wsX0_passDays)) (hR : ({ frames := 6, cells := 1, slots := 6, locals := 140 } : Room).frames + 1 ≤ R.frames ∧ 8 + (2 + 11) + ({ frames := 6, cells := 1, slots := 6, locals := 140 } : Room).locals ≤ R.locals) (hsz : ls.size = nL) (hrm : (rest.map fun v => v.category).sum ≤ 8) (hlf : l.stackTraces = false) (hcap : 1 ≤ R.cells ∧ 6 ≤ R.slots) (hE : e_E s s.heap) (hK : va_K D vwCl (kTY tI tZ tL) s) (hP : va_P D vwCl (x_W tI tZ h0 ad σ) s.heap) (hlocks : meth.locks = false) (hnt : ∀ x ∈ c.exceptionTable.toList, False) (hdg : decode cc pc = .ok (.invokevirtual idx, 3)) : W p l e R s m args below meth c s.heap [] 0 0 (vx_MQ below Qc (e_X "java/lang/IllegalArgumentException") args s 1 6 q_no) (F0 m pc ls (.int v :: .ref h0 :: rest)) :=
  t_pass (vx_runV (As := [.int v]) (rest := rest) S (c_X0_passDays_t l D tI tZ tL h0 ad σ v hv hlf) (cwV 1 S.2.2.2.2 hG rfl rfl rfl (by decide +kernel) hR) (t_pre hK hP hE) rfl rfl hsz rfl (lv_room hrm) hdg ⟨by omega, by omega⟩) hnt hlocks

set_option maxHeartbeats 4000000 in
set_option maxRecDepth 100000 in
theorem c_X0_consent_tA (l : Launch) (D : va_G) (tI tZ tL : ClassId) (h0 : Nat) (ad : Nat → Nat) (σ : ST) (v : Int32) (hv : v < 0 ∨ 12 ≤ v) (w : Int32) (g : Bool) (hlf : l.stackTraces = false) : vx_Met l yX0_consent wsX0_consent ({ frames := 7, cells := 1, slots := 6, locals := 161 } : Room) (va_Pc ([.ref h0, .int v, .int w, .int (b01 g)] : List Value) (t_B D tI tZ tL h0 ad σ)) t_N (e_X "java/lang/IndexOutOfBoundsException") 1 6 q_no := by
  refine t_met (cc := cX0_consent) (maxL := 4) (ret := (some .boolean)) (by decide) rfl (Nat.le_of_ble_eq_true rfl) ?_
  intro p e s m below meth c hx hb hml hr hts hown hlocks hnt hB ls hl
  have hown : s.vm.findClass RX0 = some m.cls := hown
  obtain ⟨hP, hK, hE⟩ := hB
  have hl : lv_has ls 4 [(0, .ref h0), (1, .int v), (2, .int w), (3, .int (b01 g))] := hl
  refine lv_aload_n hx hb dX0_consent_0 rfl (lv_at hl 0 rfl) ?_
  refine lv_iload_n hx hb dX0_consent_1 rfl (lv_at hl 1 rfl) ?_
  exact k_X0_checkSubject_t D tI tZ tL h0 ad σ v hv ⟨hx, hb, hml, hown, hts⟩ gX0_consent_X0_checkSubject ⟨Nat.le_of_ble_eq_true rfl, Nat.le_of_ble_eq_true rfl⟩ hl.1 (Nat.le_of_ble_eq_true rfl) hlf ⟨Nat.le_of_ble_eq_true rfl, Nat.le_of_ble_eq_true rfl⟩ hE hK hP hlocks hnt dX0_consent_2
theorem k_X0_consent_tA {p : Program} {l : Launch} {e : Env} {R : Room} {s : State} {m : MethodId} {args : Array Value} {below : List Frame} {meth : Method} {c : Code} {cc : ByteArray} {pc : Nat} {ls : Array Slot} {rest : List Value} {Ts : List Cond} (D : va_G) (tI tZ tL : ClassId) (h0 : Nat) (ad : Nat → Nat) (σ : ST) (v : Int32) (hv : v < 0 ∨ 12 ≤ v) (w : Int32) (g : Bool) {Qc : Array Value → State → Outcome → State → Prop} {own : String} {idx nL : Nat} (S : CallFix p m c cc nL s args Ts own) (hG : GoodIn Ts (wsV own idx RX0 yX0_consent wsX0_consent)) (hR : ({ frames := 7, cells := 1, slots := 6, locals := 161 } : Room).frames + 1 ≤ R.frames ∧ 8 + (4 + 11) + ({ frames := 7, cells := 1, slots := 6, locals := 161 } : Room).locals ≤ R.locals) (hsz : ls.size = nL) (hrm : (rest.map fun v => v.category).sum ≤ 8) (hlf : l.stackTraces = false) (hcap : 1 ≤ R.cells ∧ 6 ≤ R.slots) (hE : e_E s s.heap) (hK : va_K D vwCl (kTY tI tZ tL) s) (hP : va_P D vwCl (x_W tI tZ h0 ad σ) s.heap) (hlocks : meth.locks = false) (hnt : ∀ x ∈ c.exceptionTable.toList, False) (hdg : decode cc pc = .ok (.invokevirtual idx, 3)) : W p l e R s m args below meth c s.heap [] 0 0 (vx_MQ below Qc (e_X "java/lang/IndexOutOfBoundsException") args s 1 6 q_no) (F0 m pc ls (.int (b01 g) :: .int w :: .int v :: .ref h0 :: rest)) :=
  t_pass (vx_runV (As := [.int v, .int w, .int (b01 g)]) (rest := rest) S (c_X0_consent_tA l D tI tZ tL h0 ad σ v hv w g hlf) (cwV 3 S.2.2.2.2 hG rfl rfl rfl (by decide +kernel) hR) (t_pre hK hP hE) rfl rfl hsz rfl (lv_room hrm) hdg ⟨by omega, by omega⟩) hnt hlocks

set_option maxHeartbeats 4000000 in
set_option maxRecDepth 100000 in
theorem c_X0_consent_tB (l : Launch) (D : va_G) (tI tZ tL : ClassId) (h0 : Nat) (ad : Nat → Nat) (σ : ST) (j : Nat) (hj12 : j < 12) (v : Int32) (hv : v < 0 ∨ σ.1 1 ≤ v) (g : Bool) (hlf : l.stackTraces = false) : vx_Met l yX0_consent wsX0_consent ({ frames := 7, cells := 1, slots := 6, locals := 161 } : Room) (va_Pc ([.ref h0, .int (nI j), .int v, .int (b01 g)] : List Value) (t_B D tI tZ tL h0 ad σ)) t_N (e_X "java/lang/IndexOutOfBoundsException") 1 6 q_no := by
  refine t_met (cc := cX0_consent) (maxL := 4) (ret := (some .boolean)) (by decide) rfl (Nat.le_of_ble_eq_true rfl) ?_
  intro p e s m below meth c hx hb hml hr hts hown hlocks hnt hB ls hl
  have hown : s.vm.findClass RX0 = some m.cls := hown
  obtain ⟨hP, hK, hE⟩ := hB
  have hl : lv_has ls 4 [(0, .ref h0), (1, .int (nI j)), (2, .int v), (3, .int (b01 g))] := hl
  refine lv_aload_n hx hb dX0_consent_0 rfl (lv_at hl 0 rfl) ?_
  refine lv_iload_n hx hb dX0_consent_1 rfl (lv_at hl 1 rfl) ?_
  refine k_X0_checkSubject D tI tZ tL h0 ad σ j hj12 ⟨hx, hb, hml, hown, hts⟩ gX0_consent_X0_checkSubject ⟨Nat.le_of_ble_eq_true rfl, Nat.le_of_ble_eq_true rfl⟩ hl.1 ⟨Nat.zero_le _, Nat.zero_le _⟩ (Nat.le_of_ble_eq_true rfl) hK hP dX0_consent_2 ?_
  refine lv_aload_n hx hb dX0_consent_5 rfl (lv_at hl 0 rfl) ?_
  refine lv_iload_n hx hb dX0_consent_6 rfl (lv_at hl 2 rfl) ?_
  exact k_X0_checkPurpose_t D tI tZ tL h0 ad σ v hv ⟨hx, hb, hml, hown, hts⟩ gX0_consent_X0_checkPurpose ⟨Nat.le_of_ble_eq_true rfl, Nat.le_of_ble_eq_true rfl⟩ hl.1 (Nat.le_of_ble_eq_true rfl) hlf ⟨Nat.le_of_ble_eq_true rfl, Nat.le_of_ble_eq_true rfl⟩ hE hK hP hlocks hnt dX0_consent_7
theorem k_X0_consent_tB {p : Program} {l : Launch} {e : Env} {R : Room} {s : State} {m : MethodId} {args : Array Value} {below : List Frame} {meth : Method} {c : Code} {cc : ByteArray} {pc : Nat} {ls : Array Slot} {rest : List Value} {Ts : List Cond} (D : va_G) (tI tZ tL : ClassId) (h0 : Nat) (ad : Nat → Nat) (σ : ST) (j : Nat) (hj12 : j < 12) (v : Int32) (hv : v < 0 ∨ σ.1 1 ≤ v) (g : Bool) {Qc : Array Value → State → Outcome → State → Prop} {own : String} {idx nL : Nat} (S : CallFix p m c cc nL s args Ts own) (hG : GoodIn Ts (wsV own idx RX0 yX0_consent wsX0_consent)) (hR : ({ frames := 7, cells := 1, slots := 6, locals := 161 } : Room).frames + 1 ≤ R.frames ∧ 8 + (4 + 11) + ({ frames := 7, cells := 1, slots := 6, locals := 161 } : Room).locals ≤ R.locals) (hsz : ls.size = nL) (hrm : (rest.map fun v => v.category).sum ≤ 8) (hlf : l.stackTraces = false) (hcap : 1 ≤ R.cells ∧ 6 ≤ R.slots) (hE : e_E s s.heap) (hK : va_K D vwCl (kTY tI tZ tL) s) (hP : va_P D vwCl (x_W tI tZ h0 ad σ) s.heap) (hlocks : meth.locks = false) (hnt : ∀ x ∈ c.exceptionTable.toList, False) (hdg : decode cc pc = .ok (.invokevirtual idx, 3)) : W p l e R s m args below meth c s.heap [] 0 0 (vx_MQ below Qc (e_X "java/lang/IndexOutOfBoundsException") args s 1 6 q_no) (F0 m pc ls (.int (b01 g) :: .int v :: .int (nI j) :: .ref h0 :: rest)) :=
  t_pass (vx_runV (As := [.int (nI j), .int v, .int (b01 g)]) (rest := rest) S (c_X0_consent_tB l D tI tZ tL h0 ad σ j hj12 v hv g hlf) (cwV 3 S.2.2.2.2 hG rfl rfl rfl (by decide +kernel) hR) (t_pre hK hP hE) rfl rfl hsz rfl (lv_room hrm) hdg ⟨by omega, by omega⟩) hnt hlocks

set_option maxHeartbeats 4000000 in
set_option maxRecDepth 100000 in
theorem c_X0_daysWithConsent_tA (l : Launch) (D : va_G) (tI tZ tL : ClassId) (h0 : Nat) (ad : Nat → Nat) (σ : ST) (v : Int32) (hv : v < 0 ∨ 12 ≤ v) (w : Int32) (hlf : l.stackTraces = false) : vx_Met l yX0_daysWithConsent wsX0_daysWithConsent ({ frames := 7, cells := 1, slots := 6, locals := 161 } : Room) (va_Pc ([.ref h0, .int v, .int w] : List Value) (t_B D tI tZ tL h0 ad σ)) t_N (e_X "java/lang/IndexOutOfBoundsException") 1 6 q_no := by
  refine t_met (cc := cX0_daysWithConsent) (maxL := 3) (ret := (some .int)) (by decide) rfl (Nat.le_of_ble_eq_true rfl) ?_
  intro p e s m below meth c hx hb hml hr hts hown hlocks hnt hB ls hl
  have hown : s.vm.findClass RX0 = some m.cls := hown
  obtain ⟨hP, hK, hE⟩ := hB
  have hl : lv_has ls 3 [(0, .ref h0), (1, .int v), (2, .int w)] := hl
  refine lv_aload_n hx hb dX0_daysWithConsent_0 rfl (lv_at hl 0 rfl) ?_
  refine lv_iload_n hx hb dX0_daysWithConsent_1 rfl (lv_at hl 1 rfl) ?_
  exact k_X0_checkSubject_t D tI tZ tL h0 ad σ v hv ⟨hx, hb, hml, hown, hts⟩ gX0_daysWithConsent_X0_checkSubject ⟨Nat.le_of_ble_eq_true rfl, Nat.le_of_ble_eq_true rfl⟩ hl.1 (Nat.le_of_ble_eq_true rfl) hlf ⟨Nat.le_of_ble_eq_true rfl, Nat.le_of_ble_eq_true rfl⟩ hE hK hP hlocks hnt dX0_daysWithConsent_2
theorem k_X0_daysWithConsent_tA {p : Program} {l : Launch} {e : Env} {R : Room} {s : State} {m : MethodId} {args : Array Value} {below : List Frame} {meth : Method} {c : Code} {cc : ByteArray} {pc : Nat} {ls : Array Slot} {rest : List Value} {Ts : List Cond} (D : va_G) (tI tZ tL : ClassId) (h0 : Nat) (ad : Nat → Nat) (σ : ST) (v : Int32) (hv : v < 0 ∨ 12 ≤ v) (w : Int32) {Qc : Array Value → State → Outcome → State → Prop} {own : String} {idx nL : Nat} (S : CallFix p m c cc nL s args Ts own) (hG : GoodIn Ts (wsV own idx RX0 yX0_daysWithConsent wsX0_daysWithConsent)) (hR : ({ frames := 7, cells := 1, slots := 6, locals := 161 } : Room).frames + 1 ≤ R.frames ∧ 8 + (3 + 11) + ({ frames := 7, cells := 1, slots := 6, locals := 161 } : Room).locals ≤ R.locals) (hsz : ls.size = nL) (hrm : (rest.map fun v => v.category).sum ≤ 8) (hlf : l.stackTraces = false) (hcap : 1 ≤ R.cells ∧ 6 ≤ R.slots) (hE : e_E s s.heap) (hK : va_K D vwCl (kTY tI tZ tL) s) (hP : va_P D vwCl (x_W tI tZ h0 ad σ) s.heap) (hlocks : meth.locks = false) (hnt : ∀ x ∈ c.exceptionTable.toList, False) (hdg : decode cc pc = .ok (.invokevirtual idx, 3)) : W p l e R s m args below meth c s.heap [] 0 0 (vx_MQ below Qc (e_X "java/lang/IndexOutOfBoundsException") args s 1 6 q_no) (F0 m pc ls (.int w :: .int v :: .ref h0 :: rest)) :=
  t_pass (vx_runV (As := [.int v, .int w]) (rest := rest) S (c_X0_daysWithConsent_tA l D tI tZ tL h0 ad σ v hv w hlf) (cwV 2 S.2.2.2.2 hG rfl rfl rfl (by decide +kernel) hR) (t_pre hK hP hE) rfl rfl hsz rfl (lv_room hrm) hdg ⟨by omega, by omega⟩) hnt hlocks

set_option maxHeartbeats 4000000 in
set_option maxRecDepth 100000 in
theorem c_X0_daysWithConsent_tB (l : Launch) (D : va_G) (tI tZ tL : ClassId) (h0 : Nat) (ad : Nat → Nat) (σ : ST) (j : Nat) (hj12 : j < 12) (v : Int32) (hv : v < 0 ∨ σ.1 1 ≤ v) (hlf : l.stackTraces = false) : vx_Met l yX0_daysWithConsent wsX0_daysWithConsent ({ frames := 7, cells := 1, slots := 6, locals := 161 } : Room) (va_Pc ([.ref h0, .int (nI j), .int v] : List Value) (t_B D tI tZ tL h0 ad σ)) t_N (e_X "java/lang/IndexOutOfBoundsException") 1 6 q_no := by
  refine t_met (cc := cX0_daysWithConsent) (maxL := 3) (ret := (some .int)) (by decide) rfl (Nat.le_of_ble_eq_true rfl) ?_
  intro p e s m below meth c hx hb hml hr hts hown hlocks hnt hB ls hl
  have hown : s.vm.findClass RX0 = some m.cls := hown
  obtain ⟨hP, hK, hE⟩ := hB
  have hl : lv_has ls 3 [(0, .ref h0), (1, .int (nI j)), (2, .int v)] := hl
  refine lv_aload_n hx hb dX0_daysWithConsent_0 rfl (lv_at hl 0 rfl) ?_
  refine lv_iload_n hx hb dX0_daysWithConsent_1 rfl (lv_at hl 1 rfl) ?_
  refine k_X0_checkSubject D tI tZ tL h0 ad σ j hj12 ⟨hx, hb, hml, hown, hts⟩ gX0_daysWithConsent_X0_checkSubject ⟨Nat.le_of_ble_eq_true rfl, Nat.le_of_ble_eq_true rfl⟩ hl.1 ⟨Nat.zero_le _, Nat.zero_le _⟩ (Nat.le_of_ble_eq_true rfl) hK hP dX0_daysWithConsent_2 ?_
  refine lv_aload_n hx hb dX0_daysWithConsent_5 rfl (lv_at hl 0 rfl) ?_
  refine lv_iload_n hx hb dX0_daysWithConsent_6 rfl (lv_at hl 2 rfl) ?_
  exact k_X0_checkPurpose_t D tI tZ tL h0 ad σ v hv ⟨hx, hb, hml, hown, hts⟩ gX0_daysWithConsent_X0_checkPurpose ⟨Nat.le_of_ble_eq_true rfl, Nat.le_of_ble_eq_true rfl⟩ hl.1 (Nat.le_of_ble_eq_true rfl) hlf ⟨Nat.le_of_ble_eq_true rfl, Nat.le_of_ble_eq_true rfl⟩ hE hK hP hlocks hnt dX0_daysWithConsent_7
theorem k_X0_daysWithConsent_tB {p : Program} {l : Launch} {e : Env} {R : Room} {s : State} {m : MethodId} {args : Array Value} {below : List Frame} {meth : Method} {c : Code} {cc : ByteArray} {pc : Nat} {ls : Array Slot} {rest : List Value} {Ts : List Cond} (D : va_G) (tI tZ tL : ClassId) (h0 : Nat) (ad : Nat → Nat) (σ : ST) (j : Nat) (hj12 : j < 12) (v : Int32) (hv : v < 0 ∨ σ.1 1 ≤ v) {Qc : Array Value → State → Outcome → State → Prop} {own : String} {idx nL : Nat} (S : CallFix p m c cc nL s args Ts own) (hG : GoodIn Ts (wsV own idx RX0 yX0_daysWithConsent wsX0_daysWithConsent)) (hR : ({ frames := 7, cells := 1, slots := 6, locals := 161 } : Room).frames + 1 ≤ R.frames ∧ 8 + (3 + 11) + ({ frames := 7, cells := 1, slots := 6, locals := 161 } : Room).locals ≤ R.locals) (hsz : ls.size = nL) (hrm : (rest.map fun v => v.category).sum ≤ 8) (hlf : l.stackTraces = false) (hcap : 1 ≤ R.cells ∧ 6 ≤ R.slots) (hE : e_E s s.heap) (hK : va_K D vwCl (kTY tI tZ tL) s) (hP : va_P D vwCl (x_W tI tZ h0 ad σ) s.heap) (hlocks : meth.locks = false) (hnt : ∀ x ∈ c.exceptionTable.toList, False) (hdg : decode cc pc = .ok (.invokevirtual idx, 3)) : W p l e R s m args below meth c s.heap [] 0 0 (vx_MQ below Qc (e_X "java/lang/IndexOutOfBoundsException") args s 1 6 q_no) (F0 m pc ls (.int v :: .int (nI j) :: .ref h0 :: rest)) :=
  t_pass (vx_runV (As := [.int (nI j), .int v]) (rest := rest) S (c_X0_daysWithConsent_tB l D tI tZ tL h0 ad σ j hj12 v hv hlf) (cwV 2 S.2.2.2.2 hG rfl rfl rfl (by decide +kernel) hR) (t_pre hK hP hE) rfl rfl hsz rfl (lv_room hrm) hdg ⟨by omega, by omega⟩) hnt hlocks

set_option maxHeartbeats 4000000 in
set_option maxRecDepth 100000 in
theorem c_X0_uses_tA (l : Launch) (D : va_G) (tI tZ tL : ClassId) (h0 : Nat) (ad : Nat → Nat) (σ : ST) (v : Int32) (hv : v < 0 ∨ 12 ≤ v) (w : Int32) (hlf : l.stackTraces = false) : vx_Met l yX0_uses wsX0_uses ({ frames := 7, cells := 1, slots := 6, locals := 161 } : Room) (va_Pc ([.ref h0, .int v, .int w] : List Value) (t_B D tI tZ tL h0 ad σ)) t_N (e_X "java/lang/IndexOutOfBoundsException") 1 6 q_no := by
  refine t_met (cc := cX0_uses) (maxL := 5) (ret := (some .int)) (by decide) rfl (Nat.le_of_ble_eq_true rfl) ?_
  intro p e s m below meth c hx hb hml hr hts hown hlocks hnt hB ls hl
  have hown : s.vm.findClass RX0 = some m.cls := hown
  obtain ⟨hP, hK, hE⟩ := hB
  have hl : lv_has ls 5 [(0, .ref h0), (1, .int v), (2, .int w)] := hl
  refine lv_aload_n hx hb dX0_uses_0 rfl (lv_at hl 0 rfl) ?_
  refine lv_iload_n hx hb dX0_uses_1 rfl (lv_at hl 1 rfl) ?_
  exact k_X0_checkSubject_t D tI tZ tL h0 ad σ v hv ⟨hx, hb, hml, hown, hts⟩ gX0_uses_X0_checkSubject ⟨Nat.le_of_ble_eq_true rfl, Nat.le_of_ble_eq_true rfl⟩ hl.1 (Nat.le_of_ble_eq_true rfl) hlf ⟨Nat.le_of_ble_eq_true rfl, Nat.le_of_ble_eq_true rfl⟩ hE hK hP hlocks hnt dX0_uses_2
theorem k_X0_uses_tA {p : Program} {l : Launch} {e : Env} {R : Room} {s : State} {m : MethodId} {args : Array Value} {below : List Frame} {meth : Method} {c : Code} {cc : ByteArray} {pc : Nat} {ls : Array Slot} {rest : List Value} {Ts : List Cond} (D : va_G) (tI tZ tL : ClassId) (h0 : Nat) (ad : Nat → Nat) (σ : ST) (v : Int32) (hv : v < 0 ∨ 12 ≤ v) (w : Int32) {Qc : Array Value → State → Outcome → State → Prop} {own : String} {idx nL : Nat} (S : CallFix p m c cc nL s args Ts own) (hG : GoodIn Ts (wsV own idx RX0 yX0_uses wsX0_uses)) (hR : ({ frames := 7, cells := 1, slots := 6, locals := 161 } : Room).frames + 1 ≤ R.frames ∧ 8 + (5 + 11) + ({ frames := 7, cells := 1, slots := 6, locals := 161 } : Room).locals ≤ R.locals) (hsz : ls.size = nL) (hrm : (rest.map fun v => v.category).sum ≤ 8) (hlf : l.stackTraces = false) (hcap : 1 ≤ R.cells ∧ 6 ≤ R.slots) (hE : e_E s s.heap) (hK : va_K D vwCl (kTY tI tZ tL) s) (hP : va_P D vwCl (x_W tI tZ h0 ad σ) s.heap) (hlocks : meth.locks = false) (hnt : ∀ x ∈ c.exceptionTable.toList, False) (hdg : decode cc pc = .ok (.invokevirtual idx, 3)) : W p l e R s m args below meth c s.heap [] 0 0 (vx_MQ below Qc (e_X "java/lang/IndexOutOfBoundsException") args s 1 6 q_no) (F0 m pc ls (.int w :: .int v :: .ref h0 :: rest)) :=
  t_pass (vx_runV (As := [.int v, .int w]) (rest := rest) S (c_X0_uses_tA l D tI tZ tL h0 ad σ v hv w hlf) (cwV 2 S.2.2.2.2 hG rfl rfl rfl (by decide +kernel) hR) (t_pre hK hP hE) rfl rfl hsz rfl (lv_room hrm) hdg ⟨by omega, by omega⟩) hnt hlocks

set_option maxHeartbeats 4000000 in
set_option maxRecDepth 100000 in
theorem c_X0_uses_tB (l : Launch) (D : va_G) (tI tZ tL : ClassId) (h0 : Nat) (ad : Nat → Nat) (σ : ST) (j : Nat) (hj12 : j < 12) (v : Int32) (hv : v < 0 ∨ σ.1 1 ≤ v) (hlf : l.stackTraces = false) : vx_Met l yX0_uses wsX0_uses ({ frames := 7, cells := 1, slots := 6, locals := 161 } : Room) (va_Pc ([.ref h0, .int (nI j), .int v] : List Value) (t_B D tI tZ tL h0 ad σ)) t_N (e_X "java/lang/IndexOutOfBoundsException") 1 6 q_no := by
  refine t_met (cc := cX0_uses) (maxL := 5) (ret := (some .int)) (by decide) rfl (Nat.le_of_ble_eq_true rfl) ?_
  intro p e s m below meth c hx hb hml hr hts hown hlocks hnt hB ls hl
  have hown : s.vm.findClass RX0 = some m.cls := hown
  obtain ⟨hP, hK, hE⟩ := hB
  have hl : lv_has ls 5 [(0, .ref h0), (1, .int (nI j)), (2, .int v)] := hl
  refine lv_aload_n hx hb dX0_uses_0 rfl (lv_at hl 0 rfl) ?_
  refine lv_iload_n hx hb dX0_uses_1 rfl (lv_at hl 1 rfl) ?_
  refine k_X0_checkSubject D tI tZ tL h0 ad σ j hj12 ⟨hx, hb, hml, hown, hts⟩ gX0_uses_X0_checkSubject ⟨Nat.le_of_ble_eq_true rfl, Nat.le_of_ble_eq_true rfl⟩ hl.1 ⟨Nat.zero_le _, Nat.zero_le _⟩ (Nat.le_of_ble_eq_true rfl) hK hP dX0_uses_2 ?_
  refine lv_aload_n hx hb dX0_uses_5 rfl (lv_at hl 0 rfl) ?_
  refine lv_iload_n hx hb dX0_uses_6 rfl (lv_at hl 2 rfl) ?_
  exact k_X0_checkPurpose_t D tI tZ tL h0 ad σ v hv ⟨hx, hb, hml, hown, hts⟩ gX0_uses_X0_checkPurpose ⟨Nat.le_of_ble_eq_true rfl, Nat.le_of_ble_eq_true rfl⟩ hl.1 (Nat.le_of_ble_eq_true rfl) hlf ⟨Nat.le_of_ble_eq_true rfl, Nat.le_of_ble_eq_true rfl⟩ hE hK hP hlocks hnt dX0_uses_7
theorem k_X0_uses_tB {p : Program} {l : Launch} {e : Env} {R : Room} {s : State} {m : MethodId} {args : Array Value} {below : List Frame} {meth : Method} {c : Code} {cc : ByteArray} {pc : Nat} {ls : Array Slot} {rest : List Value} {Ts : List Cond} (D : va_G) (tI tZ tL : ClassId) (h0 : Nat) (ad : Nat → Nat) (σ : ST) (j : Nat) (hj12 : j < 12) (v : Int32) (hv : v < 0 ∨ σ.1 1 ≤ v) {Qc : Array Value → State → Outcome → State → Prop} {own : String} {idx nL : Nat} (S : CallFix p m c cc nL s args Ts own) (hG : GoodIn Ts (wsV own idx RX0 yX0_uses wsX0_uses)) (hR : ({ frames := 7, cells := 1, slots := 6, locals := 161 } : Room).frames + 1 ≤ R.frames ∧ 8 + (5 + 11) + ({ frames := 7, cells := 1, slots := 6, locals := 161 } : Room).locals ≤ R.locals) (hsz : ls.size = nL) (hrm : (rest.map fun v => v.category).sum ≤ 8) (hlf : l.stackTraces = false) (hcap : 1 ≤ R.cells ∧ 6 ≤ R.slots) (hE : e_E s s.heap) (hK : va_K D vwCl (kTY tI tZ tL) s) (hP : va_P D vwCl (x_W tI tZ h0 ad σ) s.heap) (hlocks : meth.locks = false) (hnt : ∀ x ∈ c.exceptionTable.toList, False) (hdg : decode cc pc = .ok (.invokevirtual idx, 3)) : W p l e R s m args below meth c s.heap [] 0 0 (vx_MQ below Qc (e_X "java/lang/IndexOutOfBoundsException") args s 1 6 q_no) (F0 m pc ls (.int v :: .int (nI j) :: .ref h0 :: rest)) :=
  t_pass (vx_runV (As := [.int (nI j), .int v]) (rest := rest) S (c_X0_uses_tB l D tI tZ tL h0 ad σ j hj12 v hv hlf) (cwV 2 S.2.2.2.2 hG rfl rfl rfl (by decide +kernel) hR) (t_pre hK hP hE) rfl rfl hsz rfl (lv_room hrm) hdg ⟨by omega, by omega⟩) hnt hlocks

set_option maxHeartbeats 4000000 in
set_option maxRecDepth 100000 in
theorem c_X0_whyNoUse_tA (l : Launch) (D : va_G) (tI tZ tL : ClassId) (h0 : Nat) (ad : Nat → Nat) (σ : ST) (v : Int32) (hv : v < 0 ∨ σ.1 6 ≤ v) (w : Int32) (hlf : l.stackTraces = false) : vx_Met l yX0_whyNoUse wsX0_whyNoUse ({ frames := 7, cells := 1, slots := 6, locals := 161 } : Room) (va_Pc ([.ref h0, .int v, .int w] : List Value) (t_B D tI tZ tL h0 ad σ)) t_N (e_X "java/lang/IndexOutOfBoundsException") 1 6 q_no := by
  refine t_met (cc := cX0_whyNoUse) (maxL := 3) (ret := (some .int)) (by decide) rfl (Nat.le_of_ble_eq_true rfl) ?_
  intro p e s m below meth c hx hb hml hr hts hown hlocks hnt hB ls hl
  have hown : s.vm.findClass RX0 = some m.cls := hown
  obtain ⟨hP, hK, hE⟩ := hB
  have hl : lv_has ls 3 [(0, .ref h0), (1, .int v), (2, .int w)] := hl
  refine lv_aload_n hx hb dX0_whyNoUse_0 rfl (lv_at hl 0 rfl) ?_
  refine lv_iload_n hx hb dX0_whyNoUse_1 rfl (lv_at hl 1 rfl) ?_
  exact k_X0_checkRecord_t D tI tZ tL h0 ad σ v hv ⟨hx, hb, hml, hown, hts⟩ gX0_whyNoUse_X0_checkRecord ⟨Nat.le_of_ble_eq_true rfl, Nat.le_of_ble_eq_true rfl⟩ hl.1 (Nat.le_of_ble_eq_true rfl) hlf ⟨Nat.le_of_ble_eq_true rfl, Nat.le_of_ble_eq_true rfl⟩ hE hK hP hlocks hnt dX0_whyNoUse_2
theorem k_X0_whyNoUse_tA {p : Program} {l : Launch} {e : Env} {R : Room} {s : State} {m : MethodId} {args : Array Value} {below : List Frame} {meth : Method} {c : Code} {cc : ByteArray} {pc : Nat} {ls : Array Slot} {rest : List Value} {Ts : List Cond} (D : va_G) (tI tZ tL : ClassId) (h0 : Nat) (ad : Nat → Nat) (σ : ST) (v : Int32) (hv : v < 0 ∨ σ.1 6 ≤ v) (w : Int32) {Qc : Array Value → State → Outcome → State → Prop} {own : String} {idx nL : Nat} (S : CallFix p m c cc nL s args Ts own) (hG : GoodIn Ts (wsV own idx RX0 yX0_whyNoUse wsX0_whyNoUse)) (hR : ({ frames := 7, cells := 1, slots := 6, locals := 161 } : Room).frames + 1 ≤ R.frames ∧ 8 + (3 + 11) + ({ frames := 7, cells := 1, slots := 6, locals := 161 } : Room).locals ≤ R.locals) (hsz : ls.size = nL) (hrm : (rest.map fun v => v.category).sum ≤ 8) (hlf : l.stackTraces = false) (hcap : 1 ≤ R.cells ∧ 6 ≤ R.slots) (hE : e_E s s.heap) (hK : va_K D vwCl (kTY tI tZ tL) s) (hP : va_P D vwCl (x_W tI tZ h0 ad σ) s.heap) (hlocks : meth.locks = false) (hnt : ∀ x ∈ c.exceptionTable.toList, False) (hdg : decode cc pc = .ok (.invokevirtual idx, 3)) : W p l e R s m args below meth c s.heap [] 0 0 (vx_MQ below Qc (e_X "java/lang/IndexOutOfBoundsException") args s 1 6 q_no) (F0 m pc ls (.int w :: .int v :: .ref h0 :: rest)) :=
  t_pass (vx_runV (As := [.int v, .int w]) (rest := rest) S (c_X0_whyNoUse_tA l D tI tZ tL h0 ad σ v hv w hlf) (cwV 2 S.2.2.2.2 hG rfl rfl rfl (by decide +kernel) hR) (t_pre hK hP hE) rfl rfl hsz rfl (lv_room hrm) hdg ⟨by omega, by omega⟩) hnt hlocks

set_option maxHeartbeats 4000000 in
set_option maxRecDepth 100000 in
theorem c_X0_whyNoUse_tB (l : Launch) (D : va_G) (tI tZ tL : ClassId) (h0 : Nat) (ad : Nat → Nat) (σ : ST) (r : Nat) (nr : Nat) (hnr : σ.1 6 = nI nr) (hn30 : nr ≤ 30) (hrn : r < nr) (v : Int32) (hv : v < 0 ∨ σ.1 1 ≤ v) (hlf : l.stackTraces = false) : vx_Met l yX0_whyNoUse wsX0_whyNoUse ({ frames := 7, cells := 1, slots := 6, locals := 161 } : Room) (va_Pc ([.ref h0, .int (nI r), .int v] : List Value) (t_B D tI tZ tL h0 ad σ)) t_N (e_X "java/lang/IndexOutOfBoundsException") 1 6 q_no := by
  refine t_met (cc := cX0_whyNoUse) (maxL := 3) (ret := (some .int)) (by decide) rfl (Nat.le_of_ble_eq_true rfl) ?_
  intro p e s m below meth c hx hb hml hr hts hown hlocks hnt hB ls hl
  have hown : s.vm.findClass RX0 = some m.cls := hown
  obtain ⟨hP, hK, hE⟩ := hB
  have hl : lv_has ls 3 [(0, .ref h0), (1, .int (nI r)), (2, .int v)] := hl
  refine lv_aload_n hx hb dX0_whyNoUse_0 rfl (lv_at hl 0 rfl) ?_
  refine lv_iload_n hx hb dX0_whyNoUse_1 rfl (lv_at hl 1 rfl) ?_
  refine k_X0_checkRecord D tI tZ tL h0 ad σ r nr hnr hn30 hrn ⟨hx, hb, hml, hown, hts⟩ gX0_whyNoUse_X0_checkRecord ⟨Nat.le_of_ble_eq_true rfl, Nat.le_of_ble_eq_true rfl⟩ hl.1 ⟨Nat.zero_le _, Nat.zero_le _⟩ (Nat.le_of_ble_eq_true rfl) hK hP dX0_whyNoUse_2 ?_
  refine lv_aload_n hx hb dX0_whyNoUse_5 rfl (lv_at hl 0 rfl) ?_
  refine lv_iload_n hx hb dX0_whyNoUse_6 rfl (lv_at hl 2 rfl) ?_
  exact k_X0_checkPurpose_t D tI tZ tL h0 ad σ v hv ⟨hx, hb, hml, hown, hts⟩ gX0_whyNoUse_X0_checkPurpose ⟨Nat.le_of_ble_eq_true rfl, Nat.le_of_ble_eq_true rfl⟩ hl.1 (Nat.le_of_ble_eq_true rfl) hlf ⟨Nat.le_of_ble_eq_true rfl, Nat.le_of_ble_eq_true rfl⟩ hE hK hP hlocks hnt dX0_whyNoUse_7
theorem k_X0_whyNoUse_tB {p : Program} {l : Launch} {e : Env} {R : Room} {s : State} {m : MethodId} {args : Array Value} {below : List Frame} {meth : Method} {c : Code} {cc : ByteArray} {pc : Nat} {ls : Array Slot} {rest : List Value} {Ts : List Cond} (D : va_G) (tI tZ tL : ClassId) (h0 : Nat) (ad : Nat → Nat) (σ : ST) (r : Nat) (nr : Nat) (hnr : σ.1 6 = nI nr) (hn30 : nr ≤ 30) (hrn : r < nr) (v : Int32) (hv : v < 0 ∨ σ.1 1 ≤ v) {Qc : Array Value → State → Outcome → State → Prop} {own : String} {idx nL : Nat} (S : CallFix p m c cc nL s args Ts own) (hG : GoodIn Ts (wsV own idx RX0 yX0_whyNoUse wsX0_whyNoUse)) (hR : ({ frames := 7, cells := 1, slots := 6, locals := 161 } : Room).frames + 1 ≤ R.frames ∧ 8 + (3 + 11) + ({ frames := 7, cells := 1, slots := 6, locals := 161 } : Room).locals ≤ R.locals) (hsz : ls.size = nL) (hrm : (rest.map fun v => v.category).sum ≤ 8) (hlf : l.stackTraces = false) (hcap : 1 ≤ R.cells ∧ 6 ≤ R.slots) (hE : e_E s s.heap) (hK : va_K D vwCl (kTY tI tZ tL) s) (hP : va_P D vwCl (x_W tI tZ h0 ad σ) s.heap) (hlocks : meth.locks = false) (hnt : ∀ x ∈ c.exceptionTable.toList, False) (hdg : decode cc pc = .ok (.invokevirtual idx, 3)) : W p l e R s m args below meth c s.heap [] 0 0 (vx_MQ below Qc (e_X "java/lang/IndexOutOfBoundsException") args s 1 6 q_no) (F0 m pc ls (.int v :: .int (nI r) :: .ref h0 :: rest)) :=
  t_pass (vx_runV (As := [.int (nI r), .int v]) (rest := rest) S (c_X0_whyNoUse_tB l D tI tZ tL h0 ad σ r nr hnr hn30 hrn v hv hlf) (cwV 2 S.2.2.2.2 hG rfl rfl rfl (by decide +kernel) hR) (t_pre hK hP hE) rfl rfl hsz rfl (lv_room hrm) hdg ⟨by omega, by omega⟩) hnt hlocks

set_option maxHeartbeats 4000000 in
set_option maxRecDepth 100000 in
theorem c_X0_addPurpose_tA (l : Launch) (D : va_G) (tI tZ tL : ClassId) (h0 : Nat) (ad : Nat → Nat) (σ : ST) (v : Int32) (hv : v < 0 ∨ ¬ v ≤ 3650) (g : Bool) (hlf : l.stackTraces = false) : vx_Met l yX0_addPurpose wsX0_addPurpose ({ frames := 7, cells := 1, slots := 6, locals := 161 } : Room) (va_Pc ([.ref h0, .int v, .int (b01 g)] : List Value) (t_B D tI tZ tL h0 ad σ)) t_N (e_X "java/lang/IllegalArgumentException") 1 6 q_no := by
  refine t_met (cc := cX0_addPurpose) (maxL := 4) (ret := (some .int)) (by decide) rfl (Nat.le_of_ble_eq_true rfl) ?_
  intro p e s m below meth c hx hb hml hr hts hown hlocks hnt hB ls hl
  have hown : s.vm.findClass RX0 = some m.cls := hown
  obtain ⟨hP, hK, hE⟩ := hB
  have hl : lv_has ls 4 [(0, .ref h0), (1, .int v), (2, .int (b01 g))] := hl
  refine lv_aload_n hx hb dX0_addPurpose_0 rfl (lv_at hl 0 rfl) ?_
  refine lv_iload_n hx hb dX0_addPurpose_1 rfl (lv_at hl 1 rfl) ?_
  exact k_X0_checkRetention_t D tI tZ tL h0 ad σ v hv ⟨hx, hb, hml, hown, hts⟩ gX0_addPurpose_X0_checkRetention ⟨Nat.le_of_ble_eq_true rfl, Nat.le_of_ble_eq_true rfl⟩ hl.1 (Nat.le_of_ble_eq_true rfl) hlf ⟨Nat.le_of_ble_eq_true rfl, Nat.le_of_ble_eq_true rfl⟩ hE hK hP hlocks hnt dX0_addPurpose_2
theorem k_X0_addPurpose_tA {p : Program} {l : Launch} {e : Env} {R : Room} {s : State} {m : MethodId} {args : Array Value} {below : List Frame} {meth : Method} {c : Code} {cc : ByteArray} {pc : Nat} {ls : Array Slot} {rest : List Value} {Ts : List Cond} (D : va_G) (tI tZ tL : ClassId) (h0 : Nat) (ad : Nat → Nat) (σ : ST) (v : Int32) (hv : v < 0 ∨ ¬ v ≤ 3650) (g : Bool) {Qc : Array Value → State → Outcome → State → Prop} {own : String} {idx nL : Nat} (S : CallFix p m c cc nL s args Ts own) (hG : GoodIn Ts (wsV own idx RX0 yX0_addPurpose wsX0_addPurpose)) (hR : ({ frames := 7, cells := 1, slots := 6, locals := 161 } : Room).frames + 1 ≤ R.frames ∧ 8 + (4 + 11) + ({ frames := 7, cells := 1, slots := 6, locals := 161 } : Room).locals ≤ R.locals) (hsz : ls.size = nL) (hrm : (rest.map fun v => v.category).sum ≤ 8) (hlf : l.stackTraces = false) (hcap : 1 ≤ R.cells ∧ 6 ≤ R.slots) (hE : e_E s s.heap) (hK : va_K D vwCl (kTY tI tZ tL) s) (hP : va_P D vwCl (x_W tI tZ h0 ad σ) s.heap) (hlocks : meth.locks = false) (hnt : ∀ x ∈ c.exceptionTable.toList, False) (hdg : decode cc pc = .ok (.invokevirtual idx, 3)) : W p l e R s m args below meth c s.heap [] 0 0 (vx_MQ below Qc (e_X "java/lang/IllegalArgumentException") args s 1 6 q_no) (F0 m pc ls (.int (b01 g) :: .int v :: .ref h0 :: rest)) :=
  t_pass (vx_runV (As := [.int v, .int (b01 g)]) (rest := rest) S (c_X0_addPurpose_tA l D tI tZ tL h0 ad σ v hv g hlf) (cwV 2 S.2.2.2.2 hG rfl rfl rfl (by decide +kernel) hR) (t_pre hK hP hE) rfl rfl hsz rfl (lv_room hrm) hdg ⟨by omega, by omega⟩) hnt hlocks

set_option maxHeartbeats 4000000 in
set_option maxRecDepth 100000 in
theorem c_X0_addPurpose_tB (l : Launch) (D : va_G) (tI tZ tL : ClassId) (h0 : Nat) (ad : Nat → Nat) (σ : ST) (v : Int32) (g : Bool) (hv0 : ¬ v < 0) (hv1 : v ≤ 3650) (hfull : σ.1 1 = 8) (hlf : l.stackTraces = false) : vx_Met l yX0_addPurpose wsX0_addPurpose ({ frames := 6, cells := 1, slots := 6, locals := 140 } : Room) (va_Pc ([.ref h0, .int v, .int (b01 g)] : List Value) (t_B D tI tZ tL h0 ad σ)) t_N (e_X "java/lang/IllegalStateException") 1 6 q_no := by
  refine t_met (cc := cX0_addPurpose) (maxL := 4) (ret := (some .int)) (by decide) rfl (Nat.le_of_ble_eq_true rfl) ?_
  intro p e s m below meth c hx hb hml hr hts hown hlocks hnt hB ls hl
  have hown : s.vm.findClass RX0 = some m.cls := hown
  obtain ⟨hP, hK, hE⟩ := hB
  have hl : lv_has ls 4 [(0, .ref h0), (1, .int v), (2, .int (b01 g))] := hl
  have hin : ∀ w ∈ wsX00, w ∈ wsX0_addPurpose := in_X0_addPurpose
  have hl_purposeCount : xl_purposeCount ∈ wsX0_addPurpose := by decide +kernel
  refine lv_aload_n hx hb dX0_addPurpose_0 rfl (lv_at hl 0 rfl) ?_
  refine lv_iload_n hx hb dX0_addPurpose_1 rfl (lv_at hl 1 rfl) ?_
  refine k_X0_checkRetention D tI tZ tL h0 ad σ v hv0 hv1 ⟨hx, hb, hml, hown, hts⟩ gX0_addPurpose_X0_checkRetention ⟨Nat.le_of_ble_eq_true rfl, Nat.le_of_ble_eq_true rfl⟩ hl.1 ⟨Nat.zero_le _, Nat.zero_le _⟩ (Nat.le_of_ble_eq_true rfl) hK hP dX0_addPurpose_2 ?_
  refine lv_aload_n hx hb dX0_addPurpose_5 rfl (lv_at hl 0 rfl) ?_
  refine xg_purposeCount hx hb hts hin hown hK hP hl_purposeCount dX0_addPurpose_6 ?_
  refine lv_bipush (v := 8) hx hb dX0_addPurpose_9 (by decide) ?_
  refine lv_icmp_lt (tgt := 24) hx hb dX0_addPurpose_11 (by decide) (fun c11 => absurd c11 (by rw [hfull]; decide)) (fun c11 => ?_)
  exact t_thr (ik := 45) (is := 47) (ic := 49) hx hb hlf hown (by decide +kernel) (by decide +kernel) hts (by decide +kernel) (by decide +kernel) (by decide +kernel) (by decide +kernel) (by decide +kernel) hE (t := "there are 8 purposes") (by decide +kernel) (by rw [hml]; exact hl.1) dX0_addPurpose_14 dX0_addPurpose_17 dX0_addPurpose_18 dX0_addPurpose_20 dX0_addPurpose_23 hnt (Nat.le_of_ble_eq_true rfl) (Nat.le_of_ble_eq_true rfl) (Nat.le_of_ble_eq_true rfl) (Nat.le_of_ble_eq_true rfl) hlocks
theorem k_X0_addPurpose_tB {p : Program} {l : Launch} {e : Env} {R : Room} {s : State} {m : MethodId} {args : Array Value} {below : List Frame} {meth : Method} {c : Code} {cc : ByteArray} {pc : Nat} {ls : Array Slot} {rest : List Value} {Ts : List Cond} (D : va_G) (tI tZ tL : ClassId) (h0 : Nat) (ad : Nat → Nat) (σ : ST) (v : Int32) (g : Bool) (hv0 : ¬ v < 0) (hv1 : v ≤ 3650) (hfull : σ.1 1 = 8) {Qc : Array Value → State → Outcome → State → Prop} {own : String} {idx nL : Nat} (S : CallFix p m c cc nL s args Ts own) (hG : GoodIn Ts (wsV own idx RX0 yX0_addPurpose wsX0_addPurpose)) (hR : ({ frames := 6, cells := 1, slots := 6, locals := 140 } : Room).frames + 1 ≤ R.frames ∧ 8 + (4 + 11) + ({ frames := 6, cells := 1, slots := 6, locals := 140 } : Room).locals ≤ R.locals) (hsz : ls.size = nL) (hrm : (rest.map fun v => v.category).sum ≤ 8) (hlf : l.stackTraces = false) (hcap : 1 ≤ R.cells ∧ 6 ≤ R.slots) (hE : e_E s s.heap) (hK : va_K D vwCl (kTY tI tZ tL) s) (hP : va_P D vwCl (x_W tI tZ h0 ad σ) s.heap) (hlocks : meth.locks = false) (hnt : ∀ x ∈ c.exceptionTable.toList, False) (hdg : decode cc pc = .ok (.invokevirtual idx, 3)) : W p l e R s m args below meth c s.heap [] 0 0 (vx_MQ below Qc (e_X "java/lang/IllegalStateException") args s 1 6 q_no) (F0 m pc ls (.int (b01 g) :: .int v :: .ref h0 :: rest)) :=
  t_pass (vx_runV (As := [.int v, .int (b01 g)]) (rest := rest) S (c_X0_addPurpose_tB l D tI tZ tL h0 ad σ v g hv0 hv1 hfull hlf) (cwV 2 S.2.2.2.2 hG rfl rfl rfl (by decide +kernel) hR) (t_pre hK hP hE) rfl rfl hsz rfl (lv_room hrm) hdg ⟨by omega, by omega⟩) hnt hlocks

set_option maxHeartbeats 4000000 in
set_option maxRecDepth 100000 in
theorem c_X0_setRetention_tA (l : Launch) (D : va_G) (tI tZ tL : ClassId) (h0 : Nat) (ad : Nat → Nat) (σ : ST) (v : Int32) (hv : v < 0 ∨ σ.1 1 ≤ v) (w : Int32) (hlf : l.stackTraces = false) : vx_Met l yX0_setRetention wsX0_setRetention ({ frames := 7, cells := 1, slots := 6, locals := 161 } : Room) (va_Pc ([.ref h0, .int v, .int w] : List Value) (t_B D tI tZ tL h0 ad σ)) t_N (e_X "java/lang/IndexOutOfBoundsException") 1 6 q_no := by
  refine t_met (cc := cX0_setRetention) (maxL := 4) (ret := (some .int)) (by decide) rfl (Nat.le_of_ble_eq_true rfl) ?_
  intro p e s m below meth c hx hb hml hr hts hown hlocks hnt hB ls hl
  have hown : s.vm.findClass RX0 = some m.cls := hown
  obtain ⟨hP, hK, hE⟩ := hB
  have hl : lv_has ls 4 [(0, .ref h0), (1, .int v), (2, .int w)] := hl
  refine lv_aload_n hx hb dX0_setRetention_0 rfl (lv_at hl 0 rfl) ?_
  refine lv_iload_n hx hb dX0_setRetention_1 rfl (lv_at hl 1 rfl) ?_
  exact k_X0_checkPurpose_t D tI tZ tL h0 ad σ v hv ⟨hx, hb, hml, hown, hts⟩ gX0_setRetention_X0_checkPurpose ⟨Nat.le_of_ble_eq_true rfl, Nat.le_of_ble_eq_true rfl⟩ hl.1 (Nat.le_of_ble_eq_true rfl) hlf ⟨Nat.le_of_ble_eq_true rfl, Nat.le_of_ble_eq_true rfl⟩ hE hK hP hlocks hnt dX0_setRetention_2
theorem k_X0_setRetention_tA {p : Program} {l : Launch} {e : Env} {R : Room} {s : State} {m : MethodId} {args : Array Value} {below : List Frame} {meth : Method} {c : Code} {cc : ByteArray} {pc : Nat} {ls : Array Slot} {rest : List Value} {Ts : List Cond} (D : va_G) (tI tZ tL : ClassId) (h0 : Nat) (ad : Nat → Nat) (σ : ST) (v : Int32) (hv : v < 0 ∨ σ.1 1 ≤ v) (w : Int32) {Qc : Array Value → State → Outcome → State → Prop} {own : String} {idx nL : Nat} (S : CallFix p m c cc nL s args Ts own) (hG : GoodIn Ts (wsV own idx RX0 yX0_setRetention wsX0_setRetention)) (hR : ({ frames := 7, cells := 1, slots := 6, locals := 161 } : Room).frames + 1 ≤ R.frames ∧ 8 + (4 + 11) + ({ frames := 7, cells := 1, slots := 6, locals := 161 } : Room).locals ≤ R.locals) (hsz : ls.size = nL) (hrm : (rest.map fun v => v.category).sum ≤ 8) (hlf : l.stackTraces = false) (hcap : 1 ≤ R.cells ∧ 6 ≤ R.slots) (hE : e_E s s.heap) (hK : va_K D vwCl (kTY tI tZ tL) s) (hP : va_P D vwCl (x_W tI tZ h0 ad σ) s.heap) (hlocks : meth.locks = false) (hnt : ∀ x ∈ c.exceptionTable.toList, False) (hdg : decode cc pc = .ok (.invokevirtual idx, 3)) : W p l e R s m args below meth c s.heap [] 0 0 (vx_MQ below Qc (e_X "java/lang/IndexOutOfBoundsException") args s 1 6 q_no) (F0 m pc ls (.int w :: .int v :: .ref h0 :: rest)) :=
  t_pass (vx_runV (As := [.int v, .int w]) (rest := rest) S (c_X0_setRetention_tA l D tI tZ tL h0 ad σ v hv w hlf) (cwV 2 S.2.2.2.2 hG rfl rfl rfl (by decide +kernel) hR) (t_pre hK hP hE) rfl rfl hsz rfl (lv_room hrm) hdg ⟨by omega, by omega⟩) hnt hlocks

set_option maxHeartbeats 4000000 in
set_option maxRecDepth 100000 in
theorem c_X0_setRetention_tB (l : Launch) (D : va_G) (tI tZ tL : ClassId) (h0 : Nat) (ad : Nat → Nat) (σ : ST) (q : Nat) (np : Nat) (hnp : σ.1 1 = nI np) (hn8 : np ≤ 8) (hq : q < np) (v : Int32) (hv : v < 0 ∨ ¬ v ≤ 3650) (hlf : l.stackTraces = false) : vx_Met l yX0_setRetention wsX0_setRetention ({ frames := 7, cells := 1, slots := 6, locals := 161 } : Room) (va_Pc ([.ref h0, .int (nI q), .int v] : List Value) (t_B D tI tZ tL h0 ad σ)) t_N (e_X "java/lang/IllegalArgumentException") 1 6 q_no := by
  refine t_met (cc := cX0_setRetention) (maxL := 4) (ret := (some .int)) (by decide) rfl (Nat.le_of_ble_eq_true rfl) ?_
  intro p e s m below meth c hx hb hml hr hts hown hlocks hnt hB ls hl
  have hown : s.vm.findClass RX0 = some m.cls := hown
  obtain ⟨hP, hK, hE⟩ := hB
  have hl : lv_has ls 4 [(0, .ref h0), (1, .int (nI q)), (2, .int v)] := hl
  refine lv_aload_n hx hb dX0_setRetention_0 rfl (lv_at hl 0 rfl) ?_
  refine lv_iload_n hx hb dX0_setRetention_1 rfl (lv_at hl 1 rfl) ?_
  refine k_X0_checkPurpose D tI tZ tL h0 ad σ q np hnp hn8 hq ⟨hx, hb, hml, hown, hts⟩ gX0_setRetention_X0_checkPurpose ⟨Nat.le_of_ble_eq_true rfl, Nat.le_of_ble_eq_true rfl⟩ hl.1 ⟨Nat.zero_le _, Nat.zero_le _⟩ (Nat.le_of_ble_eq_true rfl) hK hP dX0_setRetention_2 ?_
  refine lv_aload_n hx hb dX0_setRetention_5 rfl (lv_at hl 0 rfl) ?_
  refine lv_iload_n hx hb dX0_setRetention_6 rfl (lv_at hl 2 rfl) ?_
  exact k_X0_checkRetention_t D tI tZ tL h0 ad σ v hv ⟨hx, hb, hml, hown, hts⟩ gX0_setRetention_X0_checkRetention ⟨Nat.le_of_ble_eq_true rfl, Nat.le_of_ble_eq_true rfl⟩ hl.1 (Nat.le_of_ble_eq_true rfl) hlf ⟨Nat.le_of_ble_eq_true rfl, Nat.le_of_ble_eq_true rfl⟩ hE hK hP hlocks hnt dX0_setRetention_7
theorem k_X0_setRetention_tB {p : Program} {l : Launch} {e : Env} {R : Room} {s : State} {m : MethodId} {args : Array Value} {below : List Frame} {meth : Method} {c : Code} {cc : ByteArray} {pc : Nat} {ls : Array Slot} {rest : List Value} {Ts : List Cond} (D : va_G) (tI tZ tL : ClassId) (h0 : Nat) (ad : Nat → Nat) (σ : ST) (q : Nat) (np : Nat) (hnp : σ.1 1 = nI np) (hn8 : np ≤ 8) (hq : q < np) (v : Int32) (hv : v < 0 ∨ ¬ v ≤ 3650) {Qc : Array Value → State → Outcome → State → Prop} {own : String} {idx nL : Nat} (S : CallFix p m c cc nL s args Ts own) (hG : GoodIn Ts (wsV own idx RX0 yX0_setRetention wsX0_setRetention)) (hR : ({ frames := 7, cells := 1, slots := 6, locals := 161 } : Room).frames + 1 ≤ R.frames ∧ 8 + (4 + 11) + ({ frames := 7, cells := 1, slots := 6, locals := 161 } : Room).locals ≤ R.locals) (hsz : ls.size = nL) (hrm : (rest.map fun v => v.category).sum ≤ 8) (hlf : l.stackTraces = false) (hcap : 1 ≤ R.cells ∧ 6 ≤ R.slots) (hE : e_E s s.heap) (hK : va_K D vwCl (kTY tI tZ tL) s) (hP : va_P D vwCl (x_W tI tZ h0 ad σ) s.heap) (hlocks : meth.locks = false) (hnt : ∀ x ∈ c.exceptionTable.toList, False) (hdg : decode cc pc = .ok (.invokevirtual idx, 3)) : W p l e R s m args below meth c s.heap [] 0 0 (vx_MQ below Qc (e_X "java/lang/IllegalArgumentException") args s 1 6 q_no) (F0 m pc ls (.int v :: .int (nI q) :: .ref h0 :: rest)) :=
  t_pass (vx_runV (As := [.int (nI q), .int v]) (rest := rest) S (c_X0_setRetention_tB l D tI tZ tL h0 ad σ q np hnp hn8 hq v hv hlf) (cwV 2 S.2.2.2.2 hG rfl rfl rfl (by decide +kernel) hR) (t_pre hK hP hE) rfl rfl hsz rfl (lv_room hrm) hdg ⟨by omega, by omega⟩) hnt hlocks

set_option maxHeartbeats 4000000 in
set_option maxRecDepth 100000 in
theorem c_X0_addRecord_t (l : Launch) (D : va_G) (tI tZ tL : ClassId) (h0 : Nat) (ad : Nat → Nat) (σ : ST) (sub P so : Int32) (nr : Nat) (hnr : σ.1 6 = nI nr) (hn30 : nr ≤ 30) (np : Nat) (hnp : σ.1 1 = nI np) (hn8 : np ≤ 8) (hbad : nr = 30 ∨ x_open σ np P sub (σ.1 0) = false) (hlf : l.stackTraces = false) : vx_Met l yX0_addRecord wsX0_addRecord ({ frames := 6, cells := 1, slots := 6, locals := 140 } : Room) (va_Pc ([.ref h0, .int sub, .int P, .int so] : List Value) (t_B D tI tZ tL h0 ad σ)) t_N (e_X "java/lang/IllegalStateException") 1 6 q_no := by
  refine t_met (cc := cX0_addRecord) (maxL := 5) (ret := (some .int)) (by decide) rfl (Nat.le_of_ble_eq_true rfl) ?_
  intro p e s m below meth c hx hb hml hr hts hown hlocks hnt hB ls hl
  have hown : s.vm.findClass RX0 = some m.cls := hown
  obtain ⟨hP, hK, hE⟩ := hB
  have hl : lv_has ls 5 [(0, .ref h0), (1, .int sub), (2, .int P), (3, .int so)] := hl
  have hin : ∀ w ∈ wsX00, w ∈ wsX0_addRecord := in_X0_addRecord
  have hl_recordCount : xl_recordCount ∈ wsX0_addRecord := by decide +kernel
  have hl_today : xl_today ∈ wsX0_addRecord := by decide +kernel
  refine lv_aload_n hx hb dX0_addRecord_0 rfl (lv_at hl 0 rfl) ?_
  refine xg_recordCount hx hb hts hin hown hK hP hl_recordCount dX0_addRecord_1 ?_
  refine lv_bipush (v := 30) hx hb dX0_addRecord_4 (by decide) ?_
  refine lv_icmp_lt (tgt := 19) hx hb dX0_addRecord_6 (by decide) (fun c6 => ?_) (fun c6 => ?_)
  · refine lv_aload_n hx hb dX0_addRecord_19 rfl (lv_at hl 0 rfl) ?_
    refine lv_iload_n hx hb dX0_addRecord_20 rfl (lv_at hl 2 rfl) ?_
    refine lv_iload_n hx hb dX0_addRecord_21 rfl (lv_at hl 1 rfl) ?_
    refine lv_aload_n hx hb dX0_addRecord_22 rfl (lv_at hl 0 rfl) ?_
    refine xg_today hx hb hts hin hown hK hP hl_today dX0_addRecord_23 ?_
    refine k_X0_isAnyOpen D tI tZ tL h0 ad σ P sub (σ.1 0) np hnp hn8 ⟨hx, hb, hml, hown, hts⟩ gX0_addRecord_X0_isAnyOpen ⟨Nat.le_of_ble_eq_true rfl, Nat.le_of_ble_eq_true rfl⟩ hl.1 ⟨Nat.zero_le _, Nat.zero_le _⟩ (Nat.le_of_ble_eq_true rfl) hK hP dX0_addRecord_26 ?_
    refine lv_ifne_b (tgt := 42) hx hb dX0_addRecord_29 (by decide) (fun c29 => absurd c29 (hbad.elim (fun h => absurd (show σ.1 6 < 30 from c6) (by rw [hnr, h]; decide)) (fun h => by rw [h]; decide))) (fun c29 => ?_)
    exact t_thr (ik := 45) (is := 212) (ic := 49) hx hb hlf hown (by decide +kernel) (by decide +kernel) hts (by decide +kernel) (by decide +kernel) (by decide +kernel) (by decide +kernel) (by decide +kernel) hE (t := "none of these purposes would be open") (by decide +kernel) (by rw [hml]; exact hl.1) dX0_addRecord_32 dX0_addRecord_35 dX0_addRecord_36 dX0_addRecord_38 dX0_addRecord_41 hnt (Nat.le_of_ble_eq_true rfl) (Nat.le_of_ble_eq_true rfl) (Nat.le_of_ble_eq_true rfl) (Nat.le_of_ble_eq_true rfl) hlocks
  · exact t_thr (ik := 45) (is := 206) (ic := 49) hx hb hlf hown (by decide +kernel) (by decide +kernel) hts (by decide +kernel) (by decide +kernel) (by decide +kernel) (by decide +kernel) (by decide +kernel) hE (t := "there are 30 records") (by decide +kernel) (by rw [hml]; exact hl.1) dX0_addRecord_9 dX0_addRecord_12 dX0_addRecord_13 dX0_addRecord_15 dX0_addRecord_18 hnt (Nat.le_of_ble_eq_true rfl) (Nat.le_of_ble_eq_true rfl) (Nat.le_of_ble_eq_true rfl) (Nat.le_of_ble_eq_true rfl) hlocks
theorem k_X0_addRecord_t {p : Program} {l : Launch} {e : Env} {R : Room} {s : State} {m : MethodId} {args : Array Value} {below : List Frame} {meth : Method} {c : Code} {cc : ByteArray} {pc : Nat} {ls : Array Slot} {rest : List Value} {Ts : List Cond} (D : va_G) (tI tZ tL : ClassId) (h0 : Nat) (ad : Nat → Nat) (σ : ST) (sub P so : Int32) (nr : Nat) (hnr : σ.1 6 = nI nr) (hn30 : nr ≤ 30) (np : Nat) (hnp : σ.1 1 = nI np) (hn8 : np ≤ 8) (hbad : nr = 30 ∨ x_open σ np P sub (σ.1 0) = false) {Qc : Array Value → State → Outcome → State → Prop} {own : String} {idx nL : Nat} (S : CallFix p m c cc nL s args Ts own) (hG : GoodIn Ts (wsV own idx RX0 yX0_addRecord wsX0_addRecord)) (hR : ({ frames := 6, cells := 1, slots := 6, locals := 140 } : Room).frames + 1 ≤ R.frames ∧ 8 + (5 + 11) + ({ frames := 6, cells := 1, slots := 6, locals := 140 } : Room).locals ≤ R.locals) (hsz : ls.size = nL) (hrm : (rest.map fun v => v.category).sum ≤ 8) (hlf : l.stackTraces = false) (hcap : 1 ≤ R.cells ∧ 6 ≤ R.slots) (hE : e_E s s.heap) (hK : va_K D vwCl (kTY tI tZ tL) s) (hP : va_P D vwCl (x_W tI tZ h0 ad σ) s.heap) (hlocks : meth.locks = false) (hnt : ∀ x ∈ c.exceptionTable.toList, False) (hdg : decode cc pc = .ok (.invokevirtual idx, 3)) : W p l e R s m args below meth c s.heap [] 0 0 (vx_MQ below Qc (e_X "java/lang/IllegalStateException") args s 1 6 q_no) (F0 m pc ls (.int so :: .int P :: .int sub :: .ref h0 :: rest)) :=
  t_pass (vx_runV (As := [.int sub, .int P, .int so]) (rest := rest) S (c_X0_addRecord_t l D tI tZ tL h0 ad σ sub P so nr hnr hn30 np hnp hn8 hbad hlf) (cwV 3 S.2.2.2.2 hG rfl rfl rfl (by decide +kernel) hR) (t_pre hK hP hE) rfl rfl hsz rfl (lv_room hrm) hdg ⟨by omega, by omega⟩) hnt hlocks

set_option maxHeartbeats 4000000 in
set_option maxRecDepth 100000 in
theorem c_X0_add_tA (l : Launch) (D : va_G) (tI tZ tL : ClassId) (h0 : Nat) (ad : Nat → Nat) (σ : ST) (v : Int32) (hv : v < 0 ∨ 12 ≤ v) (P : Int32) (hlf : l.stackTraces = false) : vx_Met l yX0_add wsX0_add ({ frames := 7, cells := 1, slots := 6, locals := 161 } : Room) (va_Pc ([.ref h0, .int v, .int P] : List Value) (t_B D tI tZ tL h0 ad σ)) t_N (e_X "java/lang/IndexOutOfBoundsException") 1 6 q_no := by
  refine t_met (cc := cX0_add) (maxL := 3) (ret := (some .int)) (by decide) rfl (Nat.le_of_ble_eq_true rfl) ?_
  intro p e s m below meth c hx hb hml hr hts hown hlocks hnt hB ls hl
  have hown : s.vm.findClass RX0 = some m.cls := hown
  obtain ⟨hP, hK, hE⟩ := hB
  have hl : lv_has ls 3 [(0, .ref h0), (1, .int v), (2, .int P)] := hl
  refine lv_aload_n hx hb dX0_add_0 rfl (lv_at hl 0 rfl) ?_
  refine lv_iload_n hx hb dX0_add_1 rfl (lv_at hl 1 rfl) ?_
  exact k_X0_checkSubject_t D tI tZ tL h0 ad σ v hv ⟨hx, hb, hml, hown, hts⟩ gX0_add_X0_checkSubject ⟨Nat.le_of_ble_eq_true rfl, Nat.le_of_ble_eq_true rfl⟩ hl.1 (Nat.le_of_ble_eq_true rfl) hlf ⟨Nat.le_of_ble_eq_true rfl, Nat.le_of_ble_eq_true rfl⟩ hE hK hP hlocks hnt dX0_add_2
theorem k_X0_add_tA {p : Program} {l : Launch} {e : Env} {R : Room} {s : State} {m : MethodId} {args : Array Value} {below : List Frame} {meth : Method} {c : Code} {cc : ByteArray} {pc : Nat} {ls : Array Slot} {rest : List Value} {Ts : List Cond} (D : va_G) (tI tZ tL : ClassId) (h0 : Nat) (ad : Nat → Nat) (σ : ST) (v : Int32) (hv : v < 0 ∨ 12 ≤ v) (P : Int32) {Qc : Array Value → State → Outcome → State → Prop} {own : String} {idx nL : Nat} (S : CallFix p m c cc nL s args Ts own) (hG : GoodIn Ts (wsV own idx RX0 yX0_add wsX0_add)) (hR : ({ frames := 7, cells := 1, slots := 6, locals := 161 } : Room).frames + 1 ≤ R.frames ∧ 8 + (3 + 11) + ({ frames := 7, cells := 1, slots := 6, locals := 161 } : Room).locals ≤ R.locals) (hsz : ls.size = nL) (hrm : (rest.map fun v => v.category).sum ≤ 8) (hlf : l.stackTraces = false) (hcap : 1 ≤ R.cells ∧ 6 ≤ R.slots) (hE : e_E s s.heap) (hK : va_K D vwCl (kTY tI tZ tL) s) (hP : va_P D vwCl (x_W tI tZ h0 ad σ) s.heap) (hlocks : meth.locks = false) (hnt : ∀ x ∈ c.exceptionTable.toList, False) (hdg : decode cc pc = .ok (.invokevirtual idx, 3)) : W p l e R s m args below meth c s.heap [] 0 0 (vx_MQ below Qc (e_X "java/lang/IndexOutOfBoundsException") args s 1 6 q_no) (F0 m pc ls (.int P :: .int v :: .ref h0 :: rest)) :=
  t_pass (vx_runV (As := [.int v, .int P]) (rest := rest) S (c_X0_add_tA l D tI tZ tL h0 ad σ v hv P hlf) (cwV 2 S.2.2.2.2 hG rfl rfl rfl (by decide +kernel) hR) (t_pre hK hP hE) rfl rfl hsz rfl (lv_room hrm) hdg ⟨by omega, by omega⟩) hnt hlocks

set_option maxHeartbeats 4000000 in
set_option maxRecDepth 100000 in
theorem c_X0_add_tB (l : Launch) (D : va_G) (tI tZ tL : ClassId) (h0 : Nat) (ad : Nat → Nat) (σ : ST) (j : Nat) (hj12 : j < 12) (P : Int32) (np : Nat) (hnp : σ.1 1 = nI np) (hn8 : np ≤ 8) (hq1 : ¬ P &&& ((bI np - 1) ^^^ (-1)) = 0) (hlf : l.stackTraces = false) : vx_Met l yX0_add wsX0_add ({ frames := 7, cells := 1, slots := 6, locals := 161 } : Room) (va_Pc ([.ref h0, .int (nI j), .int P] : List Value) (t_B D tI tZ tL h0 ad σ)) t_N (e_X "java/lang/IndexOutOfBoundsException") 1 6 q_no := by
  refine t_met (cc := cX0_add) (maxL := 3) (ret := (some .int)) (by decide) rfl (Nat.le_of_ble_eq_true rfl) ?_
  intro p e s m below meth c hx hb hml hr hts hown hlocks hnt hB ls hl
  have hown : s.vm.findClass RX0 = some m.cls := hown
  obtain ⟨hP, hK, hE⟩ := hB
  have hl : lv_has ls 3 [(0, .ref h0), (1, .int (nI j)), (2, .int P)] := hl
  refine lv_aload_n hx hb dX0_add_0 rfl (lv_at hl 0 rfl) ?_
  refine lv_iload_n hx hb dX0_add_1 rfl (lv_at hl 1 rfl) ?_
  refine k_X0_checkSubject D tI tZ tL h0 ad σ j hj12 ⟨hx, hb, hml, hown, hts⟩ gX0_add_X0_checkSubject ⟨Nat.le_of_ble_eq_true rfl, Nat.le_of_ble_eq_true rfl⟩ hl.1 ⟨Nat.zero_le _, Nat.zero_le _⟩ (Nat.le_of_ble_eq_true rfl) hK hP dX0_add_2 ?_
  refine lv_aload_n hx hb dX0_add_5 rfl (lv_at hl 0 rfl) ?_
  refine lv_iload_n hx hb dX0_add_6 rfl (lv_at hl 2 rfl) ?_
  exact k_X0_checkPurposes_tA D tI tZ tL h0 ad σ P np hnp hn8 hq1 ⟨hx, hb, hml, hown, hts⟩ gX0_add_X0_checkPurposes ⟨Nat.le_of_ble_eq_true rfl, Nat.le_of_ble_eq_true rfl⟩ hl.1 (Nat.le_of_ble_eq_true rfl) hlf ⟨Nat.le_of_ble_eq_true rfl, Nat.le_of_ble_eq_true rfl⟩ hE hK hP hlocks hnt dX0_add_7
theorem k_X0_add_tB {p : Program} {l : Launch} {e : Env} {R : Room} {s : State} {m : MethodId} {args : Array Value} {below : List Frame} {meth : Method} {c : Code} {cc : ByteArray} {pc : Nat} {ls : Array Slot} {rest : List Value} {Ts : List Cond} (D : va_G) (tI tZ tL : ClassId) (h0 : Nat) (ad : Nat → Nat) (σ : ST) (j : Nat) (hj12 : j < 12) (P : Int32) (np : Nat) (hnp : σ.1 1 = nI np) (hn8 : np ≤ 8) (hq1 : ¬ P &&& ((bI np - 1) ^^^ (-1)) = 0) {Qc : Array Value → State → Outcome → State → Prop} {own : String} {idx nL : Nat} (S : CallFix p m c cc nL s args Ts own) (hG : GoodIn Ts (wsV own idx RX0 yX0_add wsX0_add)) (hR : ({ frames := 7, cells := 1, slots := 6, locals := 161 } : Room).frames + 1 ≤ R.frames ∧ 8 + (3 + 11) + ({ frames := 7, cells := 1, slots := 6, locals := 161 } : Room).locals ≤ R.locals) (hsz : ls.size = nL) (hrm : (rest.map fun v => v.category).sum ≤ 8) (hlf : l.stackTraces = false) (hcap : 1 ≤ R.cells ∧ 6 ≤ R.slots) (hE : e_E s s.heap) (hK : va_K D vwCl (kTY tI tZ tL) s) (hP : va_P D vwCl (x_W tI tZ h0 ad σ) s.heap) (hlocks : meth.locks = false) (hnt : ∀ x ∈ c.exceptionTable.toList, False) (hdg : decode cc pc = .ok (.invokevirtual idx, 3)) : W p l e R s m args below meth c s.heap [] 0 0 (vx_MQ below Qc (e_X "java/lang/IndexOutOfBoundsException") args s 1 6 q_no) (F0 m pc ls (.int P :: .int (nI j) :: .ref h0 :: rest)) :=
  t_pass (vx_runV (As := [.int (nI j), .int P]) (rest := rest) S (c_X0_add_tB l D tI tZ tL h0 ad σ j hj12 P np hnp hn8 hq1 hlf) (cwV 2 S.2.2.2.2 hG rfl rfl rfl (by decide +kernel) hR) (t_pre hK hP hE) rfl rfl hsz rfl (lv_room hrm) hdg ⟨by omega, by omega⟩) hnt hlocks

set_option maxHeartbeats 4000000 in
set_option maxRecDepth 100000 in
theorem c_X0_add_tC (l : Launch) (D : va_G) (tI tZ tL : ClassId) (h0 : Nat) (ad : Nat → Nat) (σ : ST) (j : Nat) (hj12 : j < 12) (P : Int32) (np : Nat) (hnp : σ.1 1 = nI np) (hn8 : np ≤ 8) (hq1 : P &&& ((bI np - 1) ^^^ (-1)) = 0) (hq2 : P = 0) (hlf : l.stackTraces = false) : vx_Met l yX0_add wsX0_add ({ frames := 7, cells := 1, slots := 6, locals := 161 } : Room) (va_Pc ([.ref h0, .int (nI j), .int P] : List Value) (t_B D tI tZ tL h0 ad σ)) t_N (e_X "java/lang/IllegalArgumentException") 1 6 q_no := by
  refine t_met (cc := cX0_add) (maxL := 3) (ret := (some .int)) (by decide) rfl (Nat.le_of_ble_eq_true rfl) ?_
  intro p e s m below meth c hx hb hml hr hts hown hlocks hnt hB ls hl
  have hown : s.vm.findClass RX0 = some m.cls := hown
  obtain ⟨hP, hK, hE⟩ := hB
  have hl : lv_has ls 3 [(0, .ref h0), (1, .int (nI j)), (2, .int P)] := hl
  refine lv_aload_n hx hb dX0_add_0 rfl (lv_at hl 0 rfl) ?_
  refine lv_iload_n hx hb dX0_add_1 rfl (lv_at hl 1 rfl) ?_
  refine k_X0_checkSubject D tI tZ tL h0 ad σ j hj12 ⟨hx, hb, hml, hown, hts⟩ gX0_add_X0_checkSubject ⟨Nat.le_of_ble_eq_true rfl, Nat.le_of_ble_eq_true rfl⟩ hl.1 ⟨Nat.zero_le _, Nat.zero_le _⟩ (Nat.le_of_ble_eq_true rfl) hK hP dX0_add_2 ?_
  refine lv_aload_n hx hb dX0_add_5 rfl (lv_at hl 0 rfl) ?_
  refine lv_iload_n hx hb dX0_add_6 rfl (lv_at hl 2 rfl) ?_
  exact k_X0_checkPurposes_tB D tI tZ tL h0 ad σ P np hnp hn8 hq1 hq2 ⟨hx, hb, hml, hown, hts⟩ gX0_add_X0_checkPurposes ⟨Nat.le_of_ble_eq_true rfl, Nat.le_of_ble_eq_true rfl⟩ hl.1 (Nat.le_of_ble_eq_true rfl) hlf ⟨Nat.le_of_ble_eq_true rfl, Nat.le_of_ble_eq_true rfl⟩ hE hK hP hlocks hnt dX0_add_7
theorem k_X0_add_tC {p : Program} {l : Launch} {e : Env} {R : Room} {s : State} {m : MethodId} {args : Array Value} {below : List Frame} {meth : Method} {c : Code} {cc : ByteArray} {pc : Nat} {ls : Array Slot} {rest : List Value} {Ts : List Cond} (D : va_G) (tI tZ tL : ClassId) (h0 : Nat) (ad : Nat → Nat) (σ : ST) (j : Nat) (hj12 : j < 12) (P : Int32) (np : Nat) (hnp : σ.1 1 = nI np) (hn8 : np ≤ 8) (hq1 : P &&& ((bI np - 1) ^^^ (-1)) = 0) (hq2 : P = 0) {Qc : Array Value → State → Outcome → State → Prop} {own : String} {idx nL : Nat} (S : CallFix p m c cc nL s args Ts own) (hG : GoodIn Ts (wsV own idx RX0 yX0_add wsX0_add)) (hR : ({ frames := 7, cells := 1, slots := 6, locals := 161 } : Room).frames + 1 ≤ R.frames ∧ 8 + (3 + 11) + ({ frames := 7, cells := 1, slots := 6, locals := 161 } : Room).locals ≤ R.locals) (hsz : ls.size = nL) (hrm : (rest.map fun v => v.category).sum ≤ 8) (hlf : l.stackTraces = false) (hcap : 1 ≤ R.cells ∧ 6 ≤ R.slots) (hE : e_E s s.heap) (hK : va_K D vwCl (kTY tI tZ tL) s) (hP : va_P D vwCl (x_W tI tZ h0 ad σ) s.heap) (hlocks : meth.locks = false) (hnt : ∀ x ∈ c.exceptionTable.toList, False) (hdg : decode cc pc = .ok (.invokevirtual idx, 3)) : W p l e R s m args below meth c s.heap [] 0 0 (vx_MQ below Qc (e_X "java/lang/IllegalArgumentException") args s 1 6 q_no) (F0 m pc ls (.int P :: .int (nI j) :: .ref h0 :: rest)) :=
  t_pass (vx_runV (As := [.int (nI j), .int P]) (rest := rest) S (c_X0_add_tC l D tI tZ tL h0 ad σ j hj12 P np hnp hn8 hq1 hq2 hlf) (cwV 2 S.2.2.2.2 hG rfl rfl rfl (by decide +kernel) hR) (t_pre hK hP hE) rfl rfl hsz rfl (lv_room hrm) hdg ⟨by omega, by omega⟩) hnt hlocks

set_option maxHeartbeats 4000000 in
set_option maxRecDepth 100000 in
theorem c_X0_add_tD (l : Launch) (D : va_G) (tI tZ tL : ClassId) (h0 : Nat) (ad : Nat → Nat) (σ : ST) (j : Nat) (hj12 : j < 12) (P : Int32) (np : Nat) (hnp : σ.1 1 = nI np) (hn8 : np ≤ 8) (nr : Nat) (hnr : σ.1 6 = nI nr) (hn30 : nr ≤ 30) (hq1 : P &&& ((bI np - 1) ^^^ (-1)) = 0) (hq2 : ¬ P = 0) (hbad : nr = 30 ∨ x_open σ np P (bI j) (σ.1 0) = false) (hlf : l.stackTraces = false) : vx_Met l yX0_add wsX0_add ({ frames := 7, cells := 1, slots := 6, locals := 164 } : Room) (va_Pc ([.ref h0, .int (nI j), .int P] : List Value) (t_B D tI tZ tL h0 ad σ)) t_N (e_X "java/lang/IllegalStateException") 1 6 q_no := by
  refine t_met (cc := cX0_add) (maxL := 3) (ret := (some .int)) (by decide) rfl (Nat.le_of_ble_eq_true rfl) ?_
  intro p e s m below meth c hx hb hml hr hts hown hlocks hnt hB ls hl
  have hown : s.vm.findClass RX0 = some m.cls := hown
  obtain ⟨hP, hK, hE⟩ := hB
  have hl : lv_has ls 3 [(0, .ref h0), (1, .int (nI j)), (2, .int P)] := hl
  refine lv_aload_n hx hb dX0_add_0 rfl (lv_at hl 0 rfl) ?_
  refine lv_iload_n hx hb dX0_add_1 rfl (lv_at hl 1 rfl) ?_
  refine k_X0_checkSubject D tI tZ tL h0 ad σ j hj12 ⟨hx, hb, hml, hown, hts⟩ gX0_add_X0_checkSubject ⟨Nat.le_of_ble_eq_true rfl, Nat.le_of_ble_eq_true rfl⟩ hl.1 ⟨Nat.zero_le _, Nat.zero_le _⟩ (Nat.le_of_ble_eq_true rfl) hK hP dX0_add_2 ?_
  refine lv_aload_n hx hb dX0_add_5 rfl (lv_at hl 0 rfl) ?_
  refine lv_iload_n hx hb dX0_add_6 rfl (lv_at hl 2 rfl) ?_
  refine k_X0_checkPurposes D tI tZ tL h0 ad σ P np hnp hn8 hq1 hq2 ⟨hx, hb, hml, hown, hts⟩ gX0_add_X0_checkPurposes ⟨Nat.le_of_ble_eq_true rfl, Nat.le_of_ble_eq_true rfl⟩ hl.1 ⟨Nat.zero_le _, Nat.zero_le _⟩ (Nat.le_of_ble_eq_true rfl) hK hP dX0_add_7 ?_
  refine lv_aload_n hx hb dX0_add_10 rfl (lv_at hl 0 rfl) ?_
  refine lv_iload_n hx hb dX0_add_11 rfl (lv_at hl 1 rfl) ?_
  refine k_X0_bit j ⟨hx, hb, hml, hown, hts⟩ gX0_add_X0_bit ⟨Nat.le_of_ble_eq_true rfl, Nat.le_of_ble_eq_true rfl⟩ hl.1 ⟨Nat.zero_le _, Nat.zero_le _⟩ (Nat.le_of_ble_eq_true rfl) dX0_add_12 ?_
  refine lv_iload_n hx hb dX0_add_15 rfl (lv_at hl 2 rfl) ?_
  refine lv_iconst (v := 0) hx hb dX0_add_16 (by decide) ?_
  exact k_X0_addRecord_t D tI tZ tL h0 ad σ (bI j) P 0 nr hnr hn30 np hnp hn8 hbad ⟨hx, hb, hml, hown, hts⟩ gX0_add_X0_addRecord ⟨Nat.le_of_ble_eq_true rfl, Nat.le_of_ble_eq_true rfl⟩ hl.1 (Nat.le_of_ble_eq_true rfl) hlf ⟨Nat.le_of_ble_eq_true rfl, Nat.le_of_ble_eq_true rfl⟩ hE hK hP hlocks hnt dX0_add_17
theorem k_X0_add_tD {p : Program} {l : Launch} {e : Env} {R : Room} {s : State} {m : MethodId} {args : Array Value} {below : List Frame} {meth : Method} {c : Code} {cc : ByteArray} {pc : Nat} {ls : Array Slot} {rest : List Value} {Ts : List Cond} (D : va_G) (tI tZ tL : ClassId) (h0 : Nat) (ad : Nat → Nat) (σ : ST) (j : Nat) (hj12 : j < 12) (P : Int32) (np : Nat) (hnp : σ.1 1 = nI np) (hn8 : np ≤ 8) (nr : Nat) (hnr : σ.1 6 = nI nr) (hn30 : nr ≤ 30) (hq1 : P &&& ((bI np - 1) ^^^ (-1)) = 0) (hq2 : ¬ P = 0) (hbad : nr = 30 ∨ x_open σ np P (bI j) (σ.1 0) = false) {Qc : Array Value → State → Outcome → State → Prop} {own : String} {idx nL : Nat} (S : CallFix p m c cc nL s args Ts own) (hG : GoodIn Ts (wsV own idx RX0 yX0_add wsX0_add)) (hR : ({ frames := 7, cells := 1, slots := 6, locals := 164 } : Room).frames + 1 ≤ R.frames ∧ 8 + (3 + 11) + ({ frames := 7, cells := 1, slots := 6, locals := 164 } : Room).locals ≤ R.locals) (hsz : ls.size = nL) (hrm : (rest.map fun v => v.category).sum ≤ 8) (hlf : l.stackTraces = false) (hcap : 1 ≤ R.cells ∧ 6 ≤ R.slots) (hE : e_E s s.heap) (hK : va_K D vwCl (kTY tI tZ tL) s) (hP : va_P D vwCl (x_W tI tZ h0 ad σ) s.heap) (hlocks : meth.locks = false) (hnt : ∀ x ∈ c.exceptionTable.toList, False) (hdg : decode cc pc = .ok (.invokevirtual idx, 3)) : W p l e R s m args below meth c s.heap [] 0 0 (vx_MQ below Qc (e_X "java/lang/IllegalStateException") args s 1 6 q_no) (F0 m pc ls (.int P :: .int (nI j) :: .ref h0 :: rest)) :=
  t_pass (vx_runV (As := [.int (nI j), .int P]) (rest := rest) S (c_X0_add_tD l D tI tZ tL h0 ad σ j hj12 P np hnp hn8 nr hnr hn30 hq1 hq2 hbad hlf) (cwV 2 S.2.2.2.2 hG rfl rfl rfl (by decide +kernel) hR) (t_pre hK hP hE) rfl rfl hsz rfl (lv_room hrm) hdg ⟨by omega, by omega⟩) hnt hlocks

set_option maxHeartbeats 4000000 in
set_option maxRecDepth 100000 in
theorem c_X0_derive_tA (l : Launch) (D : va_G) (tI tZ tL : ClassId) (h0 : Nat) (ad : Nat → Nat) (σ : ST) (v : Int32) (hv : v < 0 ∨ σ.1 6 ≤ v) (P : Int32) (hlf : l.stackTraces = false) : vx_Met l yX0_derive wsX0_derive ({ frames := 7, cells := 1, slots := 6, locals := 161 } : Room) (va_Pc ([.ref h0, .int v, .int P] : List Value) (t_B D tI tZ tL h0 ad σ)) t_N (e_X "java/lang/IndexOutOfBoundsException") 1 6 q_no := by
  refine t_met (cc := cX0_derive) (maxL := 3) (ret := (some .int)) (by decide) rfl (Nat.le_of_ble_eq_true rfl) ?_
  intro p e s m below meth c hx hb hml hr hts hown hlocks hnt hB ls hl
  have hown : s.vm.findClass RX0 = some m.cls := hown
  obtain ⟨hP, hK, hE⟩ := hB
  have hl : lv_has ls 3 [(0, .ref h0), (1, .int v), (2, .int P)] := hl
  refine lv_aload_n hx hb dX0_derive_0 rfl (lv_at hl 0 rfl) ?_
  refine lv_iload_n hx hb dX0_derive_1 rfl (lv_at hl 1 rfl) ?_
  exact k_X0_checkRecord_t D tI tZ tL h0 ad σ v hv ⟨hx, hb, hml, hown, hts⟩ gX0_derive_X0_checkRecord ⟨Nat.le_of_ble_eq_true rfl, Nat.le_of_ble_eq_true rfl⟩ hl.1 (Nat.le_of_ble_eq_true rfl) hlf ⟨Nat.le_of_ble_eq_true rfl, Nat.le_of_ble_eq_true rfl⟩ hE hK hP hlocks hnt dX0_derive_2
theorem k_X0_derive_tA {p : Program} {l : Launch} {e : Env} {R : Room} {s : State} {m : MethodId} {args : Array Value} {below : List Frame} {meth : Method} {c : Code} {cc : ByteArray} {pc : Nat} {ls : Array Slot} {rest : List Value} {Ts : List Cond} (D : va_G) (tI tZ tL : ClassId) (h0 : Nat) (ad : Nat → Nat) (σ : ST) (v : Int32) (hv : v < 0 ∨ σ.1 6 ≤ v) (P : Int32) {Qc : Array Value → State → Outcome → State → Prop} {own : String} {idx nL : Nat} (S : CallFix p m c cc nL s args Ts own) (hG : GoodIn Ts (wsV own idx RX0 yX0_derive wsX0_derive)) (hR : ({ frames := 7, cells := 1, slots := 6, locals := 161 } : Room).frames + 1 ≤ R.frames ∧ 8 + (3 + 11) + ({ frames := 7, cells := 1, slots := 6, locals := 161 } : Room).locals ≤ R.locals) (hsz : ls.size = nL) (hrm : (rest.map fun v => v.category).sum ≤ 8) (hlf : l.stackTraces = false) (hcap : 1 ≤ R.cells ∧ 6 ≤ R.slots) (hE : e_E s s.heap) (hK : va_K D vwCl (kTY tI tZ tL) s) (hP : va_P D vwCl (x_W tI tZ h0 ad σ) s.heap) (hlocks : meth.locks = false) (hnt : ∀ x ∈ c.exceptionTable.toList, False) (hdg : decode cc pc = .ok (.invokevirtual idx, 3)) : W p l e R s m args below meth c s.heap [] 0 0 (vx_MQ below Qc (e_X "java/lang/IndexOutOfBoundsException") args s 1 6 q_no) (F0 m pc ls (.int P :: .int v :: .ref h0 :: rest)) :=
  t_pass (vx_runV (As := [.int v, .int P]) (rest := rest) S (c_X0_derive_tA l D tI tZ tL h0 ad σ v hv P hlf) (cwV 2 S.2.2.2.2 hG rfl rfl rfl (by decide +kernel) hR) (t_pre hK hP hE) rfl rfl hsz rfl (lv_room hrm) hdg ⟨by omega, by omega⟩) hnt hlocks

set_option maxHeartbeats 4000000 in
set_option maxRecDepth 100000 in
theorem c_X0_derive_tB (l : Launch) (D : va_G) (tI tZ tL : ClassId) (h0 : Nat) (ad : Nat → Nat) (σ : ST) (r : Nat) (nr : Nat) (hnr : σ.1 6 = nI nr) (hn30 : nr ≤ 30) (hrn : r < nr) (P : Int32) (np : Nat) (hnp : σ.1 1 = nI np) (hn8 : np ≤ 8) (hq1 : ¬ P &&& ((bI np - 1) ^^^ (-1)) = 0) (hlf : l.stackTraces = false) : vx_Met l yX0_derive wsX0_derive ({ frames := 7, cells := 1, slots := 6, locals := 161 } : Room) (va_Pc ([.ref h0, .int (nI r), .int P] : List Value) (t_B D tI tZ tL h0 ad σ)) t_N (e_X "java/lang/IndexOutOfBoundsException") 1 6 q_no := by
  refine t_met (cc := cX0_derive) (maxL := 3) (ret := (some .int)) (by decide) rfl (Nat.le_of_ble_eq_true rfl) ?_
  intro p e s m below meth c hx hb hml hr hts hown hlocks hnt hB ls hl
  have hown : s.vm.findClass RX0 = some m.cls := hown
  obtain ⟨hP, hK, hE⟩ := hB
  have hl : lv_has ls 3 [(0, .ref h0), (1, .int (nI r)), (2, .int P)] := hl
  refine lv_aload_n hx hb dX0_derive_0 rfl (lv_at hl 0 rfl) ?_
  refine lv_iload_n hx hb dX0_derive_1 rfl (lv_at hl 1 rfl) ?_
  refine k_X0_checkRecord D tI tZ tL h0 ad σ r nr hnr hn30 hrn ⟨hx, hb, hml, hown, hts⟩ gX0_derive_X0_checkRecord ⟨Nat.le_of_ble_eq_true rfl, Nat.le_of_ble_eq_true rfl⟩ hl.1 ⟨Nat.zero_le _, Nat.zero_le _⟩ (Nat.le_of_ble_eq_true rfl) hK hP dX0_derive_2 ?_
  refine lv_aload_n hx hb dX0_derive_5 rfl (lv_at hl 0 rfl) ?_
  refine lv_iload_n hx hb dX0_derive_6 rfl (lv_at hl 2 rfl) ?_
  exact k_X0_checkPurposes_tA D tI tZ tL h0 ad σ P np hnp hn8 hq1 ⟨hx, hb, hml, hown, hts⟩ gX0_derive_X0_checkPurposes ⟨Nat.le_of_ble_eq_true rfl, Nat.le_of_ble_eq_true rfl⟩ hl.1 (Nat.le_of_ble_eq_true rfl) hlf ⟨Nat.le_of_ble_eq_true rfl, Nat.le_of_ble_eq_true rfl⟩ hE hK hP hlocks hnt dX0_derive_7
theorem k_X0_derive_tB {p : Program} {l : Launch} {e : Env} {R : Room} {s : State} {m : MethodId} {args : Array Value} {below : List Frame} {meth : Method} {c : Code} {cc : ByteArray} {pc : Nat} {ls : Array Slot} {rest : List Value} {Ts : List Cond} (D : va_G) (tI tZ tL : ClassId) (h0 : Nat) (ad : Nat → Nat) (σ : ST) (r : Nat) (nr : Nat) (hnr : σ.1 6 = nI nr) (hn30 : nr ≤ 30) (hrn : r < nr) (P : Int32) (np : Nat) (hnp : σ.1 1 = nI np) (hn8 : np ≤ 8) (hq1 : ¬ P &&& ((bI np - 1) ^^^ (-1)) = 0) {Qc : Array Value → State → Outcome → State → Prop} {own : String} {idx nL : Nat} (S : CallFix p m c cc nL s args Ts own) (hG : GoodIn Ts (wsV own idx RX0 yX0_derive wsX0_derive)) (hR : ({ frames := 7, cells := 1, slots := 6, locals := 161 } : Room).frames + 1 ≤ R.frames ∧ 8 + (3 + 11) + ({ frames := 7, cells := 1, slots := 6, locals := 161 } : Room).locals ≤ R.locals) (hsz : ls.size = nL) (hrm : (rest.map fun v => v.category).sum ≤ 8) (hlf : l.stackTraces = false) (hcap : 1 ≤ R.cells ∧ 6 ≤ R.slots) (hE : e_E s s.heap) (hK : va_K D vwCl (kTY tI tZ tL) s) (hP : va_P D vwCl (x_W tI tZ h0 ad σ) s.heap) (hlocks : meth.locks = false) (hnt : ∀ x ∈ c.exceptionTable.toList, False) (hdg : decode cc pc = .ok (.invokevirtual idx, 3)) : W p l e R s m args below meth c s.heap [] 0 0 (vx_MQ below Qc (e_X "java/lang/IndexOutOfBoundsException") args s 1 6 q_no) (F0 m pc ls (.int P :: .int (nI r) :: .ref h0 :: rest)) :=
  t_pass (vx_runV (As := [.int (nI r), .int P]) (rest := rest) S (c_X0_derive_tB l D tI tZ tL h0 ad σ r nr hnr hn30 hrn P np hnp hn8 hq1 hlf) (cwV 2 S.2.2.2.2 hG rfl rfl rfl (by decide +kernel) hR) (t_pre hK hP hE) rfl rfl hsz rfl (lv_room hrm) hdg ⟨by omega, by omega⟩) hnt hlocks

set_option maxHeartbeats 4000000 in
set_option maxRecDepth 100000 in
theorem c_X0_derive_tC (l : Launch) (D : va_G) (tI tZ tL : ClassId) (h0 : Nat) (ad : Nat → Nat) (σ : ST) (r : Nat) (nr : Nat) (hnr : σ.1 6 = nI nr) (hn30 : nr ≤ 30) (hrn : r < nr) (P : Int32) (np : Nat) (hnp : σ.1 1 = nI np) (hn8 : np ≤ 8) (hq1 : P &&& ((bI np - 1) ^^^ (-1)) = 0) (hq2 : P = 0) (hlf : l.stackTraces = false) : vx_Met l yX0_derive wsX0_derive ({ frames := 7, cells := 1, slots := 6, locals := 161 } : Room) (va_Pc ([.ref h0, .int (nI r), .int P] : List Value) (t_B D tI tZ tL h0 ad σ)) t_N (e_X "java/lang/IllegalArgumentException") 1 6 q_no := by
  refine t_met (cc := cX0_derive) (maxL := 3) (ret := (some .int)) (by decide) rfl (Nat.le_of_ble_eq_true rfl) ?_
  intro p e s m below meth c hx hb hml hr hts hown hlocks hnt hB ls hl
  have hown : s.vm.findClass RX0 = some m.cls := hown
  obtain ⟨hP, hK, hE⟩ := hB
  have hl : lv_has ls 3 [(0, .ref h0), (1, .int (nI r)), (2, .int P)] := hl
  refine lv_aload_n hx hb dX0_derive_0 rfl (lv_at hl 0 rfl) ?_
  refine lv_iload_n hx hb dX0_derive_1 rfl (lv_at hl 1 rfl) ?_
  refine k_X0_checkRecord D tI tZ tL h0 ad σ r nr hnr hn30 hrn ⟨hx, hb, hml, hown, hts⟩ gX0_derive_X0_checkRecord ⟨Nat.le_of_ble_eq_true rfl, Nat.le_of_ble_eq_true rfl⟩ hl.1 ⟨Nat.zero_le _, Nat.zero_le _⟩ (Nat.le_of_ble_eq_true rfl) hK hP dX0_derive_2 ?_
  refine lv_aload_n hx hb dX0_derive_5 rfl (lv_at hl 0 rfl) ?_
  refine lv_iload_n hx hb dX0_derive_6 rfl (lv_at hl 2 rfl) ?_
  exact k_X0_checkPurposes_tB D tI tZ tL h0 ad σ P np hnp hn8 hq1 hq2 ⟨hx, hb, hml, hown, hts⟩ gX0_derive_X0_checkPurposes ⟨Nat.le_of_ble_eq_true rfl, Nat.le_of_ble_eq_true rfl⟩ hl.1 (Nat.le_of_ble_eq_true rfl) hlf ⟨Nat.le_of_ble_eq_true rfl, Nat.le_of_ble_eq_true rfl⟩ hE hK hP hlocks hnt dX0_derive_7
theorem k_X0_derive_tC {p : Program} {l : Launch} {e : Env} {R : Room} {s : State} {m : MethodId} {args : Array Value} {below : List Frame} {meth : Method} {c : Code} {cc : ByteArray} {pc : Nat} {ls : Array Slot} {rest : List Value} {Ts : List Cond} (D : va_G) (tI tZ tL : ClassId) (h0 : Nat) (ad : Nat → Nat) (σ : ST) (r : Nat) (nr : Nat) (hnr : σ.1 6 = nI nr) (hn30 : nr ≤ 30) (hrn : r < nr) (P : Int32) (np : Nat) (hnp : σ.1 1 = nI np) (hn8 : np ≤ 8) (hq1 : P &&& ((bI np - 1) ^^^ (-1)) = 0) (hq2 : P = 0) {Qc : Array Value → State → Outcome → State → Prop} {own : String} {idx nL : Nat} (S : CallFix p m c cc nL s args Ts own) (hG : GoodIn Ts (wsV own idx RX0 yX0_derive wsX0_derive)) (hR : ({ frames := 7, cells := 1, slots := 6, locals := 161 } : Room).frames + 1 ≤ R.frames ∧ 8 + (3 + 11) + ({ frames := 7, cells := 1, slots := 6, locals := 161 } : Room).locals ≤ R.locals) (hsz : ls.size = nL) (hrm : (rest.map fun v => v.category).sum ≤ 8) (hlf : l.stackTraces = false) (hcap : 1 ≤ R.cells ∧ 6 ≤ R.slots) (hE : e_E s s.heap) (hK : va_K D vwCl (kTY tI tZ tL) s) (hP : va_P D vwCl (x_W tI tZ h0 ad σ) s.heap) (hlocks : meth.locks = false) (hnt : ∀ x ∈ c.exceptionTable.toList, False) (hdg : decode cc pc = .ok (.invokevirtual idx, 3)) : W p l e R s m args below meth c s.heap [] 0 0 (vx_MQ below Qc (e_X "java/lang/IllegalArgumentException") args s 1 6 q_no) (F0 m pc ls (.int P :: .int (nI r) :: .ref h0 :: rest)) :=
  t_pass (vx_runV (As := [.int (nI r), .int P]) (rest := rest) S (c_X0_derive_tC l D tI tZ tL h0 ad σ r nr hnr hn30 hrn P np hnp hn8 hq1 hq2 hlf) (cwV 2 S.2.2.2.2 hG rfl rfl rfl (by decide +kernel) hR) (t_pre hK hP hE) rfl rfl hsz rfl (lv_room hrm) hdg ⟨by omega, by omega⟩) hnt hlocks

set_option maxHeartbeats 4000000 in
set_option maxRecDepth 100000 in
theorem c_X0_derive_tD (l : Launch) (D : va_G) (tI tZ tL : ClassId) (h0 : Nat) (ad : Nat → Nat) (σ : ST) (r : Nat) (nr : Nat) (hnr : σ.1 6 = nI nr) (hn30 : nr ≤ 30) (hrn : r < nr) (P : Int32) (np : Nat) (hnp : σ.1 1 = nI np) (hn8 : np ≤ 8) (hq1 : P &&& ((bI np - 1) ^^^ (-1)) = 0) (hq2 : ¬ P = 0) (hpr : bt (σ.1 12) r = false) (hlf : l.stackTraces = false) : vx_Met l yX0_derive wsX0_derive ({ frames := 6, cells := 1, slots := 6, locals := 140 } : Room) (va_Pc ([.ref h0, .int (nI r), .int P] : List Value) (t_B D tI tZ tL h0 ad σ)) t_N (e_X "java/lang/IllegalStateException") 1 6 q_no := by
  refine t_met (cc := cX0_derive) (maxL := 3) (ret := (some .int)) (by decide) rfl (Nat.le_of_ble_eq_true rfl) ?_
  intro p e s m below meth c hx hb hml hr hts hown hlocks hnt hB ls hl
  have hown : s.vm.findClass RX0 = some m.cls := hown
  obtain ⟨hP, hK, hE⟩ := hB
  have hl : lv_has ls 3 [(0, .ref h0), (1, .int (nI r)), (2, .int P)] := hl
  have hin : ∀ w ∈ wsX00, w ∈ wsX0_derive := in_X0_derive
  have hl_presentRecords : xl_presentRecords ∈ wsX0_derive := by decide +kernel
  refine lv_aload_n hx hb dX0_derive_0 rfl (lv_at hl 0 rfl) ?_
  refine lv_iload_n hx hb dX0_derive_1 rfl (lv_at hl 1 rfl) ?_
  refine k_X0_checkRecord D tI tZ tL h0 ad σ r nr hnr hn30 hrn ⟨hx, hb, hml, hown, hts⟩ gX0_derive_X0_checkRecord ⟨Nat.le_of_ble_eq_true rfl, Nat.le_of_ble_eq_true rfl⟩ hl.1 ⟨Nat.zero_le _, Nat.zero_le _⟩ (Nat.le_of_ble_eq_true rfl) hK hP dX0_derive_2 ?_
  refine lv_aload_n hx hb dX0_derive_5 rfl (lv_at hl 0 rfl) ?_
  refine lv_iload_n hx hb dX0_derive_6 rfl (lv_at hl 2 rfl) ?_
  refine k_X0_checkPurposes D tI tZ tL h0 ad σ P np hnp hn8 hq1 hq2 ⟨hx, hb, hml, hown, hts⟩ gX0_derive_X0_checkPurposes ⟨Nat.le_of_ble_eq_true rfl, Nat.le_of_ble_eq_true rfl⟩ hl.1 ⟨Nat.zero_le _, Nat.zero_le _⟩ (Nat.le_of_ble_eq_true rfl) hK hP dX0_derive_7 ?_
  refine lv_aload_n hx hb dX0_derive_10 rfl (lv_at hl 0 rfl) ?_
  refine xg_presentRecords hx hb hts hin hown hK hP hl_presentRecords dX0_derive_11 ?_
  refine lv_iload_n hx hb dX0_derive_14 rfl (lv_at hl 1 rfl) ?_
  refine k_X0_has (σ.1 12) r (by omega) ⟨hx, hb, hml, hown, hts⟩ gX0_derive_X0_has ⟨Nat.le_of_ble_eq_true rfl, Nat.le_of_ble_eq_true rfl⟩ hl.1 ⟨Nat.zero_le _, Nat.zero_le _⟩ (Nat.le_of_ble_eq_true rfl) dX0_derive_15 ?_
  refine lv_ifne_b (tgt := 31) hx hb dX0_derive_18 (by decide) (fun c18 => absurd c18 (by rw [hpr]; decide)) (fun c18 => ?_)
  exact t_thr (ik := 45) (is := 86) (ic := 49) hx hb hlf hown (by decide +kernel) (by decide +kernel) hts (by decide +kernel) (by decide +kernel) (by decide +kernel) (by decide +kernel) (by decide +kernel) hE (t := "the source is not present") (by decide +kernel) (by rw [hml]; exact hl.1) dX0_derive_21 dX0_derive_24 dX0_derive_25 dX0_derive_27 dX0_derive_30 hnt (Nat.le_of_ble_eq_true rfl) (Nat.le_of_ble_eq_true rfl) (Nat.le_of_ble_eq_true rfl) (Nat.le_of_ble_eq_true rfl) hlocks
theorem k_X0_derive_tD {p : Program} {l : Launch} {e : Env} {R : Room} {s : State} {m : MethodId} {args : Array Value} {below : List Frame} {meth : Method} {c : Code} {cc : ByteArray} {pc : Nat} {ls : Array Slot} {rest : List Value} {Ts : List Cond} (D : va_G) (tI tZ tL : ClassId) (h0 : Nat) (ad : Nat → Nat) (σ : ST) (r : Nat) (nr : Nat) (hnr : σ.1 6 = nI nr) (hn30 : nr ≤ 30) (hrn : r < nr) (P : Int32) (np : Nat) (hnp : σ.1 1 = nI np) (hn8 : np ≤ 8) (hq1 : P &&& ((bI np - 1) ^^^ (-1)) = 0) (hq2 : ¬ P = 0) (hpr : bt (σ.1 12) r = false) {Qc : Array Value → State → Outcome → State → Prop} {own : String} {idx nL : Nat} (S : CallFix p m c cc nL s args Ts own) (hG : GoodIn Ts (wsV own idx RX0 yX0_derive wsX0_derive)) (hR : ({ frames := 6, cells := 1, slots := 6, locals := 140 } : Room).frames + 1 ≤ R.frames ∧ 8 + (3 + 11) + ({ frames := 6, cells := 1, slots := 6, locals := 140 } : Room).locals ≤ R.locals) (hsz : ls.size = nL) (hrm : (rest.map fun v => v.category).sum ≤ 8) (hlf : l.stackTraces = false) (hcap : 1 ≤ R.cells ∧ 6 ≤ R.slots) (hE : e_E s s.heap) (hK : va_K D vwCl (kTY tI tZ tL) s) (hP : va_P D vwCl (x_W tI tZ h0 ad σ) s.heap) (hlocks : meth.locks = false) (hnt : ∀ x ∈ c.exceptionTable.toList, False) (hdg : decode cc pc = .ok (.invokevirtual idx, 3)) : W p l e R s m args below meth c s.heap [] 0 0 (vx_MQ below Qc (e_X "java/lang/IllegalStateException") args s 1 6 q_no) (F0 m pc ls (.int P :: .int (nI r) :: .ref h0 :: rest)) :=
  t_pass (vx_runV (As := [.int (nI r), .int P]) (rest := rest) S (c_X0_derive_tD l D tI tZ tL h0 ad σ r nr hnr hn30 hrn P np hnp hn8 hq1 hq2 hpr hlf) (cwV 2 S.2.2.2.2 hG rfl rfl rfl (by decide +kernel) hR) (t_pre hK hP hE) rfl rfl hsz rfl (lv_room hrm) hdg ⟨by omega, by omega⟩) hnt hlocks

set_option maxHeartbeats 4000000 in
set_option maxRecDepth 100000 in
theorem c_X0_derive_tE (l : Launch) (D : va_G) (tI tZ tL : ClassId) (h0 : Nat) (ad : Nat → Nat) (σ : ST) (r : Nat) (nr : Nat) (hnr : σ.1 6 = nI nr) (hn30 : nr ≤ 30) (hrn : r < nr) (P : Int32) (np : Nat) (hnp : σ.1 1 = nI np) (hn8 : np ≤ 8) (hq1 : P &&& ((bI np - 1) ^^^ (-1)) = 0) (hq2 : ¬ P = 0) (hpr : bt (σ.1 12) r = true) (hbad : nr = 30 ∨ x_open σ np P (σ.2 9 r) (σ.1 0) = false) (hlf : l.stackTraces = false) : vx_Met l yX0_derive wsX0_derive ({ frames := 7, cells := 1, slots := 6, locals := 164 } : Room) (va_Pc ([.ref h0, .int (nI r), .int P] : List Value) (t_B D tI tZ tL h0 ad σ)) t_N (e_X "java/lang/IllegalStateException") 1 6 q_no := by
  refine t_met (cc := cX0_derive) (maxL := 3) (ret := (some .int)) (by decide) rfl (Nat.le_of_ble_eq_true rfl) ?_
  intro p e s m below meth c hx hb hml hr hts hown hlocks hnt hB ls hl
  have hown : s.vm.findClass RX0 = some m.cls := hown
  obtain ⟨hP, hK, hE⟩ := hB
  have hl : lv_has ls 3 [(0, .ref h0), (1, .int (nI r)), (2, .int P)] := hl
  have hin : ∀ w ∈ wsX00, w ∈ wsX0_derive := in_X0_derive
  have hl_presentRecords : xl_presentRecords ∈ wsX0_derive := by decide +kernel
  have hl_subjectsOfRecord : xl_subjectsOfRecord ∈ wsX0_derive := by decide +kernel
  refine lv_aload_n hx hb dX0_derive_0 rfl (lv_at hl 0 rfl) ?_
  refine lv_iload_n hx hb dX0_derive_1 rfl (lv_at hl 1 rfl) ?_
  refine k_X0_checkRecord D tI tZ tL h0 ad σ r nr hnr hn30 hrn ⟨hx, hb, hml, hown, hts⟩ gX0_derive_X0_checkRecord ⟨Nat.le_of_ble_eq_true rfl, Nat.le_of_ble_eq_true rfl⟩ hl.1 ⟨Nat.zero_le _, Nat.zero_le _⟩ (Nat.le_of_ble_eq_true rfl) hK hP dX0_derive_2 ?_
  refine lv_aload_n hx hb dX0_derive_5 rfl (lv_at hl 0 rfl) ?_
  refine lv_iload_n hx hb dX0_derive_6 rfl (lv_at hl 2 rfl) ?_
  refine k_X0_checkPurposes D tI tZ tL h0 ad σ P np hnp hn8 hq1 hq2 ⟨hx, hb, hml, hown, hts⟩ gX0_derive_X0_checkPurposes ⟨Nat.le_of_ble_eq_true rfl, Nat.le_of_ble_eq_true rfl⟩ hl.1 ⟨Nat.zero_le _, Nat.zero_le _⟩ (Nat.le_of_ble_eq_true rfl) hK hP dX0_derive_7 ?_
  refine lv_aload_n hx hb dX0_derive_10 rfl (lv_at hl 0 rfl) ?_
  refine xg_presentRecords hx hb hts hin hown hK hP hl_presentRecords dX0_derive_11 ?_
  refine lv_iload_n hx hb dX0_derive_14 rfl (lv_at hl 1 rfl) ?_
  refine k_X0_has (σ.1 12) r (by omega) ⟨hx, hb, hml, hown, hts⟩ gX0_derive_X0_has ⟨Nat.le_of_ble_eq_true rfl, Nat.le_of_ble_eq_true rfl⟩ hl.1 ⟨Nat.zero_le _, Nat.zero_le _⟩ (Nat.le_of_ble_eq_true rfl) dX0_derive_15 ?_
  refine lv_ifne_b (tgt := 31) hx hb dX0_derive_18 (by decide) (fun c18 => ?_) (fun c18 => absurd c18 (by rw [hpr]; decide))
  refine lv_aload_n hx hb dX0_derive_31 rfl (lv_at hl 0 rfl) ?_
  refine lv_aload_n hx hb dX0_derive_32 rfl (lv_at hl 0 rfl) ?_
  refine xg_subjectsOfRecord hx hb hts hin hown hK hP hl_subjectsOfRecord dX0_derive_33 ?_
  refine lv_iload_n hx hb dX0_derive_36 rfl (lv_at hl 1 rfl) ?_
  refine xr_subjectsOfRecord (j := r) hx hb hK hP (by omega) dX0_derive_37 ?_
  refine lv_iload_n hx hb dX0_derive_38 rfl (lv_at hl 2 rfl) ?_
  refine lv_iload_n hx hb dX0_derive_39 rfl (lv_at hl 1 rfl) ?_
  refine k_X0_bit r ⟨hx, hb, hml, hown, hts⟩ gX0_derive_X0_bit ⟨Nat.le_of_ble_eq_true rfl, Nat.le_of_ble_eq_true rfl⟩ hl.1 ⟨Nat.zero_le _, Nat.zero_le _⟩ (Nat.le_of_ble_eq_true rfl) dX0_derive_40 ?_
  exact k_X0_addRecord_t D tI tZ tL h0 ad σ (σ.2 9 r) P (bI r) nr hnr hn30 np hnp hn8 hbad ⟨hx, hb, hml, hown, hts⟩ gX0_derive_X0_addRecord ⟨Nat.le_of_ble_eq_true rfl, Nat.le_of_ble_eq_true rfl⟩ hl.1 (Nat.le_of_ble_eq_true rfl) hlf ⟨Nat.le_of_ble_eq_true rfl, Nat.le_of_ble_eq_true rfl⟩ hE hK hP hlocks hnt dX0_derive_43
theorem k_X0_derive_tE {p : Program} {l : Launch} {e : Env} {R : Room} {s : State} {m : MethodId} {args : Array Value} {below : List Frame} {meth : Method} {c : Code} {cc : ByteArray} {pc : Nat} {ls : Array Slot} {rest : List Value} {Ts : List Cond} (D : va_G) (tI tZ tL : ClassId) (h0 : Nat) (ad : Nat → Nat) (σ : ST) (r : Nat) (nr : Nat) (hnr : σ.1 6 = nI nr) (hn30 : nr ≤ 30) (hrn : r < nr) (P : Int32) (np : Nat) (hnp : σ.1 1 = nI np) (hn8 : np ≤ 8) (hq1 : P &&& ((bI np - 1) ^^^ (-1)) = 0) (hq2 : ¬ P = 0) (hpr : bt (σ.1 12) r = true) (hbad : nr = 30 ∨ x_open σ np P (σ.2 9 r) (σ.1 0) = false) {Qc : Array Value → State → Outcome → State → Prop} {own : String} {idx nL : Nat} (S : CallFix p m c cc nL s args Ts own) (hG : GoodIn Ts (wsV own idx RX0 yX0_derive wsX0_derive)) (hR : ({ frames := 7, cells := 1, slots := 6, locals := 164 } : Room).frames + 1 ≤ R.frames ∧ 8 + (3 + 11) + ({ frames := 7, cells := 1, slots := 6, locals := 164 } : Room).locals ≤ R.locals) (hsz : ls.size = nL) (hrm : (rest.map fun v => v.category).sum ≤ 8) (hlf : l.stackTraces = false) (hcap : 1 ≤ R.cells ∧ 6 ≤ R.slots) (hE : e_E s s.heap) (hK : va_K D vwCl (kTY tI tZ tL) s) (hP : va_P D vwCl (x_W tI tZ h0 ad σ) s.heap) (hlocks : meth.locks = false) (hnt : ∀ x ∈ c.exceptionTable.toList, False) (hdg : decode cc pc = .ok (.invokevirtual idx, 3)) : W p l e R s m args below meth c s.heap [] 0 0 (vx_MQ below Qc (e_X "java/lang/IllegalStateException") args s 1 6 q_no) (F0 m pc ls (.int P :: .int (nI r) :: .ref h0 :: rest)) :=
  t_pass (vx_runV (As := [.int (nI r), .int P]) (rest := rest) S (c_X0_derive_tE l D tI tZ tL h0 ad σ r nr hnr hn30 hrn P np hnp hn8 hq1 hq2 hpr hbad hlf) (cwV 2 S.2.2.2.2 hG rfl rfl rfl (by decide +kernel) hR) (t_pre hK hP hE) rfl rfl hsz rfl (lv_room hrm) hdg ⟨by omega, by omega⟩) hnt hlocks

set_option maxHeartbeats 4000000 in
set_option maxRecDepth 100000 in
theorem c_X0_addSource_tA (l : Launch) (D : va_G) (tI tZ tL : ClassId) (h0 : Nat) (ad : Nat → Nat) (σ : ST) (v : Int32) (hv : v < 0 ∨ σ.1 6 ≤ v) (w : Int32) (hlf : l.stackTraces = false) : vx_Met l yX0_addSource wsX0_addSource ({ frames := 7, cells := 1, slots := 6, locals := 161 } : Room) (va_Pc ([.ref h0, .int v, .int w] : List Value) (t_B D tI tZ tL h0 ad σ)) t_N (e_X "java/lang/IndexOutOfBoundsException") 1 6 q_no := by
  refine t_met (cc := cX0_addSource) (maxL := 3) (ret := (some .int)) (by decide) rfl (Nat.le_of_ble_eq_true rfl) ?_
  intro p e s m below meth c hx hb hml hr hts hown hlocks hnt hB ls hl
  have hown : s.vm.findClass RX0 = some m.cls := hown
  obtain ⟨hP, hK, hE⟩ := hB
  have hl : lv_has ls 3 [(0, .ref h0), (1, .int v), (2, .int w)] := hl
  refine lv_aload_n hx hb dX0_addSource_0 rfl (lv_at hl 0 rfl) ?_
  refine lv_iload_n hx hb dX0_addSource_1 rfl (lv_at hl 1 rfl) ?_
  exact k_X0_checkRecord_t D tI tZ tL h0 ad σ v hv ⟨hx, hb, hml, hown, hts⟩ gX0_addSource_X0_checkRecord ⟨Nat.le_of_ble_eq_true rfl, Nat.le_of_ble_eq_true rfl⟩ hl.1 (Nat.le_of_ble_eq_true rfl) hlf ⟨Nat.le_of_ble_eq_true rfl, Nat.le_of_ble_eq_true rfl⟩ hE hK hP hlocks hnt dX0_addSource_2
theorem k_X0_addSource_tA {p : Program} {l : Launch} {e : Env} {R : Room} {s : State} {m : MethodId} {args : Array Value} {below : List Frame} {meth : Method} {c : Code} {cc : ByteArray} {pc : Nat} {ls : Array Slot} {rest : List Value} {Ts : List Cond} (D : va_G) (tI tZ tL : ClassId) (h0 : Nat) (ad : Nat → Nat) (σ : ST) (v : Int32) (hv : v < 0 ∨ σ.1 6 ≤ v) (w : Int32) {Qc : Array Value → State → Outcome → State → Prop} {own : String} {idx nL : Nat} (S : CallFix p m c cc nL s args Ts own) (hG : GoodIn Ts (wsV own idx RX0 yX0_addSource wsX0_addSource)) (hR : ({ frames := 7, cells := 1, slots := 6, locals := 161 } : Room).frames + 1 ≤ R.frames ∧ 8 + (3 + 11) + ({ frames := 7, cells := 1, slots := 6, locals := 161 } : Room).locals ≤ R.locals) (hsz : ls.size = nL) (hrm : (rest.map fun v => v.category).sum ≤ 8) (hlf : l.stackTraces = false) (hcap : 1 ≤ R.cells ∧ 6 ≤ R.slots) (hE : e_E s s.heap) (hK : va_K D vwCl (kTY tI tZ tL) s) (hP : va_P D vwCl (x_W tI tZ h0 ad σ) s.heap) (hlocks : meth.locks = false) (hnt : ∀ x ∈ c.exceptionTable.toList, False) (hdg : decode cc pc = .ok (.invokevirtual idx, 3)) : W p l e R s m args below meth c s.heap [] 0 0 (vx_MQ below Qc (e_X "java/lang/IndexOutOfBoundsException") args s 1 6 q_no) (F0 m pc ls (.int w :: .int v :: .ref h0 :: rest)) :=
  t_pass (vx_runV (As := [.int v, .int w]) (rest := rest) S (c_X0_addSource_tA l D tI tZ tL h0 ad σ v hv w hlf) (cwV 2 S.2.2.2.2 hG rfl rfl rfl (by decide +kernel) hR) (t_pre hK hP hE) rfl rfl hsz rfl (lv_room hrm) hdg ⟨by omega, by omega⟩) hnt hlocks

set_option maxHeartbeats 4000000 in
set_option maxRecDepth 100000 in
theorem c_X0_addSource_tB (l : Launch) (D : va_G) (tI tZ tL : ClassId) (h0 : Nat) (ad : Nat → Nat) (σ : ST) (r : Nat) (nr : Nat) (hnr : σ.1 6 = nI nr) (hn30 : nr ≤ 30) (hrn : r < nr) (v : Int32) (hv : v < 0 ∨ σ.1 6 ≤ v) (hlf : l.stackTraces = false) : vx_Met l yX0_addSource wsX0_addSource ({ frames := 7, cells := 1, slots := 6, locals := 161 } : Room) (va_Pc ([.ref h0, .int (nI r), .int v] : List Value) (t_B D tI tZ tL h0 ad σ)) t_N (e_X "java/lang/IndexOutOfBoundsException") 1 6 q_no := by
  refine t_met (cc := cX0_addSource) (maxL := 3) (ret := (some .int)) (by decide) rfl (Nat.le_of_ble_eq_true rfl) ?_
  intro p e s m below meth c hx hb hml hr hts hown hlocks hnt hB ls hl
  have hown : s.vm.findClass RX0 = some m.cls := hown
  obtain ⟨hP, hK, hE⟩ := hB
  have hl : lv_has ls 3 [(0, .ref h0), (1, .int (nI r)), (2, .int v)] := hl
  refine lv_aload_n hx hb dX0_addSource_0 rfl (lv_at hl 0 rfl) ?_
  refine lv_iload_n hx hb dX0_addSource_1 rfl (lv_at hl 1 rfl) ?_
  refine k_X0_checkRecord D tI tZ tL h0 ad σ r nr hnr hn30 hrn ⟨hx, hb, hml, hown, hts⟩ gX0_addSource_X0_checkRecord ⟨Nat.le_of_ble_eq_true rfl, Nat.le_of_ble_eq_true rfl⟩ hl.1 ⟨Nat.zero_le _, Nat.zero_le _⟩ (Nat.le_of_ble_eq_true rfl) hK hP dX0_addSource_2 ?_
  refine lv_aload_n hx hb dX0_addSource_5 rfl (lv_at hl 0 rfl) ?_
  refine lv_iload_n hx hb dX0_addSource_6 rfl (lv_at hl 2 rfl) ?_
  exact k_X0_checkRecord_t D tI tZ tL h0 ad σ v hv ⟨hx, hb, hml, hown, hts⟩ gX0_addSource_X0_checkRecord ⟨Nat.le_of_ble_eq_true rfl, Nat.le_of_ble_eq_true rfl⟩ hl.1 (Nat.le_of_ble_eq_true rfl) hlf ⟨Nat.le_of_ble_eq_true rfl, Nat.le_of_ble_eq_true rfl⟩ hE hK hP hlocks hnt dX0_addSource_7
theorem k_X0_addSource_tB {p : Program} {l : Launch} {e : Env} {R : Room} {s : State} {m : MethodId} {args : Array Value} {below : List Frame} {meth : Method} {c : Code} {cc : ByteArray} {pc : Nat} {ls : Array Slot} {rest : List Value} {Ts : List Cond} (D : va_G) (tI tZ tL : ClassId) (h0 : Nat) (ad : Nat → Nat) (σ : ST) (r : Nat) (nr : Nat) (hnr : σ.1 6 = nI nr) (hn30 : nr ≤ 30) (hrn : r < nr) (v : Int32) (hv : v < 0 ∨ σ.1 6 ≤ v) {Qc : Array Value → State → Outcome → State → Prop} {own : String} {idx nL : Nat} (S : CallFix p m c cc nL s args Ts own) (hG : GoodIn Ts (wsV own idx RX0 yX0_addSource wsX0_addSource)) (hR : ({ frames := 7, cells := 1, slots := 6, locals := 161 } : Room).frames + 1 ≤ R.frames ∧ 8 + (3 + 11) + ({ frames := 7, cells := 1, slots := 6, locals := 161 } : Room).locals ≤ R.locals) (hsz : ls.size = nL) (hrm : (rest.map fun v => v.category).sum ≤ 8) (hlf : l.stackTraces = false) (hcap : 1 ≤ R.cells ∧ 6 ≤ R.slots) (hE : e_E s s.heap) (hK : va_K D vwCl (kTY tI tZ tL) s) (hP : va_P D vwCl (x_W tI tZ h0 ad σ) s.heap) (hlocks : meth.locks = false) (hnt : ∀ x ∈ c.exceptionTable.toList, False) (hdg : decode cc pc = .ok (.invokevirtual idx, 3)) : W p l e R s m args below meth c s.heap [] 0 0 (vx_MQ below Qc (e_X "java/lang/IndexOutOfBoundsException") args s 1 6 q_no) (F0 m pc ls (.int v :: .int (nI r) :: .ref h0 :: rest)) :=
  t_pass (vx_runV (As := [.int (nI r), .int v]) (rest := rest) S (c_X0_addSource_tB l D tI tZ tL h0 ad σ r nr hnr hn30 hrn v hv hlf) (cwV 2 S.2.2.2.2 hG rfl rfl rfl (by decide +kernel) hR) (t_pre hK hP hE) rfl rfl hsz rfl (lv_room hrm) hdg ⟨by omega, by omega⟩) hnt hlocks

set_option maxHeartbeats 4000000 in
set_option maxRecDepth 100000 in
theorem c_X0_addSource_tC (l : Launch) (D : va_G) (tI tZ tL : ClassId) (h0 : Nat) (ad : Nat → Nat) (σ : ST) (r sr : Nat) (nr : Nat) (hnr : σ.1 6 = nI nr) (hn30 : nr ≤ 30) (hrn : r < nr) (hsn : sr < nr) (hsr : r ≤ sr) (hlf : l.stackTraces = false) : vx_Met l yX0_addSource wsX0_addSource ({ frames := 6, cells := 1, slots := 6, locals := 140 } : Room) (va_Pc ([.ref h0, .int (nI r), .int (nI sr)] : List Value) (t_B D tI tZ tL h0 ad σ)) t_N (e_X "java/lang/IllegalArgumentException") 1 6 q_no := by
  refine t_met (cc := cX0_addSource) (maxL := 3) (ret := (some .int)) (by decide) rfl (Nat.le_of_ble_eq_true rfl) ?_
  intro p e s m below meth c hx hb hml hr hts hown hlocks hnt hB ls hl
  have hown : s.vm.findClass RX0 = some m.cls := hown
  obtain ⟨hP, hK, hE⟩ := hB
  have hl : lv_has ls 3 [(0, .ref h0), (1, .int (nI r)), (2, .int (nI sr))] := hl
  refine lv_aload_n hx hb dX0_addSource_0 rfl (lv_at hl 0 rfl) ?_
  refine lv_iload_n hx hb dX0_addSource_1 rfl (lv_at hl 1 rfl) ?_
  refine k_X0_checkRecord D tI tZ tL h0 ad σ r nr hnr hn30 hrn ⟨hx, hb, hml, hown, hts⟩ gX0_addSource_X0_checkRecord ⟨Nat.le_of_ble_eq_true rfl, Nat.le_of_ble_eq_true rfl⟩ hl.1 ⟨Nat.zero_le _, Nat.zero_le _⟩ (Nat.le_of_ble_eq_true rfl) hK hP dX0_addSource_2 ?_
  refine lv_aload_n hx hb dX0_addSource_5 rfl (lv_at hl 0 rfl) ?_
  refine lv_iload_n hx hb dX0_addSource_6 rfl (lv_at hl 2 rfl) ?_
  refine k_X0_checkRecord D tI tZ tL h0 ad σ sr nr hnr hn30 (hsn) ⟨hx, hb, hml, hown, hts⟩ gX0_addSource_X0_checkRecord ⟨Nat.le_of_ble_eq_true rfl, Nat.le_of_ble_eq_true rfl⟩ hl.1 ⟨Nat.zero_le _, Nat.zero_le _⟩ (Nat.le_of_ble_eq_true rfl) hK hP dX0_addSource_7 ?_
  refine lv_iload_n hx hb dX0_addSource_10 rfl (lv_at hl 2 rfl) ?_
  refine lv_iload_n hx hb dX0_addSource_11 rfl (lv_at hl 1 rfl) ?_
  refine lv_icmp_lt (tgt := 25) hx hb dX0_addSource_12 (by decide) (fun c12 => absurd c12 (nI_nlt hsr (by omega))) (fun c12 => ?_)
  exact t_thr (ik := 88) (is := 90) (ic := 92) hx hb hlf hown (by decide +kernel) (by decide +kernel) hts (by decide +kernel) (by decide +kernel) (by decide +kernel) (by decide +kernel) (by decide +kernel) hE (t := "the source is not lower than the record") (by decide +kernel) (by rw [hml]; exact hl.1) dX0_addSource_15 dX0_addSource_18 dX0_addSource_19 dX0_addSource_21 dX0_addSource_24 hnt (Nat.le_of_ble_eq_true rfl) (Nat.le_of_ble_eq_true rfl) (Nat.le_of_ble_eq_true rfl) (Nat.le_of_ble_eq_true rfl) hlocks
theorem k_X0_addSource_tC {p : Program} {l : Launch} {e : Env} {R : Room} {s : State} {m : MethodId} {args : Array Value} {below : List Frame} {meth : Method} {c : Code} {cc : ByteArray} {pc : Nat} {ls : Array Slot} {rest : List Value} {Ts : List Cond} (D : va_G) (tI tZ tL : ClassId) (h0 : Nat) (ad : Nat → Nat) (σ : ST) (r sr : Nat) (nr : Nat) (hnr : σ.1 6 = nI nr) (hn30 : nr ≤ 30) (hrn : r < nr) (hsn : sr < nr) (hsr : r ≤ sr) {Qc : Array Value → State → Outcome → State → Prop} {own : String} {idx nL : Nat} (S : CallFix p m c cc nL s args Ts own) (hG : GoodIn Ts (wsV own idx RX0 yX0_addSource wsX0_addSource)) (hR : ({ frames := 6, cells := 1, slots := 6, locals := 140 } : Room).frames + 1 ≤ R.frames ∧ 8 + (3 + 11) + ({ frames := 6, cells := 1, slots := 6, locals := 140 } : Room).locals ≤ R.locals) (hsz : ls.size = nL) (hrm : (rest.map fun v => v.category).sum ≤ 8) (hlf : l.stackTraces = false) (hcap : 1 ≤ R.cells ∧ 6 ≤ R.slots) (hE : e_E s s.heap) (hK : va_K D vwCl (kTY tI tZ tL) s) (hP : va_P D vwCl (x_W tI tZ h0 ad σ) s.heap) (hlocks : meth.locks = false) (hnt : ∀ x ∈ c.exceptionTable.toList, False) (hdg : decode cc pc = .ok (.invokevirtual idx, 3)) : W p l e R s m args below meth c s.heap [] 0 0 (vx_MQ below Qc (e_X "java/lang/IllegalArgumentException") args s 1 6 q_no) (F0 m pc ls (.int (nI sr) :: .int (nI r) :: .ref h0 :: rest)) :=
  t_pass (vx_runV (As := [.int (nI r), .int (nI sr)]) (rest := rest) S (c_X0_addSource_tC l D tI tZ tL h0 ad σ r sr nr hnr hn30 hrn hsn hsr hlf) (cwV 2 S.2.2.2.2 hG rfl rfl rfl (by decide +kernel) hR) (t_pre hK hP hE) rfl rfl hsz rfl (lv_room hrm) hdg ⟨by omega, by omega⟩) hnt hlocks

set_option maxHeartbeats 4000000 in
set_option maxRecDepth 100000 in
theorem c_X0_addSource_tD (l : Launch) (D : va_G) (tI tZ tL : ClassId) (h0 : Nat) (ad : Nat → Nat) (σ : ST) (r sr : Nat) (nr : Nat) (hnr : σ.1 6 = nI nr) (hn30 : nr ≤ 30) (hrn : r < nr) (hsn : sr < nr) (hsr : sr < r) (hso : bt (σ.2 10 r) sr = true) (hlf : l.stackTraces = false) : vx_Met l yX0_addSource wsX0_addSource ({ frames := 6, cells := 1, slots := 6, locals := 140 } : Room) (va_Pc ([.ref h0, .int (nI r), .int (nI sr)] : List Value) (t_B D tI tZ tL h0 ad σ)) t_N (e_X "java/lang/IllegalArgumentException") 1 6 q_no := by
  refine t_met (cc := cX0_addSource) (maxL := 3) (ret := (some .int)) (by decide) rfl (Nat.le_of_ble_eq_true rfl) ?_
  intro p e s m below meth c hx hb hml hr hts hown hlocks hnt hB ls hl
  have hown : s.vm.findClass RX0 = some m.cls := hown
  obtain ⟨hP, hK, hE⟩ := hB
  have hl : lv_has ls 3 [(0, .ref h0), (1, .int (nI r)), (2, .int (nI sr))] := hl
  have hin : ∀ w ∈ wsX00, w ∈ wsX0_addSource := in_X0_addSource
  have hl_sourcesOfRecord : xl_sourcesOfRecord ∈ wsX0_addSource := by decide +kernel
  refine lv_aload_n hx hb dX0_addSource_0 rfl (lv_at hl 0 rfl) ?_
  refine lv_iload_n hx hb dX0_addSource_1 rfl (lv_at hl 1 rfl) ?_
  refine k_X0_checkRecord D tI tZ tL h0 ad σ r nr hnr hn30 hrn ⟨hx, hb, hml, hown, hts⟩ gX0_addSource_X0_checkRecord ⟨Nat.le_of_ble_eq_true rfl, Nat.le_of_ble_eq_true rfl⟩ hl.1 ⟨Nat.zero_le _, Nat.zero_le _⟩ (Nat.le_of_ble_eq_true rfl) hK hP dX0_addSource_2 ?_
  refine lv_aload_n hx hb dX0_addSource_5 rfl (lv_at hl 0 rfl) ?_
  refine lv_iload_n hx hb dX0_addSource_6 rfl (lv_at hl 2 rfl) ?_
  refine k_X0_checkRecord D tI tZ tL h0 ad σ sr nr hnr hn30 (hsn) ⟨hx, hb, hml, hown, hts⟩ gX0_addSource_X0_checkRecord ⟨Nat.le_of_ble_eq_true rfl, Nat.le_of_ble_eq_true rfl⟩ hl.1 ⟨Nat.zero_le _, Nat.zero_le _⟩ (Nat.le_of_ble_eq_true rfl) hK hP dX0_addSource_7 ?_
  refine lv_iload_n hx hb dX0_addSource_10 rfl (lv_at hl 2 rfl) ?_
  refine lv_iload_n hx hb dX0_addSource_11 rfl (lv_at hl 1 rfl) ?_
  refine lv_icmp_lt (tgt := 25) hx hb dX0_addSource_12 (by decide) (fun c12 => ?_) (fun c12 => absurd (show nI sr < nI r from nI_lt hsr (by omega)) c12)
  refine lv_aload_n hx hb dX0_addSource_25 rfl (lv_at hl 0 rfl) ?_
  refine xg_sourcesOfRecord hx hb hts hin hown hK hP hl_sourcesOfRecord dX0_addSource_26 ?_
  refine lv_iload_n hx hb dX0_addSource_29 rfl (lv_at hl 1 rfl) ?_
  refine xr_sourcesOfRecord (j := r) hx hb hK hP (by omega) dX0_addSource_30 ?_
  refine lv_iload_n hx hb dX0_addSource_31 rfl (lv_at hl 2 rfl) ?_
  refine k_X0_has (σ.2 10 r) sr (by omega) ⟨hx, hb, hml, hown, hts⟩ gX0_addSource_X0_has ⟨Nat.le_of_ble_eq_true rfl, Nat.le_of_ble_eq_true rfl⟩ hl.1 ⟨Nat.zero_le _, Nat.zero_le _⟩ (Nat.le_of_ble_eq_true rfl) dX0_addSource_32 ?_
  refine lv_ifeq_b (tgt := 48) hx hb dX0_addSource_35 (by decide) (fun c35 => absurd c35 (by rw [hso]; decide)) (fun c35 => ?_)
  exact t_thr (ik := 88) (is := 93) (ic := 92) hx hb hlf hown (by decide +kernel) (by decide +kernel) hts (by decide +kernel) (by decide +kernel) (by decide +kernel) (by decide +kernel) (by decide +kernel) hE (t := "the source is one of its sources already") (by decide +kernel) (by rw [hml]; exact hl.1) dX0_addSource_38 dX0_addSource_41 dX0_addSource_42 dX0_addSource_44 dX0_addSource_47 hnt (Nat.le_of_ble_eq_true rfl) (Nat.le_of_ble_eq_true rfl) (Nat.le_of_ble_eq_true rfl) (Nat.le_of_ble_eq_true rfl) hlocks
theorem k_X0_addSource_tD {p : Program} {l : Launch} {e : Env} {R : Room} {s : State} {m : MethodId} {args : Array Value} {below : List Frame} {meth : Method} {c : Code} {cc : ByteArray} {pc : Nat} {ls : Array Slot} {rest : List Value} {Ts : List Cond} (D : va_G) (tI tZ tL : ClassId) (h0 : Nat) (ad : Nat → Nat) (σ : ST) (r sr : Nat) (nr : Nat) (hnr : σ.1 6 = nI nr) (hn30 : nr ≤ 30) (hrn : r < nr) (hsn : sr < nr) (hsr : sr < r) (hso : bt (σ.2 10 r) sr = true) {Qc : Array Value → State → Outcome → State → Prop} {own : String} {idx nL : Nat} (S : CallFix p m c cc nL s args Ts own) (hG : GoodIn Ts (wsV own idx RX0 yX0_addSource wsX0_addSource)) (hR : ({ frames := 6, cells := 1, slots := 6, locals := 140 } : Room).frames + 1 ≤ R.frames ∧ 8 + (3 + 11) + ({ frames := 6, cells := 1, slots := 6, locals := 140 } : Room).locals ≤ R.locals) (hsz : ls.size = nL) (hrm : (rest.map fun v => v.category).sum ≤ 8) (hlf : l.stackTraces = false) (hcap : 1 ≤ R.cells ∧ 6 ≤ R.slots) (hE : e_E s s.heap) (hK : va_K D vwCl (kTY tI tZ tL) s) (hP : va_P D vwCl (x_W tI tZ h0 ad σ) s.heap) (hlocks : meth.locks = false) (hnt : ∀ x ∈ c.exceptionTable.toList, False) (hdg : decode cc pc = .ok (.invokevirtual idx, 3)) : W p l e R s m args below meth c s.heap [] 0 0 (vx_MQ below Qc (e_X "java/lang/IllegalArgumentException") args s 1 6 q_no) (F0 m pc ls (.int (nI sr) :: .int (nI r) :: .ref h0 :: rest)) :=
  t_pass (vx_runV (As := [.int (nI r), .int (nI sr)]) (rest := rest) S (c_X0_addSource_tD l D tI tZ tL h0 ad σ r sr nr hnr hn30 hrn hsn hsr hso hlf) (cwV 2 S.2.2.2.2 hG rfl rfl rfl (by decide +kernel) hR) (t_pre hK hP hE) rfl rfl hsz rfl (lv_room hrm) hdg ⟨by omega, by omega⟩) hnt hlocks

set_option maxHeartbeats 4000000 in
set_option maxRecDepth 100000 in
theorem c_X0_addSource_tE (l : Launch) (D : va_G) (tI tZ tL : ClassId) (h0 : Nat) (ad : Nat → Nat) (σ : ST) (r sr : Nat) (nr : Nat) (hnr : σ.1 6 = nI nr) (hn30 : nr ≤ 30) (hrn : r < nr) (hsn : sr < nr) (hsr : sr < r) (hso : bt (σ.2 10 r) sr = false) (hrt : σ.2 10 r = 0) (hlf : l.stackTraces = false) : vx_Met l yX0_addSource wsX0_addSource ({ frames := 6, cells := 1, slots := 6, locals := 140 } : Room) (va_Pc ([.ref h0, .int (nI r), .int (nI sr)] : List Value) (t_B D tI tZ tL h0 ad σ)) t_N (e_X "java/lang/IllegalStateException") 1 6 q_no := by
  refine t_met (cc := cX0_addSource) (maxL := 3) (ret := (some .int)) (by decide) rfl (Nat.le_of_ble_eq_true rfl) ?_
  intro p e s m below meth c hx hb hml hr hts hown hlocks hnt hB ls hl
  have hown : s.vm.findClass RX0 = some m.cls := hown
  obtain ⟨hP, hK, hE⟩ := hB
  have hl : lv_has ls 3 [(0, .ref h0), (1, .int (nI r)), (2, .int (nI sr))] := hl
  have hin : ∀ w ∈ wsX00, w ∈ wsX0_addSource := in_X0_addSource
  have hl_sourcesOfRecord : xl_sourcesOfRecord ∈ wsX0_addSource := by decide +kernel
  refine lv_aload_n hx hb dX0_addSource_0 rfl (lv_at hl 0 rfl) ?_
  refine lv_iload_n hx hb dX0_addSource_1 rfl (lv_at hl 1 rfl) ?_
  refine k_X0_checkRecord D tI tZ tL h0 ad σ r nr hnr hn30 hrn ⟨hx, hb, hml, hown, hts⟩ gX0_addSource_X0_checkRecord ⟨Nat.le_of_ble_eq_true rfl, Nat.le_of_ble_eq_true rfl⟩ hl.1 ⟨Nat.zero_le _, Nat.zero_le _⟩ (Nat.le_of_ble_eq_true rfl) hK hP dX0_addSource_2 ?_
  refine lv_aload_n hx hb dX0_addSource_5 rfl (lv_at hl 0 rfl) ?_
  refine lv_iload_n hx hb dX0_addSource_6 rfl (lv_at hl 2 rfl) ?_
  refine k_X0_checkRecord D tI tZ tL h0 ad σ sr nr hnr hn30 (hsn) ⟨hx, hb, hml, hown, hts⟩ gX0_addSource_X0_checkRecord ⟨Nat.le_of_ble_eq_true rfl, Nat.le_of_ble_eq_true rfl⟩ hl.1 ⟨Nat.zero_le _, Nat.zero_le _⟩ (Nat.le_of_ble_eq_true rfl) hK hP dX0_addSource_7 ?_
  refine lv_iload_n hx hb dX0_addSource_10 rfl (lv_at hl 2 rfl) ?_
  refine lv_iload_n hx hb dX0_addSource_11 rfl (lv_at hl 1 rfl) ?_
  refine lv_icmp_lt (tgt := 25) hx hb dX0_addSource_12 (by decide) (fun c12 => ?_) (fun c12 => absurd (show nI sr < nI r from nI_lt hsr (by omega)) c12)
  refine lv_aload_n hx hb dX0_addSource_25 rfl (lv_at hl 0 rfl) ?_
  refine xg_sourcesOfRecord hx hb hts hin hown hK hP hl_sourcesOfRecord dX0_addSource_26 ?_
  refine lv_iload_n hx hb dX0_addSource_29 rfl (lv_at hl 1 rfl) ?_
  refine xr_sourcesOfRecord (j := r) hx hb hK hP (by omega) dX0_addSource_30 ?_
  refine lv_iload_n hx hb dX0_addSource_31 rfl (lv_at hl 2 rfl) ?_
  refine k_X0_has (σ.2 10 r) sr (by omega) ⟨hx, hb, hml, hown, hts⟩ gX0_addSource_X0_has ⟨Nat.le_of_ble_eq_true rfl, Nat.le_of_ble_eq_true rfl⟩ hl.1 ⟨Nat.zero_le _, Nat.zero_le _⟩ (Nat.le_of_ble_eq_true rfl) dX0_addSource_32 ?_
  refine lv_ifeq_b (tgt := 48) hx hb dX0_addSource_35 (by decide) (fun c35 => ?_) (fun c35 => absurd c35 (by rw [hso]; decide))
  refine lv_aload_n hx hb dX0_addSource_48 rfl (lv_at hl 0 rfl) ?_
  refine lv_iload_n hx hb dX0_addSource_49 rfl (lv_at hl 1 rfl) ?_
  refine k_X0_isRoot D tI tZ tL h0 ad σ r (by omega) ⟨hx, hb, hml, hown, hts⟩ gX0_addSource_X0_isRoot ⟨Nat.le_of_ble_eq_true rfl, Nat.le_of_ble_eq_true rfl⟩ hl.1 ⟨Nat.zero_le _, Nat.zero_le _⟩ (Nat.le_of_ble_eq_true rfl) hK hP dX0_addSource_50 ?_
  refine lv_ifeq_b (tgt := 66) hx hb dX0_addSource_53 (by decide) (fun c53 => absurd hrt (of_decide_eq_false c53)) (fun c53 => ?_)
  exact t_thr (ik := 45) (is := 99) (ic := 49) hx hb hlf hown (by decide +kernel) (by decide +kernel) hts (by decide +kernel) (by decide +kernel) (by decide +kernel) (by decide +kernel) (by decide +kernel) hE (t := "the record is a root record") (by decide +kernel) (by rw [hml]; exact hl.1) dX0_addSource_56 dX0_addSource_59 dX0_addSource_60 dX0_addSource_62 dX0_addSource_65 hnt (Nat.le_of_ble_eq_true rfl) (Nat.le_of_ble_eq_true rfl) (Nat.le_of_ble_eq_true rfl) (Nat.le_of_ble_eq_true rfl) hlocks
theorem k_X0_addSource_tE {p : Program} {l : Launch} {e : Env} {R : Room} {s : State} {m : MethodId} {args : Array Value} {below : List Frame} {meth : Method} {c : Code} {cc : ByteArray} {pc : Nat} {ls : Array Slot} {rest : List Value} {Ts : List Cond} (D : va_G) (tI tZ tL : ClassId) (h0 : Nat) (ad : Nat → Nat) (σ : ST) (r sr : Nat) (nr : Nat) (hnr : σ.1 6 = nI nr) (hn30 : nr ≤ 30) (hrn : r < nr) (hsn : sr < nr) (hsr : sr < r) (hso : bt (σ.2 10 r) sr = false) (hrt : σ.2 10 r = 0) {Qc : Array Value → State → Outcome → State → Prop} {own : String} {idx nL : Nat} (S : CallFix p m c cc nL s args Ts own) (hG : GoodIn Ts (wsV own idx RX0 yX0_addSource wsX0_addSource)) (hR : ({ frames := 6, cells := 1, slots := 6, locals := 140 } : Room).frames + 1 ≤ R.frames ∧ 8 + (3 + 11) + ({ frames := 6, cells := 1, slots := 6, locals := 140 } : Room).locals ≤ R.locals) (hsz : ls.size = nL) (hrm : (rest.map fun v => v.category).sum ≤ 8) (hlf : l.stackTraces = false) (hcap : 1 ≤ R.cells ∧ 6 ≤ R.slots) (hE : e_E s s.heap) (hK : va_K D vwCl (kTY tI tZ tL) s) (hP : va_P D vwCl (x_W tI tZ h0 ad σ) s.heap) (hlocks : meth.locks = false) (hnt : ∀ x ∈ c.exceptionTable.toList, False) (hdg : decode cc pc = .ok (.invokevirtual idx, 3)) : W p l e R s m args below meth c s.heap [] 0 0 (vx_MQ below Qc (e_X "java/lang/IllegalStateException") args s 1 6 q_no) (F0 m pc ls (.int (nI sr) :: .int (nI r) :: .ref h0 :: rest)) :=
  t_pass (vx_runV (As := [.int (nI r), .int (nI sr)]) (rest := rest) S (c_X0_addSource_tE l D tI tZ tL h0 ad σ r sr nr hnr hn30 hrn hsn hsr hso hrt hlf) (cwV 2 S.2.2.2.2 hG rfl rfl rfl (by decide +kernel) hR) (t_pre hK hP hE) rfl rfl hsz rfl (lv_room hrm) hdg ⟨by omega, by omega⟩) hnt hlocks

set_option maxHeartbeats 4000000 in
set_option maxRecDepth 100000 in
theorem c_X0_addSource_tF (l : Launch) (D : va_G) (tI tZ tL : ClassId) (h0 : Nat) (ad : Nat → Nat) (σ : ST) (r sr : Nat) (nr : Nat) (hnr : σ.1 6 = nI nr) (hn30 : nr ≤ 30) (hrn : r < nr) (hsn : sr < nr) (hsr : sr < r) (hso : bt (σ.2 10 r) sr = false) (hrt : ¬ σ.2 10 r = 0) (hpr : bt (σ.1 12) r = false ∨ bt (σ.1 12) sr = false) (hlf : l.stackTraces = false) : vx_Met l yX0_addSource wsX0_addSource ({ frames := 6, cells := 1, slots := 6, locals := 140 } : Room) (va_Pc ([.ref h0, .int (nI r), .int (nI sr)] : List Value) (t_B D tI tZ tL h0 ad σ)) t_N (e_X "java/lang/IllegalStateException") 1 6 q_no := by
  refine t_met (cc := cX0_addSource) (maxL := 3) (ret := (some .int)) (by decide) rfl (Nat.le_of_ble_eq_true rfl) ?_
  intro p e s m below meth c hx hb hml hr hts hown hlocks hnt hB ls hl
  have hown : s.vm.findClass RX0 = some m.cls := hown
  obtain ⟨hP, hK, hE⟩ := hB
  have hl : lv_has ls 3 [(0, .ref h0), (1, .int (nI r)), (2, .int (nI sr))] := hl
  have hin : ∀ w ∈ wsX00, w ∈ wsX0_addSource := in_X0_addSource
  have hl_presentRecords : xl_presentRecords ∈ wsX0_addSource := by decide +kernel
  have hl_sourcesOfRecord : xl_sourcesOfRecord ∈ wsX0_addSource := by decide +kernel
  refine lv_aload_n hx hb dX0_addSource_0 rfl (lv_at hl 0 rfl) ?_
  refine lv_iload_n hx hb dX0_addSource_1 rfl (lv_at hl 1 rfl) ?_
  refine k_X0_checkRecord D tI tZ tL h0 ad σ r nr hnr hn30 hrn ⟨hx, hb, hml, hown, hts⟩ gX0_addSource_X0_checkRecord ⟨Nat.le_of_ble_eq_true rfl, Nat.le_of_ble_eq_true rfl⟩ hl.1 ⟨Nat.zero_le _, Nat.zero_le _⟩ (Nat.le_of_ble_eq_true rfl) hK hP dX0_addSource_2 ?_
  refine lv_aload_n hx hb dX0_addSource_5 rfl (lv_at hl 0 rfl) ?_
  refine lv_iload_n hx hb dX0_addSource_6 rfl (lv_at hl 2 rfl) ?_
  refine k_X0_checkRecord D tI tZ tL h0 ad σ sr nr hnr hn30 (hsn) ⟨hx, hb, hml, hown, hts⟩ gX0_addSource_X0_checkRecord ⟨Nat.le_of_ble_eq_true rfl, Nat.le_of_ble_eq_true rfl⟩ hl.1 ⟨Nat.zero_le _, Nat.zero_le _⟩ (Nat.le_of_ble_eq_true rfl) hK hP dX0_addSource_7 ?_
  refine lv_iload_n hx hb dX0_addSource_10 rfl (lv_at hl 2 rfl) ?_
  refine lv_iload_n hx hb dX0_addSource_11 rfl (lv_at hl 1 rfl) ?_
  refine lv_icmp_lt (tgt := 25) hx hb dX0_addSource_12 (by decide) (fun c12 => ?_) (fun c12 => absurd (show nI sr < nI r from nI_lt hsr (by omega)) c12)
  refine lv_aload_n hx hb dX0_addSource_25 rfl (lv_at hl 0 rfl) ?_
  refine xg_sourcesOfRecord hx hb hts hin hown hK hP hl_sourcesOfRecord dX0_addSource_26 ?_
  refine lv_iload_n hx hb dX0_addSource_29 rfl (lv_at hl 1 rfl) ?_
  refine xr_sourcesOfRecord (j := r) hx hb hK hP (by omega) dX0_addSource_30 ?_
  refine lv_iload_n hx hb dX0_addSource_31 rfl (lv_at hl 2 rfl) ?_
  refine k_X0_has (σ.2 10 r) sr (by omega) ⟨hx, hb, hml, hown, hts⟩ gX0_addSource_X0_has ⟨Nat.le_of_ble_eq_true rfl, Nat.le_of_ble_eq_true rfl⟩ hl.1 ⟨Nat.zero_le _, Nat.zero_le _⟩ (Nat.le_of_ble_eq_true rfl) dX0_addSource_32 ?_
  refine lv_ifeq_b (tgt := 48) hx hb dX0_addSource_35 (by decide) (fun c35 => ?_) (fun c35 => absurd c35 (by rw [hso]; decide))
  refine lv_aload_n hx hb dX0_addSource_48 rfl (lv_at hl 0 rfl) ?_
  refine lv_iload_n hx hb dX0_addSource_49 rfl (lv_at hl 1 rfl) ?_
  refine k_X0_isRoot D tI tZ tL h0 ad σ r (by omega) ⟨hx, hb, hml, hown, hts⟩ gX0_addSource_X0_isRoot ⟨Nat.le_of_ble_eq_true rfl, Nat.le_of_ble_eq_true rfl⟩ hl.1 ⟨Nat.zero_le _, Nat.zero_le _⟩ (Nat.le_of_ble_eq_true rfl) hK hP dX0_addSource_50 ?_
  refine lv_ifeq_b (tgt := 66) hx hb dX0_addSource_53 (by decide) (fun c53 => ?_) (fun c53 => absurd (of_decide_eq_true c53) hrt)
  refine lv_aload_n hx hb dX0_addSource_66 rfl (lv_at hl 0 rfl) ?_
  refine xg_presentRecords hx hb hts hin hown hK hP hl_presentRecords dX0_addSource_67 ?_
  refine lv_iload_n hx hb dX0_addSource_70 rfl (lv_at hl 1 rfl) ?_
  refine k_X0_has (σ.1 12) r (by omega) ⟨hx, hb, hml, hown, hts⟩ gX0_addSource_X0_has ⟨Nat.le_of_ble_eq_true rfl, Nat.le_of_ble_eq_true rfl⟩ hl.1 ⟨Nat.zero_le _, Nat.zero_le _⟩ (Nat.le_of_ble_eq_true rfl) dX0_addSource_71 ?_
  refine lv_ifeq_b (tgt := 88) hx hb dX0_addSource_74 (by decide) (fun c74 => ?_) (fun c74 => ?_)
  · exact t_thr (ik := 45) (is := 101) (ic := 49) hx hb hlf hown (by decide +kernel) (by decide +kernel) hts (by decide +kernel) (by decide +kernel) (by decide +kernel) (by decide +kernel) (by decide +kernel) hE (t := "the record or the source is not present") (by decide +kernel) (by rw [hml]; exact hl.1) dX0_addSource_88 dX0_addSource_91 dX0_addSource_92 dX0_addSource_94 dX0_addSource_97 hnt (Nat.le_of_ble_eq_true rfl) (Nat.le_of_ble_eq_true rfl) (Nat.le_of_ble_eq_true rfl) (Nat.le_of_ble_eq_true rfl) hlocks
  · refine lv_aload_n hx hb dX0_addSource_77 rfl (lv_at hl 0 rfl) ?_
    refine xg_presentRecords hx hb hts hin hown hK hP hl_presentRecords dX0_addSource_78 ?_
    refine lv_iload_n hx hb dX0_addSource_81 rfl (lv_at hl 2 rfl) ?_
    refine k_X0_has (σ.1 12) sr (by omega) ⟨hx, hb, hml, hown, hts⟩ gX0_addSource_X0_has ⟨Nat.le_of_ble_eq_true rfl, Nat.le_of_ble_eq_true rfl⟩ hl.1 ⟨Nat.zero_le _, Nat.zero_le _⟩ (Nat.le_of_ble_eq_true rfl) dX0_addSource_82 ?_
    refine lv_ifne_b (tgt := 98) hx hb dX0_addSource_85 (by decide) (fun c85 => absurd c85 (hpr.elim (fun h => absurd c74 (by rw [h]; decide)) (fun h => by rw [h]; decide))) (fun c85 => ?_)
    exact t_thr (ik := 45) (is := 101) (ic := 49) hx hb hlf hown (by decide +kernel) (by decide +kernel) hts (by decide +kernel) (by decide +kernel) (by decide +kernel) (by decide +kernel) (by decide +kernel) hE (t := "the record or the source is not present") (by decide +kernel) (by rw [hml]; exact hl.1) dX0_addSource_88 dX0_addSource_91 dX0_addSource_92 dX0_addSource_94 dX0_addSource_97 hnt (Nat.le_of_ble_eq_true rfl) (Nat.le_of_ble_eq_true rfl) (Nat.le_of_ble_eq_true rfl) (Nat.le_of_ble_eq_true rfl) hlocks
theorem k_X0_addSource_tF {p : Program} {l : Launch} {e : Env} {R : Room} {s : State} {m : MethodId} {args : Array Value} {below : List Frame} {meth : Method} {c : Code} {cc : ByteArray} {pc : Nat} {ls : Array Slot} {rest : List Value} {Ts : List Cond} (D : va_G) (tI tZ tL : ClassId) (h0 : Nat) (ad : Nat → Nat) (σ : ST) (r sr : Nat) (nr : Nat) (hnr : σ.1 6 = nI nr) (hn30 : nr ≤ 30) (hrn : r < nr) (hsn : sr < nr) (hsr : sr < r) (hso : bt (σ.2 10 r) sr = false) (hrt : ¬ σ.2 10 r = 0) (hpr : bt (σ.1 12) r = false ∨ bt (σ.1 12) sr = false) {Qc : Array Value → State → Outcome → State → Prop} {own : String} {idx nL : Nat} (S : CallFix p m c cc nL s args Ts own) (hG : GoodIn Ts (wsV own idx RX0 yX0_addSource wsX0_addSource)) (hR : ({ frames := 6, cells := 1, slots := 6, locals := 140 } : Room).frames + 1 ≤ R.frames ∧ 8 + (3 + 11) + ({ frames := 6, cells := 1, slots := 6, locals := 140 } : Room).locals ≤ R.locals) (hsz : ls.size = nL) (hrm : (rest.map fun v => v.category).sum ≤ 8) (hlf : l.stackTraces = false) (hcap : 1 ≤ R.cells ∧ 6 ≤ R.slots) (hE : e_E s s.heap) (hK : va_K D vwCl (kTY tI tZ tL) s) (hP : va_P D vwCl (x_W tI tZ h0 ad σ) s.heap) (hlocks : meth.locks = false) (hnt : ∀ x ∈ c.exceptionTable.toList, False) (hdg : decode cc pc = .ok (.invokevirtual idx, 3)) : W p l e R s m args below meth c s.heap [] 0 0 (vx_MQ below Qc (e_X "java/lang/IllegalStateException") args s 1 6 q_no) (F0 m pc ls (.int (nI sr) :: .int (nI r) :: .ref h0 :: rest)) :=
  t_pass (vx_runV (As := [.int (nI r), .int (nI sr)]) (rest := rest) S (c_X0_addSource_tF l D tI tZ tL h0 ad σ r sr nr hnr hn30 hrn hsn hsr hso hrt hpr hlf) (cwV 2 S.2.2.2.2 hG rfl rfl rfl (by decide +kernel) hR) (t_pre hK hP hE) rfl rfl hsz rfl (lv_room hrm) hdg ⟨by omega, by omega⟩) hnt hlocks

set_option maxHeartbeats 4000000 in
set_option maxRecDepth 100000 in
theorem c_X0_hold_tA (l : Launch) (D : va_G) (tI tZ tL : ClassId) (h0 : Nat) (ad : Nat → Nat) (σ : ST) (v : Int32) (hv : v < 0 ∨ 6 ≤ v) (w : Int32) (hlf : l.stackTraces = false) : vx_Met l yX0_hold wsX0_hold ({ frames := 7, cells := 1, slots := 6, locals := 161 } : Room) (va_Pc ([.ref h0, .int v, .int w] : List Value) (t_B D tI tZ tL h0 ad σ)) t_N (e_X "java/lang/IndexOutOfBoundsException") 1 6 q_no := by
  refine t_met (cc := cX0_hold) (maxL := 3) (ret := (some .int)) (by decide) rfl (Nat.le_of_ble_eq_true rfl) ?_
  intro p e s m below meth c hx hb hml hr hts hown hlocks hnt hB ls hl
  have hown : s.vm.findClass RX0 = some m.cls := hown
  obtain ⟨hP, hK, hE⟩ := hB
  have hl : lv_has ls 3 [(0, .ref h0), (1, .int v), (2, .int w)] := hl
  refine lv_aload_n hx hb dX0_hold_0 rfl (lv_at hl 0 rfl) ?_
  refine lv_iload_n hx hb dX0_hold_1 rfl (lv_at hl 1 rfl) ?_
  exact k_X0_checkCase_t D tI tZ tL h0 ad σ v hv ⟨hx, hb, hml, hown, hts⟩ gX0_hold_X0_checkCase ⟨Nat.le_of_ble_eq_true rfl, Nat.le_of_ble_eq_true rfl⟩ hl.1 (Nat.le_of_ble_eq_true rfl) hlf ⟨Nat.le_of_ble_eq_true rfl, Nat.le_of_ble_eq_true rfl⟩ hE hK hP hlocks hnt dX0_hold_2
theorem k_X0_hold_tA {p : Program} {l : Launch} {e : Env} {R : Room} {s : State} {m : MethodId} {args : Array Value} {below : List Frame} {meth : Method} {c : Code} {cc : ByteArray} {pc : Nat} {ls : Array Slot} {rest : List Value} {Ts : List Cond} (D : va_G) (tI tZ tL : ClassId) (h0 : Nat) (ad : Nat → Nat) (σ : ST) (v : Int32) (hv : v < 0 ∨ 6 ≤ v) (w : Int32) {Qc : Array Value → State → Outcome → State → Prop} {own : String} {idx nL : Nat} (S : CallFix p m c cc nL s args Ts own) (hG : GoodIn Ts (wsV own idx RX0 yX0_hold wsX0_hold)) (hR : ({ frames := 7, cells := 1, slots := 6, locals := 161 } : Room).frames + 1 ≤ R.frames ∧ 8 + (3 + 11) + ({ frames := 7, cells := 1, slots := 6, locals := 161 } : Room).locals ≤ R.locals) (hsz : ls.size = nL) (hrm : (rest.map fun v => v.category).sum ≤ 8) (hlf : l.stackTraces = false) (hcap : 1 ≤ R.cells ∧ 6 ≤ R.slots) (hE : e_E s s.heap) (hK : va_K D vwCl (kTY tI tZ tL) s) (hP : va_P D vwCl (x_W tI tZ h0 ad σ) s.heap) (hlocks : meth.locks = false) (hnt : ∀ x ∈ c.exceptionTable.toList, False) (hdg : decode cc pc = .ok (.invokevirtual idx, 3)) : W p l e R s m args below meth c s.heap [] 0 0 (vx_MQ below Qc (e_X "java/lang/IndexOutOfBoundsException") args s 1 6 q_no) (F0 m pc ls (.int w :: .int v :: .ref h0 :: rest)) :=
  t_pass (vx_runV (As := [.int v, .int w]) (rest := rest) S (c_X0_hold_tA l D tI tZ tL h0 ad σ v hv w hlf) (cwV 2 S.2.2.2.2 hG rfl rfl rfl (by decide +kernel) hR) (t_pre hK hP hE) rfl rfl hsz rfl (lv_room hrm) hdg ⟨by omega, by omega⟩) hnt hlocks

set_option maxHeartbeats 4000000 in
set_option maxRecDepth 100000 in
theorem c_X0_hold_tB (l : Launch) (D : va_G) (tI tZ tL : ClassId) (h0 : Nat) (ad : Nat → Nat) (σ : ST) (i : Nat) (hi6 : i < 6) (v : Int32) (hv : v < 0 ∨ σ.1 6 ≤ v) (hlf : l.stackTraces = false) : vx_Met l yX0_hold wsX0_hold ({ frames := 7, cells := 1, slots := 6, locals := 161 } : Room) (va_Pc ([.ref h0, .int (nI i), .int v] : List Value) (t_B D tI tZ tL h0 ad σ)) t_N (e_X "java/lang/IndexOutOfBoundsException") 1 6 q_no := by
  refine t_met (cc := cX0_hold) (maxL := 3) (ret := (some .int)) (by decide) rfl (Nat.le_of_ble_eq_true rfl) ?_
  intro p e s m below meth c hx hb hml hr hts hown hlocks hnt hB ls hl
  have hown : s.vm.findClass RX0 = some m.cls := hown
  obtain ⟨hP, hK, hE⟩ := hB
  have hl : lv_has ls 3 [(0, .ref h0), (1, .int (nI i)), (2, .int v)] := hl
  refine lv_aload_n hx hb dX0_hold_0 rfl (lv_at hl 0 rfl) ?_
  refine lv_iload_n hx hb dX0_hold_1 rfl (lv_at hl 1 rfl) ?_
  refine k_X0_checkCase D tI tZ tL h0 ad σ i hi6 ⟨hx, hb, hml, hown, hts⟩ gX0_hold_X0_checkCase ⟨Nat.le_of_ble_eq_true rfl, Nat.le_of_ble_eq_true rfl⟩ hl.1 ⟨Nat.zero_le _, Nat.zero_le _⟩ (Nat.le_of_ble_eq_true rfl) hK hP dX0_hold_2 ?_
  refine lv_aload_n hx hb dX0_hold_5 rfl (lv_at hl 0 rfl) ?_
  refine lv_iload_n hx hb dX0_hold_6 rfl (lv_at hl 2 rfl) ?_
  exact k_X0_checkRecord_t D tI tZ tL h0 ad σ v hv ⟨hx, hb, hml, hown, hts⟩ gX0_hold_X0_checkRecord ⟨Nat.le_of_ble_eq_true rfl, Nat.le_of_ble_eq_true rfl⟩ hl.1 (Nat.le_of_ble_eq_true rfl) hlf ⟨Nat.le_of_ble_eq_true rfl, Nat.le_of_ble_eq_true rfl⟩ hE hK hP hlocks hnt dX0_hold_7
theorem k_X0_hold_tB {p : Program} {l : Launch} {e : Env} {R : Room} {s : State} {m : MethodId} {args : Array Value} {below : List Frame} {meth : Method} {c : Code} {cc : ByteArray} {pc : Nat} {ls : Array Slot} {rest : List Value} {Ts : List Cond} (D : va_G) (tI tZ tL : ClassId) (h0 : Nat) (ad : Nat → Nat) (σ : ST) (i : Nat) (hi6 : i < 6) (v : Int32) (hv : v < 0 ∨ σ.1 6 ≤ v) {Qc : Array Value → State → Outcome → State → Prop} {own : String} {idx nL : Nat} (S : CallFix p m c cc nL s args Ts own) (hG : GoodIn Ts (wsV own idx RX0 yX0_hold wsX0_hold)) (hR : ({ frames := 7, cells := 1, slots := 6, locals := 161 } : Room).frames + 1 ≤ R.frames ∧ 8 + (3 + 11) + ({ frames := 7, cells := 1, slots := 6, locals := 161 } : Room).locals ≤ R.locals) (hsz : ls.size = nL) (hrm : (rest.map fun v => v.category).sum ≤ 8) (hlf : l.stackTraces = false) (hcap : 1 ≤ R.cells ∧ 6 ≤ R.slots) (hE : e_E s s.heap) (hK : va_K D vwCl (kTY tI tZ tL) s) (hP : va_P D vwCl (x_W tI tZ h0 ad σ) s.heap) (hlocks : meth.locks = false) (hnt : ∀ x ∈ c.exceptionTable.toList, False) (hdg : decode cc pc = .ok (.invokevirtual idx, 3)) : W p l e R s m args below meth c s.heap [] 0 0 (vx_MQ below Qc (e_X "java/lang/IndexOutOfBoundsException") args s 1 6 q_no) (F0 m pc ls (.int v :: .int (nI i) :: .ref h0 :: rest)) :=
  t_pass (vx_runV (As := [.int (nI i), .int v]) (rest := rest) S (c_X0_hold_tB l D tI tZ tL h0 ad σ i hi6 v hv hlf) (cwV 2 S.2.2.2.2 hG rfl rfl rfl (by decide +kernel) hR) (t_pre hK hP hE) rfl rfl hsz rfl (lv_room hrm) hdg ⟨by omega, by omega⟩) hnt hlocks

set_option maxHeartbeats 4000000 in
set_option maxRecDepth 100000 in
theorem c_X0_hold_tC (l : Launch) (D : va_G) (tI tZ tL : ClassId) (h0 : Nat) (ad : Nat → Nat) (σ : ST) (i r : Nat) (nr : Nat) (hnr : σ.1 6 = nI nr) (hn30 : nr ≤ 30) (hrn : r < nr) (hi6 : i < 6) (her : bt (σ.1 14) r = true) (hlf : l.stackTraces = false) : vx_Met l yX0_hold wsX0_hold ({ frames := 6, cells := 1, slots := 6, locals := 140 } : Room) (va_Pc ([.ref h0, .int (nI i), .int (nI r)] : List Value) (t_B D tI tZ tL h0 ad σ)) t_N (e_X "java/lang/IllegalStateException") 1 6 q_no := by
  refine t_met (cc := cX0_hold) (maxL := 3) (ret := (some .int)) (by decide) rfl (Nat.le_of_ble_eq_true rfl) ?_
  intro p e s m below meth c hx hb hml hr hts hown hlocks hnt hB ls hl
  have hown : s.vm.findClass RX0 = some m.cls := hown
  obtain ⟨hP, hK, hE⟩ := hB
  have hl : lv_has ls 3 [(0, .ref h0), (1, .int (nI i)), (2, .int (nI r))] := hl
  have hin : ∀ w ∈ wsX00, w ∈ wsX0_hold := in_X0_hold
  have hl_erasedRecords : xl_erasedRecords ∈ wsX0_hold := by decide +kernel
  refine lv_aload_n hx hb dX0_hold_0 rfl (lv_at hl 0 rfl) ?_
  refine lv_iload_n hx hb dX0_hold_1 rfl (lv_at hl 1 rfl) ?_
  refine k_X0_checkCase D tI tZ tL h0 ad σ i hi6 ⟨hx, hb, hml, hown, hts⟩ gX0_hold_X0_checkCase ⟨Nat.le_of_ble_eq_true rfl, Nat.le_of_ble_eq_true rfl⟩ hl.1 ⟨Nat.zero_le _, Nat.zero_le _⟩ (Nat.le_of_ble_eq_true rfl) hK hP dX0_hold_2 ?_
  refine lv_aload_n hx hb dX0_hold_5 rfl (lv_at hl 0 rfl) ?_
  refine lv_iload_n hx hb dX0_hold_6 rfl (lv_at hl 2 rfl) ?_
  refine k_X0_checkRecord D tI tZ tL h0 ad σ r nr hnr hn30 hrn ⟨hx, hb, hml, hown, hts⟩ gX0_hold_X0_checkRecord ⟨Nat.le_of_ble_eq_true rfl, Nat.le_of_ble_eq_true rfl⟩ hl.1 ⟨Nat.zero_le _, Nat.zero_le _⟩ (Nat.le_of_ble_eq_true rfl) hK hP dX0_hold_7 ?_
  refine lv_aload_n hx hb dX0_hold_10 rfl (lv_at hl 0 rfl) ?_
  refine xg_erasedRecords hx hb hts hin hown hK hP hl_erasedRecords dX0_hold_11 ?_
  refine lv_iload_n hx hb dX0_hold_14 rfl (lv_at hl 2 rfl) ?_
  refine k_X0_has (σ.1 14) r (by omega) ⟨hx, hb, hml, hown, hts⟩ gX0_hold_X0_has ⟨Nat.le_of_ble_eq_true rfl, Nat.le_of_ble_eq_true rfl⟩ hl.1 ⟨Nat.zero_le _, Nat.zero_le _⟩ (Nat.le_of_ble_eq_true rfl) dX0_hold_15 ?_
  refine lv_ifeq_b (tgt := 31) hx hb dX0_hold_18 (by decide) (fun c18 => absurd c18 (by rw [her]; decide)) (fun c18 => ?_)
  exact t_thr (ik := 45) (is := 167) (ic := 49) hx hb hlf hown (by decide +kernel) (by decide +kernel) hts (by decide +kernel) (by decide +kernel) (by decide +kernel) (by decide +kernel) (by decide +kernel) hE (t := "the record is erased") (by decide +kernel) (by rw [hml]; exact hl.1) dX0_hold_21 dX0_hold_24 dX0_hold_25 dX0_hold_27 dX0_hold_30 hnt (Nat.le_of_ble_eq_true rfl) (Nat.le_of_ble_eq_true rfl) (Nat.le_of_ble_eq_true rfl) (Nat.le_of_ble_eq_true rfl) hlocks
theorem k_X0_hold_tC {p : Program} {l : Launch} {e : Env} {R : Room} {s : State} {m : MethodId} {args : Array Value} {below : List Frame} {meth : Method} {c : Code} {cc : ByteArray} {pc : Nat} {ls : Array Slot} {rest : List Value} {Ts : List Cond} (D : va_G) (tI tZ tL : ClassId) (h0 : Nat) (ad : Nat → Nat) (σ : ST) (i r : Nat) (nr : Nat) (hnr : σ.1 6 = nI nr) (hn30 : nr ≤ 30) (hrn : r < nr) (hi6 : i < 6) (her : bt (σ.1 14) r = true) {Qc : Array Value → State → Outcome → State → Prop} {own : String} {idx nL : Nat} (S : CallFix p m c cc nL s args Ts own) (hG : GoodIn Ts (wsV own idx RX0 yX0_hold wsX0_hold)) (hR : ({ frames := 6, cells := 1, slots := 6, locals := 140 } : Room).frames + 1 ≤ R.frames ∧ 8 + (3 + 11) + ({ frames := 6, cells := 1, slots := 6, locals := 140 } : Room).locals ≤ R.locals) (hsz : ls.size = nL) (hrm : (rest.map fun v => v.category).sum ≤ 8) (hlf : l.stackTraces = false) (hcap : 1 ≤ R.cells ∧ 6 ≤ R.slots) (hE : e_E s s.heap) (hK : va_K D vwCl (kTY tI tZ tL) s) (hP : va_P D vwCl (x_W tI tZ h0 ad σ) s.heap) (hlocks : meth.locks = false) (hnt : ∀ x ∈ c.exceptionTable.toList, False) (hdg : decode cc pc = .ok (.invokevirtual idx, 3)) : W p l e R s m args below meth c s.heap [] 0 0 (vx_MQ below Qc (e_X "java/lang/IllegalStateException") args s 1 6 q_no) (F0 m pc ls (.int (nI r) :: .int (nI i) :: .ref h0 :: rest)) :=
  t_pass (vx_runV (As := [.int (nI i), .int (nI r)]) (rest := rest) S (c_X0_hold_tC l D tI tZ tL h0 ad σ i r nr hnr hn30 hrn hi6 her hlf) (cwV 2 S.2.2.2.2 hG rfl rfl rfl (by decide +kernel) hR) (t_pre hK hP hE) rfl rfl hsz rfl (lv_room hrm) hdg ⟨by omega, by omega⟩) hnt hlocks

set_option maxHeartbeats 4000000 in
set_option maxRecDepth 100000 in
theorem c_X0_hold_tD (l : Launch) (D : va_G) (tI tZ tL : ClassId) (h0 : Nat) (ad : Nat → Nat) (σ : ST) (i r : Nat) (nr : Nat) (hnr : σ.1 6 = nI nr) (hn30 : nr ≤ 30) (hrn : r < nr) (hi6 : i < 6) (her : bt (σ.1 14) r = false) (hho : bt (σ.2 15 i) r = true) (hlf : l.stackTraces = false) : vx_Met l yX0_hold wsX0_hold ({ frames := 6, cells := 1, slots := 6, locals := 140 } : Room) (va_Pc ([.ref h0, .int (nI i), .int (nI r)] : List Value) (t_B D tI tZ tL h0 ad σ)) t_N (e_X "java/lang/IllegalStateException") 1 6 q_no := by
  refine t_met (cc := cX0_hold) (maxL := 3) (ret := (some .int)) (by decide) rfl (Nat.le_of_ble_eq_true rfl) ?_
  intro p e s m below meth c hx hb hml hr hts hown hlocks hnt hB ls hl
  have hown : s.vm.findClass RX0 = some m.cls := hown
  obtain ⟨hP, hK, hE⟩ := hB
  have hl : lv_has ls 3 [(0, .ref h0), (1, .int (nI i)), (2, .int (nI r))] := hl
  have hin : ∀ w ∈ wsX00, w ∈ wsX0_hold := in_X0_hold
  have hl_erasedRecords : xl_erasedRecords ∈ wsX0_hold := by decide +kernel
  have hl_recordsOfCase : xl_recordsOfCase ∈ wsX0_hold := by decide +kernel
  refine lv_aload_n hx hb dX0_hold_0 rfl (lv_at hl 0 rfl) ?_
  refine lv_iload_n hx hb dX0_hold_1 rfl (lv_at hl 1 rfl) ?_
  refine k_X0_checkCase D tI tZ tL h0 ad σ i hi6 ⟨hx, hb, hml, hown, hts⟩ gX0_hold_X0_checkCase ⟨Nat.le_of_ble_eq_true rfl, Nat.le_of_ble_eq_true rfl⟩ hl.1 ⟨Nat.zero_le _, Nat.zero_le _⟩ (Nat.le_of_ble_eq_true rfl) hK hP dX0_hold_2 ?_
  refine lv_aload_n hx hb dX0_hold_5 rfl (lv_at hl 0 rfl) ?_
  refine lv_iload_n hx hb dX0_hold_6 rfl (lv_at hl 2 rfl) ?_
  refine k_X0_checkRecord D tI tZ tL h0 ad σ r nr hnr hn30 hrn ⟨hx, hb, hml, hown, hts⟩ gX0_hold_X0_checkRecord ⟨Nat.le_of_ble_eq_true rfl, Nat.le_of_ble_eq_true rfl⟩ hl.1 ⟨Nat.zero_le _, Nat.zero_le _⟩ (Nat.le_of_ble_eq_true rfl) hK hP dX0_hold_7 ?_
  refine lv_aload_n hx hb dX0_hold_10 rfl (lv_at hl 0 rfl) ?_
  refine xg_erasedRecords hx hb hts hin hown hK hP hl_erasedRecords dX0_hold_11 ?_
  refine lv_iload_n hx hb dX0_hold_14 rfl (lv_at hl 2 rfl) ?_
  refine k_X0_has (σ.1 14) r (by omega) ⟨hx, hb, hml, hown, hts⟩ gX0_hold_X0_has ⟨Nat.le_of_ble_eq_true rfl, Nat.le_of_ble_eq_true rfl⟩ hl.1 ⟨Nat.zero_le _, Nat.zero_le _⟩ (Nat.le_of_ble_eq_true rfl) dX0_hold_15 ?_
  refine lv_ifeq_b (tgt := 31) hx hb dX0_hold_18 (by decide) (fun c18 => ?_) (fun c18 => absurd c18 (by rw [her]; decide))
  refine lv_aload_n hx hb dX0_hold_31 rfl (lv_at hl 0 rfl) ?_
  refine xg_recordsOfCase hx hb hts hin hown hK hP hl_recordsOfCase dX0_hold_32 ?_
  refine lv_iload_n hx hb dX0_hold_35 rfl (lv_at hl 1 rfl) ?_
  refine xr_recordsOfCase (j := i) hx hb hK hP (by omega) dX0_hold_36 ?_
  refine lv_iload_n hx hb dX0_hold_37 rfl (lv_at hl 2 rfl) ?_
  refine k_X0_has (σ.2 15 i) r (by omega) ⟨hx, hb, hml, hown, hts⟩ gX0_hold_X0_has ⟨Nat.le_of_ble_eq_true rfl, Nat.le_of_ble_eq_true rfl⟩ hl.1 ⟨Nat.zero_le _, Nat.zero_le _⟩ (Nat.le_of_ble_eq_true rfl) dX0_hold_38 ?_
  refine lv_ifeq_b (tgt := 54) hx hb dX0_hold_41 (by decide) (fun c41 => absurd c41 (by rw [hho]; decide)) (fun c41 => ?_)
  exact t_thr (ik := 45) (is := 169) (ic := 49) hx hb hlf hown (by decide +kernel) (by decide +kernel) hts (by decide +kernel) (by decide +kernel) (by decide +kernel) (by decide +kernel) (by decide +kernel) hE (t := "the case holds the record already") (by decide +kernel) (by rw [hml]; exact hl.1) dX0_hold_44 dX0_hold_47 dX0_hold_48 dX0_hold_50 dX0_hold_53 hnt (Nat.le_of_ble_eq_true rfl) (Nat.le_of_ble_eq_true rfl) (Nat.le_of_ble_eq_true rfl) (Nat.le_of_ble_eq_true rfl) hlocks
theorem k_X0_hold_tD {p : Program} {l : Launch} {e : Env} {R : Room} {s : State} {m : MethodId} {args : Array Value} {below : List Frame} {meth : Method} {c : Code} {cc : ByteArray} {pc : Nat} {ls : Array Slot} {rest : List Value} {Ts : List Cond} (D : va_G) (tI tZ tL : ClassId) (h0 : Nat) (ad : Nat → Nat) (σ : ST) (i r : Nat) (nr : Nat) (hnr : σ.1 6 = nI nr) (hn30 : nr ≤ 30) (hrn : r < nr) (hi6 : i < 6) (her : bt (σ.1 14) r = false) (hho : bt (σ.2 15 i) r = true) {Qc : Array Value → State → Outcome → State → Prop} {own : String} {idx nL : Nat} (S : CallFix p m c cc nL s args Ts own) (hG : GoodIn Ts (wsV own idx RX0 yX0_hold wsX0_hold)) (hR : ({ frames := 6, cells := 1, slots := 6, locals := 140 } : Room).frames + 1 ≤ R.frames ∧ 8 + (3 + 11) + ({ frames := 6, cells := 1, slots := 6, locals := 140 } : Room).locals ≤ R.locals) (hsz : ls.size = nL) (hrm : (rest.map fun v => v.category).sum ≤ 8) (hlf : l.stackTraces = false) (hcap : 1 ≤ R.cells ∧ 6 ≤ R.slots) (hE : e_E s s.heap) (hK : va_K D vwCl (kTY tI tZ tL) s) (hP : va_P D vwCl (x_W tI tZ h0 ad σ) s.heap) (hlocks : meth.locks = false) (hnt : ∀ x ∈ c.exceptionTable.toList, False) (hdg : decode cc pc = .ok (.invokevirtual idx, 3)) : W p l e R s m args below meth c s.heap [] 0 0 (vx_MQ below Qc (e_X "java/lang/IllegalStateException") args s 1 6 q_no) (F0 m pc ls (.int (nI r) :: .int (nI i) :: .ref h0 :: rest)) :=
  t_pass (vx_runV (As := [.int (nI i), .int (nI r)]) (rest := rest) S (c_X0_hold_tD l D tI tZ tL h0 ad σ i r nr hnr hn30 hrn hi6 her hho hlf) (cwV 2 S.2.2.2.2 hG rfl rfl rfl (by decide +kernel) hR) (t_pre hK hP hE) rfl rfl hsz rfl (lv_room hrm) hdg ⟨by omega, by omega⟩) hnt hlocks

set_option maxHeartbeats 4000000 in
set_option maxRecDepth 100000 in
theorem c_X0_use_tA (l : Launch) (D : va_G) (tI tZ tL : ClassId) (h0 : Nat) (ad : Nat → Nat) (σ : ST) (v : Int32) (hv : v < 0 ∨ σ.1 6 ≤ v) (w : Int32) (hlf : l.stackTraces = false) : vx_Met l yX0_use wsX0_use ({ frames := 8, cells := 1, slots := 6, locals := 183 } : Room) (va_Pc ([.ref h0, .int v, .int w] : List Value) (t_B D tI tZ tL h0 ad σ)) t_N (e_X "java/lang/IndexOutOfBoundsException") 1 6 q_no := by
  refine t_met (cc := cX0_use) (maxL := 4) (ret := (some .int)) (by decide) rfl (Nat.le_of_ble_eq_true rfl) ?_
  intro p e s m below meth c hx hb hml hr hts hown hlocks hnt hB ls hl
  have hown : s.vm.findClass RX0 = some m.cls := hown
  obtain ⟨hP, hK, hE⟩ := hB
  have hl : lv_has ls 4 [(0, .ref h0), (1, .int v), (2, .int w)] := hl
  refine lv_aload_n hx hb dX0_use_0 rfl (lv_at hl 0 rfl) ?_
  refine lv_iload_n hx hb dX0_use_1 rfl (lv_at hl 1 rfl) ?_
  refine lv_iload_n hx hb dX0_use_2 rfl (lv_at hl 2 rfl) ?_
  exact k_X0_whyNoUse_tA D tI tZ tL h0 ad σ v hv w ⟨hx, hb, hml, hown, hts⟩ gX0_use_X0_whyNoUse ⟨Nat.le_of_ble_eq_true rfl, Nat.le_of_ble_eq_true rfl⟩ hl.1 (Nat.le_of_ble_eq_true rfl) hlf ⟨Nat.le_of_ble_eq_true rfl, Nat.le_of_ble_eq_true rfl⟩ hE hK hP hlocks hnt dX0_use_3
theorem k_X0_use_tA {p : Program} {l : Launch} {e : Env} {R : Room} {s : State} {m : MethodId} {args : Array Value} {below : List Frame} {meth : Method} {c : Code} {cc : ByteArray} {pc : Nat} {ls : Array Slot} {rest : List Value} {Ts : List Cond} (D : va_G) (tI tZ tL : ClassId) (h0 : Nat) (ad : Nat → Nat) (σ : ST) (v : Int32) (hv : v < 0 ∨ σ.1 6 ≤ v) (w : Int32) {Qc : Array Value → State → Outcome → State → Prop} {own : String} {idx nL : Nat} (S : CallFix p m c cc nL s args Ts own) (hG : GoodIn Ts (wsV own idx RX0 yX0_use wsX0_use)) (hR : ({ frames := 8, cells := 1, slots := 6, locals := 183 } : Room).frames + 1 ≤ R.frames ∧ 8 + (4 + 11) + ({ frames := 8, cells := 1, slots := 6, locals := 183 } : Room).locals ≤ R.locals) (hsz : ls.size = nL) (hrm : (rest.map fun v => v.category).sum ≤ 8) (hlf : l.stackTraces = false) (hcap : 1 ≤ R.cells ∧ 6 ≤ R.slots) (hE : e_E s s.heap) (hK : va_K D vwCl (kTY tI tZ tL) s) (hP : va_P D vwCl (x_W tI tZ h0 ad σ) s.heap) (hlocks : meth.locks = false) (hnt : ∀ x ∈ c.exceptionTable.toList, False) (hdg : decode cc pc = .ok (.invokevirtual idx, 3)) : W p l e R s m args below meth c s.heap [] 0 0 (vx_MQ below Qc (e_X "java/lang/IndexOutOfBoundsException") args s 1 6 q_no) (F0 m pc ls (.int w :: .int v :: .ref h0 :: rest)) :=
  t_pass (vx_runV (As := [.int v, .int w]) (rest := rest) S (c_X0_use_tA l D tI tZ tL h0 ad σ v hv w hlf) (cwV 2 S.2.2.2.2 hG rfl rfl rfl (by decide +kernel) hR) (t_pre hK hP hE) rfl rfl hsz rfl (lv_room hrm) hdg ⟨by omega, by omega⟩) hnt hlocks

set_option maxHeartbeats 4000000 in
set_option maxRecDepth 100000 in
theorem c_X0_use_tB (l : Launch) (D : va_G) (tI tZ tL : ClassId) (h0 : Nat) (ad : Nat → Nat) (σ : ST) (r : Nat) (nr : Nat) (hnr : σ.1 6 = nI nr) (hn30 : nr ≤ 30) (hrn : r < nr) (v : Int32) (hv : v < 0 ∨ σ.1 1 ≤ v) (hlf : l.stackTraces = false) : vx_Met l yX0_use wsX0_use ({ frames := 8, cells := 1, slots := 6, locals := 183 } : Room) (va_Pc ([.ref h0, .int (nI r), .int v] : List Value) (t_B D tI tZ tL h0 ad σ)) t_N (e_X "java/lang/IndexOutOfBoundsException") 1 6 q_no := by
  refine t_met (cc := cX0_use) (maxL := 4) (ret := (some .int)) (by decide) rfl (Nat.le_of_ble_eq_true rfl) ?_
  intro p e s m below meth c hx hb hml hr hts hown hlocks hnt hB ls hl
  have hown : s.vm.findClass RX0 = some m.cls := hown
  obtain ⟨hP, hK, hE⟩ := hB
  have hl : lv_has ls 4 [(0, .ref h0), (1, .int (nI r)), (2, .int v)] := hl
  refine lv_aload_n hx hb dX0_use_0 rfl (lv_at hl 0 rfl) ?_
  refine lv_iload_n hx hb dX0_use_1 rfl (lv_at hl 1 rfl) ?_
  refine lv_iload_n hx hb dX0_use_2 rfl (lv_at hl 2 rfl) ?_
  exact k_X0_whyNoUse_tB D tI tZ tL h0 ad σ r nr hnr hn30 hrn v hv ⟨hx, hb, hml, hown, hts⟩ gX0_use_X0_whyNoUse ⟨Nat.le_of_ble_eq_true rfl, Nat.le_of_ble_eq_true rfl⟩ hl.1 (Nat.le_of_ble_eq_true rfl) hlf ⟨Nat.le_of_ble_eq_true rfl, Nat.le_of_ble_eq_true rfl⟩ hE hK hP hlocks hnt dX0_use_3
theorem k_X0_use_tB {p : Program} {l : Launch} {e : Env} {R : Room} {s : State} {m : MethodId} {args : Array Value} {below : List Frame} {meth : Method} {c : Code} {cc : ByteArray} {pc : Nat} {ls : Array Slot} {rest : List Value} {Ts : List Cond} (D : va_G) (tI tZ tL : ClassId) (h0 : Nat) (ad : Nat → Nat) (σ : ST) (r : Nat) (nr : Nat) (hnr : σ.1 6 = nI nr) (hn30 : nr ≤ 30) (hrn : r < nr) (v : Int32) (hv : v < 0 ∨ σ.1 1 ≤ v) {Qc : Array Value → State → Outcome → State → Prop} {own : String} {idx nL : Nat} (S : CallFix p m c cc nL s args Ts own) (hG : GoodIn Ts (wsV own idx RX0 yX0_use wsX0_use)) (hR : ({ frames := 8, cells := 1, slots := 6, locals := 183 } : Room).frames + 1 ≤ R.frames ∧ 8 + (4 + 11) + ({ frames := 8, cells := 1, slots := 6, locals := 183 } : Room).locals ≤ R.locals) (hsz : ls.size = nL) (hrm : (rest.map fun v => v.category).sum ≤ 8) (hlf : l.stackTraces = false) (hcap : 1 ≤ R.cells ∧ 6 ≤ R.slots) (hE : e_E s s.heap) (hK : va_K D vwCl (kTY tI tZ tL) s) (hP : va_P D vwCl (x_W tI tZ h0 ad σ) s.heap) (hlocks : meth.locks = false) (hnt : ∀ x ∈ c.exceptionTable.toList, False) (hdg : decode cc pc = .ok (.invokevirtual idx, 3)) : W p l e R s m args below meth c s.heap [] 0 0 (vx_MQ below Qc (e_X "java/lang/IndexOutOfBoundsException") args s 1 6 q_no) (F0 m pc ls (.int v :: .int (nI r) :: .ref h0 :: rest)) :=
  t_pass (vx_runV (As := [.int (nI r), .int v]) (rest := rest) S (c_X0_use_tB l D tI tZ tL h0 ad σ r nr hnr hn30 hrn v hv hlf) (cwV 2 S.2.2.2.2 hG rfl rfl rfl (by decide +kernel) hR) (t_pre hK hP hE) rfl rfl hsz rfl (lv_room hrm) hdg ⟨by omega, by omega⟩) hnt hlocks

