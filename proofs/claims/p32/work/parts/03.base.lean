abbrev vwCl : List vw_C := [(RX0, TX0, 16)]
section KB
variable {p : Program} {l : Launch} {e : Env} {R : Room} {s : State} {m : MethodId} {args : Array Value} {below : List Frame} {meth : Method} {c : Code} {H : Heap} {locs : List Loc} {cells slots : Nat} {Q : State → Prop} {cc : ByteArray} {pc : Nat} {ls : Array Slot} {rest : List Value} {Ts : List Cond}
/-- a state of an object of ints and int rows: the int fields by their slots, the rows by the slots of their fields -/
abbrev ST : Type := (Nat → Int32) × (Nat → Nat → Int32)
def s_set (σ : ST) (k : Nat) (v : Int32) : ST := (fun j => if j = k then v else σ.1 j, σ.2)
def s_put (σ : ST) (k i : Nat) (v : Int32) : ST := (σ.1, fun j => if j = k then upd (σ.2 j) i v else σ.2 j)
def b01 (b : Bool) : Int32 := if b = true then 1 else 0
def q_no : Addr → Prop := fun _ => False
/-- returns v, the heap as it was -/
def q_Q (v : Option Value) : Array Value → State → Outcome → State → Prop := fun _ st o t => o = .returned v ∧ t.heap = st.heap
/-- returns v, the heap has P1, nothing outside A has changed -/
def u_Q (v : Option Value) (P1 : Heap → Prop) (A : Nat → Prop) : Array Value → State → Outcome → State → Prop := fun _ st o t => (o = .returned v ∧ P1 t.heap) ∧ va_F A st t
abbrev kTY (tI tZ tL : ClassId) : List (ClassId × FieldType) := [(tI, .int), (tL, .long)]
theorem va_D_of {A : Nat → Prop} {ws : va_W} (h1 : (ws.map (fun q => q.1)).Nodup) (h2 : ∀ q ∈ ws.map (fun q => q.1), A q) : va_D A ws := by
  refine ⟨fun i j p q hi hj e => ?_, fun k q hk => h2 _ (List.mem_map.mpr ⟨q, List.mem_of_getElem? hk, rfl⟩)⟩
  have a1 : (ws.map (fun q => q.1))[i]? = some p.1 := by rw [List.getElem?_map, hi]; rfl
  have a2 : (ws.map (fun q => q.1))[j]? = some p.1 := by rw [List.getElem?_map, hj, e]; rfl
  have hi' : i < (ws.map (fun q => q.1)).length := (List.getElem?_eq_some_iff.mp a1).1
  exact (List.getElem?_inj hi' h1).mp (a1.trans a2.symm)
/-- a read-only method's body -/
abbrev q_G (p : Program) (l : Launch) (e : Env) (rm : Room) (s : State) (m : MethodId) (args : Array Value) (below : List Frame) (meth : Method) (c : Code) (v : Option Value) (g : JFrame) : Prop := W p l e rm s m args below meth c s.heap [] 0 0 (MQ below (q_Q v) args s 0 0 q_no) g
theorem q_met {y : MethodName} {ws ws' : List Cond} {rm : Room} {maxL : Nat} {ret : Option FieldType} {av : List Value} {Bp : State → Prop} {v : Option Value} (hy : plainName y.cls = true) (hw : ws = Cond.code y cc maxL ret :: ws') (hlen : (lg_sl av).length ≤ maxL)
    (body : ∀ (p : Program) (e : Env) (s : State) (m : MethodId) (below : List Frame) (meth : Method) (c : Code), p.tables.exec = Jvm.exec → c.code = cc → c.maxLocals = maxL → meth.sig.returnType = ret → (∀ w ∈ ws, w.before av.toArray s = true) → s.vm.findClass y.cls = some m.cls → meth.locks = false → Bp s → ∀ ls, lv_has ls maxL (lv_args 0 av) → q_G p l e rm s m av.toArray below meth c v (F0 m 0 ls [])) :
    Met l y ws rm (va_Pc av Bp) (q_Q v) 0 0 q_no := by
  refine Met.ofW (cc := cc) (maxL := maxL) (ret := ret) hy hw ?_
  intro p e s m args below meth c s₁ B hml hv
  obtain ⟨rfl, hB⟩ := hv
  have hl := lv_entry av (n := maxL) hlen
  rw [lg_entry_eq]
  exact body p e s m below meth c B.exec B.bytes hml B.returns (atoms_spec (ws := ws) B.pre) (findClass_of_methodNamed B.named) B.notSynchronized hB _ hl
/-- a method that changes cells of A alone -/
abbrev u_G (p : Program) (l : Launch) (e : Env) (rm : Room) (s : State) (m : MethodId) (args : Array Value) (below : List Frame) (meth : Method) (c : Code) (H : Heap) (locs : List Loc) (v : Option Value) (P1 : Heap → Prop) (A : Nat → Prop) (g : JFrame) : Prop := W p l e rm s m args below meth c H locs 0 0 (MQ below (u_Q v P1 A) args s 0 0 A) g
theorem u_met {y : MethodName} {ws ws' : List Cond} {rm : Room} {maxL : Nat} {ret : Option FieldType} {av : List Value} {Bp : State → Prop} {v : Option Value} {P1 : Heap → Prop} {A : Nat → Prop} (hy : plainName y.cls = true) (hw : ws = Cond.code y cc maxL ret :: ws') (hlen : (lg_sl av).length ≤ maxL)
    (body : ∀ (p : Program) (e : Env) (s : State) (m : MethodId) (below : List Frame) (meth : Method) (c : Code), p.tables.exec = Jvm.exec → c.code = cc → c.maxLocals = maxL → meth.sig.returnType = ret → (∀ w ∈ ws, w.before av.toArray s = true) → s.vm.findClass y.cls = some m.cls → meth.locks = false → Bp s → va_S A s.heap s.heap [] → ∀ ls, lv_has ls maxL (lv_args 0 av) → u_G p l e rm s m av.toArray below meth c s.heap [] v P1 A (F0 m 0 ls [])) :
    Met l y ws rm (va_Pc av Bp) (u_Q v P1 A) 0 0 A := by
  refine Met.ofW (cc := cc) (maxL := maxL) (ret := ret) hy hw ?_
  intro p e s m args below meth c s₁ B hml hv
  obtain ⟨rfl, hB⟩ := hv
  have hl := lv_entry av (n := maxL) hlen
  rw [lg_entry_eq]
  exact body p e s m below meth c B.exec B.bytes hml B.returns (atoms_spec (ws := ws) B.pre) (findClass_of_methodNamed B.named) B.notSynchronized hB va_S.rf _ hl
/-- the ends -/
theorem q_iret {v r : Int32} (hx : p.tables.exec = Jvm.exec) (hb : c.code = cc) (hr : meth.sig.returnType = some .int) (hlocks : meth.locks = false) (h : v = r) (hdg : decode cc pc = .ok (.ireturn, 1)) : q_G p l e R s m args below meth c (some (.int r)) (F0 m pc ls [.int v]) := by
  subst h
  exact W.iret hx hb hr (fun t ht _ => ⟨rfl, ht⟩) (fun q h => by cases h) hdg hlocks
theorem narrow_b01 (b : Bool) : narrow .boolean (.int (b01 b)) = .int (b01 b) := by cases b <;> rfl
theorem q_zret {v : Int32} {r : Bool} (hx : p.tables.exec = Jvm.exec) (hb : c.code = cc) (hr : meth.sig.returnType = some .boolean) (hlocks : meth.locks = false) (h : v = b01 r) (hdg : decode cc pc = .ok (.ireturn, 1)) : q_G p l e R s m args below meth c (some (.int (b01 r))) (F0 m pc ls [.int v]) := by
  subst h
  exact W.zret hx hb hr (narrow_b01 r) (fun t ht _ => ⟨rfl, ht⟩) (fun q h => by cases h) hdg hlocks
theorem q_vret (hx : p.tables.exec = Jvm.exec) (hb : c.code = cc) (hr : meth.sig.returnType = none) (hlocks : meth.locks = false) (hdg : decode cc pc = .ok (.return_, 1)) : q_G p l e R s m args below meth c none (F0 m pc ls []) :=
  W.vret hx hb hr (fun t ht _ => ⟨rfl, ht⟩) (fun q h => by cases h) hdg hlocks
theorem u_iret {v r : Int32} {P1 : Heap → Prop} {A : Nat → Prop} (hx : p.tables.exec = Jvm.exec) (hb : c.code = cc) (hr : meth.sig.returnType = some .int) (hlocks : meth.locks = false) (hS : va_S A s.heap H locs) (hP : P1 H) (h : v = r) (hdg : decode cc pc = .ok (.ireturn, 1)) : u_G p l e R s m args below meth c H locs (some (.int r)) P1 A (F0 m pc ls [.int v]) := by
  subst h
  exact W.iret hx hb hr (fun t ht _ => ⟨⟨rfl, by rw [ht]; exact hP⟩, hS.F ht⟩) hS.2.2 hdg hlocks
theorem u_zret {v : Int32} {r : Bool} {P1 : Heap → Prop} {A : Nat → Prop} (hx : p.tables.exec = Jvm.exec) (hb : c.code = cc) (hr : meth.sig.returnType = some .boolean) (hlocks : meth.locks = false) (hS : va_S A s.heap H locs) (hP : P1 H) (h : v = b01 r) (hdg : decode cc pc = .ok (.ireturn, 1)) : u_G p l e R s m args below meth c H locs (some (.int (b01 r))) P1 A (F0 m pc ls [.int v]) := by
  subst h
  exact W.zret hx hb hr (narrow_b01 r) (fun t ht _ => ⟨⟨rfl, by rw [ht]; exact hP⟩, hS.F ht⟩) hS.2.2 hdg hlocks
theorem u_vret {P1 : Heap → Prop} {A : Nat → Prop} (hx : p.tables.exec = Jvm.exec) (hb : c.code = cc) (hr : meth.sig.returnType = none) (hlocks : meth.locks = false) (hS : va_S A s.heap H locs) (hP : P1 H) (hdg : decode cc pc = .ok (.return_, 1)) : u_G p l e R s m args below meth c H locs none P1 A (F0 m pc ls []) :=
  W.vret hx hb hr (fun t ht _ => ⟨⟨rfl, by rw [ht]; exact hP⟩, hS.F ht⟩) hS.2.2 hdg hlocks
/-- behind a call of a read-only method -/
theorem q_call {st0 : List Value} {v : Option Value} {a : Array Value} (hr : va_Run p l e R s m args below meth c H locs cells slots 0 0 (F0 m pc ls st0) rest (q_Q v a) q_no) (kk : W p l e R s m args below meth c H locs cells slots Q (F0 m (pc + 3) ls (v.toList ++ rest))) : W p l e R s m args below meth c H locs cells slots Q (F0 m pc ls st0) := by
  intro T hT X
  obtain ⟨v9, st₀, t, T', L, h0, X', hL, e1, e2, ⟨hv, hz⟩, st⟩ := hr T hT X
  cases hv
  have hL0 : L = [] := by
    cases L with
    | nil => rfl
    | cons q L => exact absurd (hL q List.mem_cons_self) (fun h => h)
  subst hL0
  rw [List.append_nil] at X'
  obtain ⟨t2, a1, b1⟩ := kk T' (by rw [e1, hz, h0]) X'
  exact ⟨t2, st t2 a1, b1⟩
/-- behind a call of a method that changes cells of A1 alone -/
theorem u_call {st0 : List Value} {v : Option Value} {a : Array Value} {P1 : Heap → Prop} {A1 A0 free : Nat → Prop} {H0 : Heap} (hr : va_Run p l e R s m args below meth c H locs cells slots 0 0 (F0 m pc ls st0) rest (u_Q v P1 A1 a) free) (hS : va_S A0 H0 H locs) (hA : ∀ q, A1 q → A0 q) (hf : ∀ q, free q → A0 q)
    (kk : ∀ (H1 : Heap) (locs1 : List Loc), P1 H1 → H.size ≤ H1.size → (∀ q : Nat, q < H.size → ¬ A1 q → H1[q]? = H[q]?) → va_S A0 H0 H1 locs1 → W p l e R s m args below meth c H1 locs1 cells slots Q (F0 m (pc + 3) ls (v.toList ++ rest))) : W p l e R s m args below meth c H locs cells slots Q (F0 m pc ls st0) := by
  intro T hT X
  obtain ⟨v9, st₀, t, T', L, h0, X', hL, e1, e2, ⟨⟨hv, hp⟩, hz, hk⟩, st⟩ := hr T hT X
  cases hv
  rw [h0] at hz hk
  obtain ⟨t2, a1, b1⟩ := kk T'.heap (locs ++ L) (by rw [e1]; exact hp) (by rw [e1]; exact hz) (fun q h1 h2 => by rw [e1]; exact hk q h1 h2)
    ⟨Nat.le_trans hS.1 (by rw [e1]; exact hz), fun q h1 h2 => by rw [e1, hk q (Nat.lt_of_lt_of_le h1 hS.1) (fun z => h2 (hA q z))]; exact hS.2.1 q h1 h2, fun q hq => by
      rcases List.mem_append.mp hq with h | h
      · exact hS.2.2 q h
      · exact hf _ (hL q h)⟩ T' rfl X'
  exact ⟨t2, st t2 a1, b1⟩
theorem lv_to {ls : Array Slot} {n : Nat} {L L' : List (Nat × Value)} (h : lv_has ls n L) (e : L = L') : lv_has ls n L' := e ▸ h
theorem lv_ci {i : Nat} {a b : Int32} {L L' : List (Nat × Value)} (h : a = b) (t : L = L') : (i, Value.int a) :: L = (i, Value.int b) :: L' := by rw [h, t]
theorem lv_cr {q : Nat × Value} {L L' : List (Nat × Value)} (t : L = L') : q :: L = q :: L' := by rw [t]
theorem lv_topc {x y : Int32} (h : x = y) (k : W p l e R s m args below meth c H locs cells slots Q (F0 m pc ls (.int y :: rest))) : W p l e R s m args below meth c H locs cells slots Q (F0 m pc ls (.int x :: rest)) := by subst h; exact k
/-- branches on a bool -/
theorem lv_ifeq_b {b : Bool} {off : Int} {tgt : Nat} (hexec : p.tables.exec = Jvm.exec) (hb : c.code = cc) (hdg : decode cc pc = .ok (.ifCond .eq off, 3)) (ht : (pc : Int) + off = (tgt : Int))
    (kt : b = false → W p l e R s m args below meth c H locs cells slots Q (F0 m tgt ls rest)) (kf : b = true → W p l e R s m args below meth c H locs cells slots Q (F0 m (pc + 3) ls rest)) : W p l e R s m args below meth c H locs cells slots Q (F0 m pc ls (.int (b01 b) :: rest)) := by
  cases b with
  | false => exact lv_if_eq hexec hb hdg ht (fun _ => kt rfl) (fun h => absurd rfl h)
  | true => exact lv_if_eq hexec hb hdg ht (fun h => absurd (show (1 : Int32) = 0 from h) (by decide)) (fun _ => kf rfl)
theorem lv_ifne_b {b : Bool} {off : Int} {tgt : Nat} (hexec : p.tables.exec = Jvm.exec) (hb : c.code = cc) (hdg : decode cc pc = .ok (.ifCond .ne off, 3)) (ht : (pc : Int) + off = (tgt : Int))
    (kt : b = true → W p l e R s m args below meth c H locs cells slots Q (F0 m tgt ls rest)) (kf : b = false → W p l e R s m args below meth c H locs cells slots Q (F0 m (pc + 3) ls rest)) : W p l e R s m args below meth c H locs cells slots Q (F0 m pc ls (.int (b01 b) :: rest)) := by
  cases b with
  | false => exact lv_if_ne hexec hb hdg ht (fun h => absurd rfl h) (fun _ => kf rfl)
  | true => exact lv_if_ne hexec hb hdg ht (fun _ => kt rfl) (fun h => absurd (show (1 : Int32) = 0 from h) (by decide))
/-- words of a class among a method's -/
theorem ty_blind {av : List Value} {Bp : State → Prop} (h : ∀ (U V : State), U.heap = V.heap → U.vm.Alike V.vm → Bp U → Bp V) : FrameBlind (va_Pc av Bp) := fun a U g mk q => ⟨q.1, h U _ rfl (Vm.Alike.refl U.vm) q.2⟩
end KB
