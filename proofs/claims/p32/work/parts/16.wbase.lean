/-! ===== the law's wrappers: the class's world and the row of one long ===== -/
def o_W (tL : ClassId) (o : Nat) (f : Nat → Int64) : va_W := [(o, .inl (tL, 1, .inr (.inl f)))]
def w_A (h0 : Nat) (ad : Nat → Nat) (o : Nat) : Nat → Prop := fun q => q ∈ x_L h0 ad ∨ q = o
def xNC : List (String × String) := [("java/lang/IllegalStateException", "java/lang/IllegalArgumentException"), ("java/lang/IllegalArgumentException", "java/lang/IndexOutOfBoundsException"), ("java/lang/IllegalStateException", "java/lang/IndexOutOfBoundsException")]
def w_E (U : State) (H : Heap) : Prop := e_E U H ∧ ∀ q ∈ xNC, va_Nc q.1 q.2 U
def w_B (D : va_G) (tI tZ tL : ClassId) (h0 : Nat) (ad : Nat → Nat) (σ : ST) (o : Nat) (f : Nat → Int64) : State → Prop := fun U => va_P D vwCl (x_W tI tZ h0 ad σ) U.heap ∧ va_P D vwCl (o_W tL o f) U.heap ∧ va_K D vwCl (kTY tI tZ tL) U ∧ w_E U U.heap
def w_P (D : va_G) (tI tZ tL : ClassId) (h0 : Nat) (ad : Nat → Nat) (σ : ST) (o : Nat) (f : Nat → Int64) : Heap → Prop := fun H => va_P D vwCl (x_W tI tZ h0 ad σ) H ∧ va_P D vwCl (o_W tL o f) H
abbrev w_hd (q : ExceptionTableEntry) : Nat × Nat × Nat × Nat := (q.startPc, q.endPc, q.handlerPc, q.catchType)
theorem et_one {q : ExceptionTableEntry} {a b c d : Nat} (h : w_hd q = (a, b, c, d)) : q = ⟨a, b, c, d⟩ := by
  cases q; cases h; rfl
theorem et1 {L : List ExceptionTableEntry} {a b c d : Nat} (h : L.map w_hd = [(a, b, c, d)]) : L = [⟨a, b, c, d⟩] := by
  match L, h with
  | [q], h => rw [et_one (List.cons.inj h).1]
theorem et2 {L : List ExceptionTableEntry} {a b c d a' b' c' d' : Nat} (h : L.map w_hd = [(a, b, c, d), (a', b', c', d')]) : L = [⟨a, b, c, d⟩, ⟨a', b', c', d'⟩] := by
  match L, h with
  | q :: L', h => rw [et_one (List.cons.inj h).1, et1 (List.cons.inj h).2]
theorem et3 {L : List ExceptionTableEntry} {a b c d a' b' c' d' a2 b2 c2 d2 : Nat} (h : L.map w_hd = [(a, b, c, d), (a', b', c', d'), (a2, b2, c2, d2)]) : L = [⟨a, b, c, d⟩, ⟨a', b', c', d'⟩, ⟨a2, b2, c2, d2⟩] := by
  match L, h with
  | q :: L', h => rw [et_one (List.cons.inj h).1, et2 (List.cons.inj h).2]
section KW
variable {p : Program} {l : Launch} {e : Env} {R : Room} {s : State} {m : MethodId} {args : Array Value} {below : List Frame} {meth : Method} {c : Code} {H : Heap} {locs : List Loc} {cells slots : Nat} {Q : State → Prop} {cc : ByteArray} {pc : Nat} {ls : Array Slot} {rest : List Value} {Ts : List Cond} {D : va_G} {tI tZ tL : ClassId} {h0 : Nat} {ad : Nat → Nat} {σ : ST} {o : Nat} {f : Nat → Int64}
abbrev w_G (p : Program) (l : Launch) (e : Env) (rm : Room) (s : State) (m : MethodId) (args : Array Value) (below : List Frame) (meth : Method) (c : Code) (H : Heap) (locs : List Loc) (cells slots : Nat) (v : Option Value) (P1 : Heap → Prop) (A : Nat → Prop) (g : JFrame) : Prop := W p l e rm s m args below meth c H locs cells slots (MQ below (u_Q v P1 A) args s 1 6 A) g
theorem w_met {y : MethodName} {ws ws' : List Cond} {rm : Room} {maxL : Nat} {ret : Option FieldType} {hh : List (Nat × Nat × Nat × Nat)} {av : List Value} {Bp : State → Prop} {v : Option Value} {P1 : Heap → Prop} {A : Nat → Prop} (hy : plainName y.cls = true) (hw : ws = Cond.codeWith y cc maxL ret hh :: ws') (hlen : (lg_sl av).length ≤ maxL)
    (body : ∀ (p : Program) (e : Env) (s : State) (m : MethodId) (below : List Frame) (meth : Method) (c : Code), p.tables.exec = Jvm.exec → c.code = cc → c.maxLocals = maxL → meth.sig.returnType = ret → (∀ w ∈ ws, w.before av.toArray s = true) → s.vm.findClass y.cls = some m.cls → meth.locks = false → c.exceptionTable.toList.map w_hd = hh → Bp s → va_S A s.heap s.heap [] → ∀ ls, lv_has ls maxL (lv_args 0 av) → w_G p l e rm s m av.toArray below meth c s.heap [] 0 0 v P1 A (F0 m 0 ls [])) :
    Met l y ws rm (va_Pc av Bp) (u_Q v P1 A) 1 6 A := by
  refine MetFree.of_bodyS (code := cc) (maxLocals := maxL) (ret := ret) hy ?_ ?_
  · intro args s m h hn
    obtain ⟨m9, meth, c, hn9, h1, h2, h3, h4, -, h5, h6, -⟩ := Cond.codeWith_spec (atoms_spec (ws := ws) h _ (by rw [hw]; exact List.mem_cons_self))
    cases hn.symm.trans hn9
    exact ⟨meth, c, h1, h2, h3, h4, h5, h6⟩
  · intro p e s m args below meth c s₁ B hml hv _
    obtain ⟨rfl, hB⟩ := hv
    have hh0 : s₁.heap = s.heap := by rw [B.state]; rfl
    have htab : c.exceptionTable.toList.map w_hd = hh := by
      obtain ⟨m9, meth9, c9, hn9, h1, h2, h3, h4, h7, h5, h6, -⟩ := Cond.codeWith_spec (atoms_spec (ws := ws) B.pre _ (by rw [hw]; exact List.mem_cons_self))
      cases B.named.symm.trans hn9
      cases Option.some.inj (h1.symm.trans B.method)
      cases Option.some.inj (h2.symm.trans (Stand.of_body B).code)
      exact h7
    have hl := lv_entry av (n := maxL) hlen
    have K := body p e s m below meth c B.exec B.bytes hml B.returns (atoms_spec (ws := ws) B.pre) (findClass_of_methodNamed B.named) B.notSynchronized htab hB va_S.rf _ hl
    rw [← lg_entry_eq] at K
    obtain ⟨t, a1, o, b1, b2, b3⟩ := K s₁ hh0 (Stand.of_body B)
    exact ⟨t, o, a1, b1, b2, b3⟩
theorem w_iret {v r : Int32} {P1 : Heap → Prop} {A : Nat → Prop} (hx : p.tables.exec = Jvm.exec) (hb : c.code = cc) (hr : meth.sig.returnType = some .int) (hlocks : meth.locks = false) (h1 : cells ≤ 1) (h6 : slots ≤ 6) (hS : va_S A s.heap H locs) (hP : P1 H) (h : v = r) (hdg : decode cc pc = .ok (.ireturn, 1)) : w_G p l e R s m args below meth c H locs cells slots (some (.int r)) P1 A (F0 m pc ls [.int v]) := by
  subst h
  refine W.widen h1 h6 ?_
  exact W.iret hx hb hr (fun t ht _ => ⟨⟨rfl, by rw [ht]; exact hP⟩, hS.F ht⟩) hS.2.2 hdg hlocks
/-- a callee throws: here it is caught -/
theorem t_catch {E : String} {st0 : List Value} {a : Array Value} (hr : vx_Run p l e R s m args below meth c H locs cells slots 1 6 (F0 m pc ls st0) rest (t_N a) (e_X E) q_no)
    (kk : ∀ (H1 : Heap) (ce : Cell) (q9 : Addr), H.size ≤ H1.size → (∀ q : Nat, q < H.size → H1[q]? = H[q]?) → H1[q9]? = some ce → ce.vm = .none → s.vm.findClass E = some ce.cls → vx_W p l e R s m args below meth c H1 locs (cells + 1) (slots + 6) Q (F0 m pc ls rest) q9) : W p l e R s m args below meth c H locs cells slots Q (F0 m pc ls st0) := by
  intro T hT X
  rcases hr T hT X with ⟨v, st₀, t, T', L, h0, X', hL, e1, e2, hN, st⟩ | ⟨q, st₀, t, T', L, E1, ce, h0, X', hL, e1, e2, ⟨hEe, hz, hk⟩, hce, hcv, hcl, st⟩
  · exact absurd hN (fun h => h)
  · subst hEe
    have hL0 : L = [] := by
      cases L with
      | nil => rfl
      | cons z L => exact absurd (hL z List.mem_cons_self) (fun h => h)
    subst hL0
    rw [List.append_nil] at X'
    rw [h0] at hz hk
    obtain ⟨t2, a1, b1⟩ := kk T'.heap ce q (by rw [e1]; exact hz) (fun q9 hq9 => by rw [e1]; exact hk q9 hq9) (by rw [e1]; exact hce) hcv hcl T' rfl X'
    exact ⟨t2, st.trans a1, b1⟩
/-- out[0] = x -/
theorem o_st {x : Int64} {A : Nat → Prop} {H0 : Heap} (hx : p.tables.exec = Jvm.exec) (hb : c.code = cc) (hK : va_K D vwCl (kTY tI tZ tL) s) (hP : va_P D vwCl (x_W tI tZ h0 ad σ) H) (hPo : va_P D vwCl (o_W tL o f) H) (hD : va_D A (x_W tI tZ h0 ad σ ++ o_W tL o f)) (hS : va_S A H0 H locs) (hdg : decode cc pc = .ok (.lastore, 1))
    (kk : ∀ (H1 : Heap) (locs1 : List Loc), va_P D vwCl (x_W tI tZ h0 ad σ) H1 → va_P D vwCl (o_W tL o (vp_updL f 0 x)) H1 → va_S A H0 H1 locs1 → W p l e R s m args below meth c H1 locs1 cells slots Q (F0 m (pc + 1) ls rest)) : W p l e R s m args below meth c H locs cells slots Q (F0 m pc ls (.long x :: .int 0 :: .ref o :: rest)) := by
  refine va_last hx hb hK (hP.app hPo) hD hS 10 1 rfl rfl (vp_in_nI (n := 0) (by decide) (by decide)) hdg (fun H1 locs1 hP1 _ hS1 => ?_)
  rw [show (0 : Int32).toNatClampNeg = 0 by decide] at hP1
  have h2 : va_P D vwCl (x_W tI tZ h0 ad σ ++ o_W tL o (vp_updL f 0 x)) H1 := hP1
  exact kk H1 locs1 (h2.sub [0, 1, 2, 3, 4, 5, 6, 7, 8, 9] rfl) (h2.sub [10] rfl) hS1
theorem w_D (hn : (x_L h0 ad).Nodup) (hno : o ∉ x_L h0 ad) : va_D (w_A h0 ad o) (x_W tI tZ h0 ad σ ++ o_W tL o f) := by
  refine va_D_of ?_ ?_
  · show (x_L h0 ad ++ [o]).Nodup
    rw [List.nodup_append]
    exact ⟨hn, by simp, fun a ha b hb e => hno (by rw [List.mem_singleton.mp hb] at e; rw [← e]; exact ha)⟩
  · show ∀ q ∈ x_L h0 ad ++ [o], w_A h0 ad o q
    intro q hq
    rcases List.mem_append.mp hq with h | h
    · exact Or.inl h
    · exact Or.inr (List.mem_singleton.mp h)
theorem o_lt (hPo : va_P D vwCl (o_W tL o f) H) : o < H.size := vx_lt hPo (k := 0) rfl
theorem o_kept {H1 : Heap} (hPo : va_P D vwCl (o_W tL o f) H) (h : H1[o]? = H[o]?) : va_P D vwCl (o_W tL o f) H1 := hPo.kept (fun k q hk => by
  match k, hk with
  | 0, hk => cases hk; exact h
  | k + 1, hk => simp [o_W] at hk)
theorem x_kept9 {H1 : Heap} (hP : va_P D vwCl (x_W tI tZ h0 ad σ) H) (h : ∀ q : Nat, q < H.size → q ∈ x_L h0 ad → H1[q]? = H[q]?) : va_P D vwCl (x_W tI tZ h0 ad σ) H1 := hP.kept (fun k q hk => h q.1 (vx_lt hP hk) (List.mem_map.mpr ⟨q, List.mem_of_getElem? hk, rfl⟩))
theorem w_warm {U : State} {H : Heap} (hW : s.WarmedH U.vm) (h : w_E s H) : w_E U H := ⟨e_warm hW h.1, fun q hq => va_Nc.moved hW.alike (h.2 q hq)⟩
theorem w_blind {av : List Value} : FrameBlind (va_Pc av (w_B D tI tZ tL h0 ad σ o f)) := fun a U g mk q => ⟨q.1, q.2.1, q.2.2.1, va_K.moved (u := U) (U := U.calling g mk a) (Vm.Alike.refl U.vm) q.2.2.2.1, w_warm (s := U) (U := U.calling g mk a) (State.WarmedH.refl U) q.2.2.2.2⟩
theorem w_pre {As : List Value} (hK : va_K D vwCl (kTY tI tZ tL) s) (hP : va_P D vwCl (x_W tI tZ h0 ad σ) H) (hPo : va_P D vwCl (o_W tL o f) H) (hE : w_E s H) : PreS s H (va_Pc As (w_B D tI tZ tL h0 ad σ o f)) As := ⟨w_blind, fun U hU hW => ⟨rfl, by rw [hU]; exact hP, by rw [hU]; exact hPo, va_K.moved hW.alike hK, by rw [hU]; exact w_warm hW hE⟩⟩
/-- behind a call of a wrapper -/
theorem w_call {st0 : List Value} {v : Option Value} {a : Array Value} {P1 : Heap → Prop} {A1 A0 free : Nat → Prop} {H0 : Heap} {mc ms : Nat} (hr : va_Run p l e R s m args below meth c H locs cells slots mc ms (F0 m pc ls st0) rest (u_Q v P1 A1 a) free) (hS : va_S A0 H0 H locs) (hA : ∀ q, A1 q → A0 q) (hf : ∀ q, free q → A0 q)
    (kk : ∀ (H1 : Heap) (locs1 : List Loc), P1 H1 → H.size ≤ H1.size → (∀ q : Nat, q < H.size → ¬ A1 q → H1[q]? = H[q]?) → va_S A0 H0 H1 locs1 → W p l e R s m args below meth c H1 locs1 (cells + mc) (slots + ms) Q (F0 m (pc + 3) ls (v.toList ++ rest))) : W p l e R s m args below meth c H locs cells slots Q (F0 m pc ls st0) := by
  intro T hT X
  obtain ⟨v9, st₀, t, T', L, h0, X', hL, e1, e2, ⟨⟨hv, hp⟩, hz, hk⟩, st⟩ := hr T hT X
  cases hv
  rw [h0] at hz hk
  obtain ⟨t2, a1, b1⟩ := kk T'.heap (locs ++ L) (by rw [e1]; exact hp) (by rw [e1]; exact hz) (fun q h1 h2 => by rw [e1]; exact hk q h1 h2)
    ⟨Nat.le_trans hS.1 (by rw [e1]; exact hz), fun q h1 h2 => by rw [e1, hk q (Nat.lt_of_lt_of_le h1 hS.1) (fun z => h2 (hA q z))]; exact hS.2.1 q h1 h2, fun q hq => by
      rcases List.mem_append.mp hq with h | h
      · exact hS.2.2 q h
      · exact hf _ (hL q h)⟩ T' rfl X'
  exact ⟨t2, st t2 a1, b1⟩
end KW
