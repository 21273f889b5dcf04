/-! ===== the law's walk: what holds throughout ===== -/
def L_E (p : Program) (l : Launch) (s : State) (m : MethodId) (meth : Method) (c : Code) (b L : Nat) (xs : Nat → Int32) (D : va_G) (tI tZ tL : ClassId) : Prop := p.tables.exec = Jvm.exec ∧ c.code = cL_law ∧ c.maxLocals = 7 ∧ s.vm.findClass RL = some m.cls ∧ (∀ w ∈ wsL_law, w.before #[Value.ref b] s = true) ∧ va_X b L xs s s.heap ∧ b < s.heap.size ∧ va_K D vwCl (kTY tI tZ tL) s ∧ w_E s s.heap ∧ l.stackTraces = false ∧ L ≤ 2048
def L_A (s : State) (hx : Nat) (ax : Nat → Nat) (hm : Nat) (am : Nat → Nat) (o : Nat) : Prop := (x_L hx ax).Nodup ∧ (m_L hm am).Nodup ∧ o ∉ x_L hx ax ∧ o ∉ m_L hm am ∧ (∀ q ∈ x_L hx ax, q ∉ m_L hm am) ∧ (∀ q ∈ x_L hx ax, s.heap.size ≤ q) ∧ (∀ q ∈ m_L hm am, s.heap.size ≤ q) ∧ s.heap.size ≤ o
def L_S (s : State) (D : va_G) (tI tZ tL : ClassId) (hx : Nat) (ax : Nat → Nat) (hm : Nat) (am : Nat → Nat) (o : Nat) (σ τ : ST) (H : Heap) (locs : List Loc) : Prop := ∃ f : Nat → Int64, va_P D vwCl (x_W tI tZ hx ax σ) H ∧ va_P D vwCl (m_W tI tZ hm am τ) H ∧ va_P D vwCl (o_W tL o f) H ∧ va_S (fun q => s.heap.size ≤ q) s.heap H locs
def L_v (b hx hm o i : Nat) : List (Nat × Value) := [(4, .int (nI i)), (3, .ref o), (2, .ref hm), (1, .ref hx), (0, .ref b)]
section LB
variable {p : Program} {l : Launch} {e : Env} {R : Room} {s : State} {m : MethodId} {args : Array Value} {below : List Frame} {meth : Method} {c : Code} {H : Heap} {locs : List Loc} {cells slots : Nat} {Q : State → Prop} {cc : ByteArray} {pc : Nat} {ls : Array Slot} {rest : List Value} {D : va_G} {tI tZ tL : ClassId} {hx hm o : Nat} {ax am : Nat → Nat} {σ τ : ST}
theorem lb_lcmp {x y : Int64} (h : x = y) (hexec : p.tables.exec = Jvm.exec) (hb : c.code = cc) (hdg : decode cc pc = .ok (.lcmp, 1))
    (k : W p l e R s m args below meth c H locs cells slots Q (F0 m (pc + 1) ls (.int 0 :: rest))) : W p l e R s m args below meth c H locs cells slots Q (F0 m pc ls (.long y :: .long x :: rest)) := by
  subst h
  intro T hT X
  obtain ⟨t, a, b⟩ := k T hT X
  refine ⟨t, ?_, b⟩
  have e1 : ¬ x > x := Int64.lt_irrefl
  jvm_step X.here [X.here.top, hexec, hb, hdg, e1]
  exact a
/-- v != 0, as javac pushes it -/
theorem lb_bool {v : Int32} (hexec : p.tables.exec = Jvm.exec) (hb : c.code = cc) (d1 : decode cc pc = .ok (.ifCond .eq 7, 3)) (d2 : decode cc (pc + 3) = .ok (.iconst 1, 1)) (d3 : decode cc (pc + 4) = .ok (.goto 4, 3)) (d4 : decode cc (pc + 7) = .ok (.iconst 0, 1))
    (k : W p l e R s m args below meth c H locs cells slots Q (F0 m (pc + 8) ls (.int (b01 (!decide (v = 0))) :: rest))) : W p l e R s m args below meth c H locs cells slots Q (F0 m pc ls (.int v :: rest)) := by
  refine lv_if_eq (tgt := pc + 7) hexec hb d1 (by omega) (fun hz => ?_) (fun hz => ?_)
  · refine lv_iconst (v := 0) hexec hb d4 (by decide) ?_
    rw [decide_eq_true hz] at k; exact k
  · refine lv_iconst (v := 1) hexec hb d2 (by decide) ?_
    refine lv_goto (tgt := pc + 8) hexec hb d3 (by omega) ?_
    rw [decide_eq_false hz] at k; exact k
theorem w_Emv (h : w_E s s.heap) (hS : va_S (fun q => s.heap.size ≤ q) s.heap H locs) : w_E s H :=
  ⟨⟨(h.1.1.kept (fun a h1 h2 => hS.2.1 a h1 h2)).narrow (fun q hq => Nat.le_trans hS.1 hq), (h.1.2.1.kept (fun a h1 h2 => hS.2.1 a h1 h2)).narrow (fun q hq => Nat.le_trans hS.1 hq), h.1.2.2⟩, h.2⟩
theorem m_kept9 {H1 : Heap} (hP : va_P D vwCl (m_W tI tZ hm am τ) H) (h : ∀ q : Nat, q < H.size → q ∈ m_L hm am → H1[q]? = H[q]?) : va_P D vwCl (m_W tI tZ hm am τ) H1 := hP.kept (fun k q hk => h q.1 (vx_lt hP hk) (List.mem_map.mpr ⟨q, List.mem_of_getElem? hk, rfl⟩))
theorem L_Aw (h : L_A s hx ax hm am o) : ∀ q, w_A hx ax o q → s.heap.size ≤ q := fun q hq => hq.elim (h.2.2.2.2.2.1 q) (fun z => by rw [z]; exact h.2.2.2.2.2.2.2)
theorem L_mw (h : L_A s hx ax hm am o) : ∀ q ∈ m_L hm am, ¬ w_A hx ax o q := fun q hq hw => hw.elim (fun z => h.2.2.2.2.1 q z hq) (fun z => h.2.2.2.1 (by rw [← z]; exact hq))
theorem L_xm (h : L_A s hx ax hm am o) : ∀ q ∈ x_L hx ax, ¬ m_A hm am q := fun q hq hw => h.2.2.2.2.1 q hq hw
theorem L_mx (h : L_A s hx ax hm am o) : ∀ q ∈ m_L hm am, ¬ x_A hx ax q := fun q hq hw => h.2.2.2.2.1 q hw hq
theorem L_ix {i L k : Nat} {x : Int32} (hk : x = nI k) (hi : i + k < L) (hL : L ≤ 2048) : vp_in (nI i + x) L := by
  rw [hk, nI_add]; exact vp_in_nI hi (by omega)
/-- a[i + k], the script's -/
theorem lb_arg {b L i : Nat} {xs : Nat → Int32} {kk : Int} {k : Nat} (hexec : p.tables.exec = Jvm.exec) (hb : c.code = cc) (hX : va_X b L xs s s.heap) (hbl : b < s.heap.size) (hL : L ≤ 2048) (hS : va_S (fun q => s.heap.size ≤ q) s.heap H locs) (h0 : ls[0]? = some (.val (.ref b))) (h4 : ls[4]? = some (.val (.int (nI i)))) (hk : Int32.ofInt kk = nI k) (hi : i + k < L)
    (d1 : decode cc pc = .ok (.aload_n 0, 1)) (d2 : decode cc (pc + 1) = .ok (.iload 4, 2)) (d3 : decode cc (pc + 3) = .ok (.iconst kk, 1)) (d4 : decode cc (pc + 4) = .ok (.iadd, 1)) (d5 : decode cc (pc + 5) = .ok (.iaload, 1))
    (kx : W p l e R s m args below meth c H locs cells slots Q (F0 m (pc + 6) ls (.int (xs (i + k)) :: rest))) : W p l e R s m args below meth c H locs cells slots Q (F0 m pc ls rest) := by
  refine lv_aload_n hexec hb d1 rfl h0 ?_
  refine lv_iload hexec hb d2 h4 ?_
  refine lv_iconst (v := nI k) hexec hb d3 hk ?_
  refine lv_iadd hexec hb d4 ?_
  refine va_sld hexec hb hX hbl (A := fun q => s.heap.size ≤ q) (Nat.not_le.mpr hbl) hS (L_ix rfl hi hL) d5 ?_
  rw [nI_add, nI_clamp (by omega)]
  exact kx
end LB
