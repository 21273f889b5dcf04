/-! ===== the class, the law's rows and the longs beside each other ===== -/
theorem lv_cl {i : Nat} {a b : Int64} {L L' : List (Nat × Value)} (h : a = b) (t : L = L') : (i, Value.long a) :: L = (i, Value.long b) :: L' := by rw [h, t]
def i_B (D : va_G) (tI tZ tL : ClassId) (xo : Nat) (ax : Nat → Nat) (σ : ST) (ay : Nat → Nat) (τ : ST) (uo : Nat) (υ : Nat → Int64) : State → Prop := fun U => va_P D vwCl (x_W tI tZ xo ax σ) U.heap ∧ va_P D vwCl (y_W tI tZ 0 ay τ) U.heap ∧ va_P D vwCl (u_W tL uo υ) U.heap ∧ va_K D vwCl (kTY tI tZ tL) U
section KI
variable {p : Program} {l : Launch} {e : Env} {R : Room} {s : State} {m : MethodId} {args : Array Value} {below : List Frame} {meth : Method} {c : Code} {H : Heap} {locs : List Loc} {cells slots : Nat} {Q : State → Prop} {cc : ByteArray} {pc : Nat} {ls : Array Slot} {rest : List Value} {D : va_G} {tI tZ tL : ClassId} {xo uo : Nat} {ax ay : Nat → Nat} {σ τ : ST} {υ : Nat → Int64}
theorem i_blind {av : List Value} : FrameBlind (va_Pc av (i_B D tI tZ tL xo ax σ ay τ uo υ)) := ty_blind (fun U V h hv q => ⟨by rw [← h]; exact q.1, by rw [← h]; exact q.2.1, by rw [← h]; exact q.2.2.1, va_K.moved hv q.2.2.2⟩)
theorem i_pre {As : List Value} (hK : va_K D vwCl (kTY tI tZ tL) s) (hPx : va_P D vwCl (x_W tI tZ xo ax σ) H) (hPy : va_P D vwCl (y_W tI tZ 0 ay τ) H) (hPu : va_P D vwCl (u_W tL uo υ) H) : PreS s H (va_Pc As (i_B D tI tZ tL xo ax σ ay τ uo υ)) As := ⟨i_blind, fun U hU hW => ⟨rfl, by rw [hU]; exact hPx, by rw [hU]; exact hPy, by rw [hU]; exact hPu, va_K.moved hW.alike hK⟩⟩
theorem lb_lcmp {x y : Int64} (h : x = y) (hexec : p.tables.exec = Jvm.exec) (hb : c.code = cc) (hdg : decode cc pc = .ok (.lcmp, 1))
    (k : W p l e R s m args below meth c H locs cells slots Q (F0 m (pc + 1) ls (.int 0 :: rest))) : W p l e R s m args below meth c H locs cells slots Q (F0 m pc ls (.long y :: .long x :: rest)) := by
  subst h
  intro T hT X
  obtain ⟨t, a, b⟩ := k T hT X
  refine ⟨t, ?_, b⟩
  have e1 : ¬ x > x := Int64.lt_irrefl
  jvm_step X.here [X.here.top, hexec, hb, hdg, e1]
  exact a
end KI
