/-! ===== the law's arrays: q p r l g a t f d by slots 0 to 8; the longs u ===== -/
def y_L (h0 : Nat) (ad : Nat → Nat) : List Nat := [ad 0, ad 1, ad 2, ad 3, ad 4, ad 5, ad 6, ad 7, ad 8]
def y_A (h0 : Nat) (ad : Nat → Nat) : Nat → Prop := fun q => q ∈ y_L h0 ad
def y_W (tI tZ : ClassId) (h0 : Nat) (ad : Nat → Nat) (σ : ST) : va_W := [(ad 0, .inl (tI, 3, .inl (σ.2 0))), (ad 1, .inl (tI, 28, .inl (σ.2 1))), (ad 2, .inl (tI, 30, .inl (σ.2 2))), (ad 3, .inl (tI, 30, .inl (σ.2 3))), (ad 4, .inl (tI, 30, .inl (σ.2 4))), (ad 5, .inl (tI, 30, .inl (σ.2 5))), (ad 6, .inl (tI, 60, .inl (σ.2 6))), (ad 7, .inl (tI, 30, .inl (σ.2 7))), (ad 8, .inl (tI, 48, .inl (σ.2 8)))]
theorem y_D {A : Nat → Prop} {tI tZ : ClassId} {h0 : Nat} {ad : Nat → Nat} (σ : ST) (hn : (y_L h0 ad).Nodup) (h2 : ∀ q ∈ y_L h0 ad, A q) : va_D A (y_W tI tZ h0 ad σ) := va_D_of hn h2
def y_B (D : va_G) (tI tZ tL : ClassId) (h0 : Nat) (ad : Nat → Nat) (σ : ST) : State → Prop := fun U => va_P D vwCl (y_W tI tZ h0 ad σ) U.heap ∧ va_K D vwCl (kTY tI tZ tL) U
def y_P (D : va_G) (tI tZ : ClassId) (h0 : Nat) (ad : Nat → Nat) (σ : ST) : Heap → Prop := fun H => va_P D vwCl (y_W tI tZ h0 ad σ) H
theorem y_blind {D : va_G} {tI tZ tL : ClassId} {h0 : Nat} {ad : Nat → Nat} {σ : ST} {av : List Value} : FrameBlind (va_Pc av (y_B D tI tZ tL h0 ad σ)) := ty_blind (fun U V h hv q => ⟨by rw [← h]; exact q.1, va_K.moved hv q.2⟩)
def u_W (tL : ClassId) (o : Nat) (υ : Nat → Int64) : va_W := [(o, .inl (tL, 30, .inr (.inl υ)))]
section Ky
variable {p : Program} {l : Launch} {e : Env} {R : Room} {s : State} {m : MethodId} {args : Array Value} {below : List Frame} {meth : Method} {c : Code} {H : Heap} {locs : List Loc} {cells slots : Nat} {Q : State → Prop} {cc : ByteArray} {pc : Nat} {ls : Array Slot} {rest : List Value} {Ts : List Cond} {D : va_G} {tI tZ tL : ClassId} {h0 : Nat} {ad : Nat → Nat} {σ : ST} {A : Nat → Prop} {H0 : Heap} {o : Nat} {υ : Nat → Int64}
theorem y_pre {As : List Value} (hK : va_K D vwCl (kTY tI tZ tL) s) (hP : va_P D vwCl (y_W tI tZ h0 ad σ) H) : PreS s H (va_Pc As (y_B D tI tZ tL h0 ad σ)) As := ⟨y_blind, fun U hU hW => ⟨rfl, by rw [hU]; exact hP, va_K.moved hW.alike hK⟩⟩
theorem yr_q {j : Nat} (hx : p.tables.exec = Jvm.exec) (hb : c.code = cc) (hK : va_K D vwCl (kTY tI tZ tL) s) (hP : va_P D vwCl (y_W tI tZ h0 ad σ) H) (hj : j < 3) (hdg : decode cc pc = .ok (.iaload, 1)) (kk : W p l e R s m args below meth c H locs cells slots Q (F0 m (pc + 1) ls (.int (σ.2 0 j) :: rest))) : W p l e R s m args below meth c H locs cells slots Q (F0 m pc ls (.int (nI j) :: .ref (ad 0) :: rest)) := by
  have hc : (nI j).toNatClampNeg = j := nI_clamp (by omega)
  refine va_iald hx hb hK hP 0 0 rfl rfl (vp_in_nI hj (by decide)) hdg ?_
  rw [hc]; exact kk
theorem yw_q {j : Nat} {v : Int32} (hx : p.tables.exec = Jvm.exec) (hb : c.code = cc) (hK : va_K D vwCl (kTY tI tZ tL) s) (hP : va_P D vwCl (y_W tI tZ h0 ad σ) H) (hD : va_D A (y_W tI tZ h0 ad σ)) (hS : va_S A H0 H locs) (hj : j < 3) (hdg : decode cc pc = .ok (.iastore, 1)) (kk : ∀ (H1 : Heap) (locs1 : List Loc), va_P D vwCl (y_W tI tZ h0 ad (s_put σ 0 j v)) H1 → va_S A H0 H1 locs1 → W p l e R s m args below meth c H1 locs1 cells slots Q (F0 m (pc + 1) ls rest)) : W p l e R s m args below meth c H locs cells slots Q (F0 m pc ls (.int v :: .int (nI j) :: .ref (ad 0) :: rest)) := by
  have hc : (nI j).toNatClampNeg = j := nI_clamp (by omega)
  refine va_iast hx hb hK hP hD hS 0 0 rfl rfl (vp_in_nI hj (by decide)) hdg (fun H1 locs1 hP1 _ hS1 => kk H1 locs1 ?_ hS1)
  rw [hc] at hP1; exact hP1
theorem yr_p {j : Nat} (hx : p.tables.exec = Jvm.exec) (hb : c.code = cc) (hK : va_K D vwCl (kTY tI tZ tL) s) (hP : va_P D vwCl (y_W tI tZ h0 ad σ) H) (hj : j < 28) (hdg : decode cc pc = .ok (.iaload, 1)) (kk : W p l e R s m args below meth c H locs cells slots Q (F0 m (pc + 1) ls (.int (σ.2 1 j) :: rest))) : W p l e R s m args below meth c H locs cells slots Q (F0 m pc ls (.int (nI j) :: .ref (ad 1) :: rest)) := by
  have hc : (nI j).toNatClampNeg = j := nI_clamp (by omega)
  refine va_iald hx hb hK hP 1 0 rfl rfl (vp_in_nI hj (by decide)) hdg ?_
  rw [hc]; exact kk
theorem yw_p {j : Nat} {v : Int32} (hx : p.tables.exec = Jvm.exec) (hb : c.code = cc) (hK : va_K D vwCl (kTY tI tZ tL) s) (hP : va_P D vwCl (y_W tI tZ h0 ad σ) H) (hD : va_D A (y_W tI tZ h0 ad σ)) (hS : va_S A H0 H locs) (hj : j < 28) (hdg : decode cc pc = .ok (.iastore, 1)) (kk : ∀ (H1 : Heap) (locs1 : List Loc), va_P D vwCl (y_W tI tZ h0 ad (s_put σ 1 j v)) H1 → va_S A H0 H1 locs1 → W p l e R s m args below meth c H1 locs1 cells slots Q (F0 m (pc + 1) ls rest)) : W p l e R s m args below meth c H locs cells slots Q (F0 m pc ls (.int v :: .int (nI j) :: .ref (ad 1) :: rest)) := by
  have hc : (nI j).toNatClampNeg = j := nI_clamp (by omega)
  refine va_iast hx hb hK hP hD hS 1 0 rfl rfl (vp_in_nI hj (by decide)) hdg (fun H1 locs1 hP1 _ hS1 => kk H1 locs1 ?_ hS1)
  rw [hc] at hP1; exact hP1
theorem yr_r {j : Nat} (hx : p.tables.exec = Jvm.exec) (hb : c.code = cc) (hK : va_K D vwCl (kTY tI tZ tL) s) (hP : va_P D vwCl (y_W tI tZ h0 ad σ) H) (hj : j < 30) (hdg : decode cc pc = .ok (.iaload, 1)) (kk : W p l e R s m args below meth c H locs cells slots Q (F0 m (pc + 1) ls (.int (σ.2 2 j) :: rest))) : W p l e R s m args below meth c H locs cells slots Q (F0 m pc ls (.int (nI j) :: .ref (ad 2) :: rest)) := by
  have hc : (nI j).toNatClampNeg = j := nI_clamp (by omega)
  refine va_iald hx hb hK hP 2 0 rfl rfl (vp_in_nI hj (by decide)) hdg ?_
  rw [hc]; exact kk
theorem yw_r {j : Nat} {v : Int32} (hx : p.tables.exec = Jvm.exec) (hb : c.code = cc) (hK : va_K D vwCl (kTY tI tZ tL) s) (hP : va_P D vwCl (y_W tI tZ h0 ad σ) H) (hD : va_D A (y_W tI tZ h0 ad σ)) (hS : va_S A H0 H locs) (hj : j < 30) (hdg : decode cc pc = .ok (.iastore, 1)) (kk : ∀ (H1 : Heap) (locs1 : List Loc), va_P D vwCl (y_W tI tZ h0 ad (s_put σ 2 j v)) H1 → va_S A H0 H1 locs1 → W p l e R s m args below meth c H1 locs1 cells slots Q (F0 m (pc + 1) ls rest)) : W p l e R s m args below meth c H locs cells slots Q (F0 m pc ls (.int v :: .int (nI j) :: .ref (ad 2) :: rest)) := by
  have hc : (nI j).toNatClampNeg = j := nI_clamp (by omega)
  refine va_iast hx hb hK hP hD hS 2 0 rfl rfl (vp_in_nI hj (by decide)) hdg (fun H1 locs1 hP1 _ hS1 => kk H1 locs1 ?_ hS1)
  rw [hc] at hP1; exact hP1
theorem yr_l {j : Nat} (hx : p.tables.exec = Jvm.exec) (hb : c.code = cc) (hK : va_K D vwCl (kTY tI tZ tL) s) (hP : va_P D vwCl (y_W tI tZ h0 ad σ) H) (hj : j < 30) (hdg : decode cc pc = .ok (.iaload, 1)) (kk : W p l e R s m args below meth c H locs cells slots Q (F0 m (pc + 1) ls (.int (σ.2 3 j) :: rest))) : W p l e R s m args below meth c H locs cells slots Q (F0 m pc ls (.int (nI j) :: .ref (ad 3) :: rest)) := by
  have hc : (nI j).toNatClampNeg = j := nI_clamp (by omega)
  refine va_iald hx hb hK hP 3 0 rfl rfl (vp_in_nI hj (by decide)) hdg ?_
  rw [hc]; exact kk
theorem yw_l {j : Nat} {v : Int32} (hx : p.tables.exec = Jvm.exec) (hb : c.code = cc) (hK : va_K D vwCl (kTY tI tZ tL) s) (hP : va_P D vwCl (y_W tI tZ h0 ad σ) H) (hD : va_D A (y_W tI tZ h0 ad σ)) (hS : va_S A H0 H locs) (hj : j < 30) (hdg : decode cc pc = .ok (.iastore, 1)) (kk : ∀ (H1 : Heap) (locs1 : List Loc), va_P D vwCl (y_W tI tZ h0 ad (s_put σ 3 j v)) H1 → va_S A H0 H1 locs1 → W p l e R s m args below meth c H1 locs1 cells slots Q (F0 m (pc + 1) ls rest)) : W p l e R s m args below meth c H locs cells slots Q (F0 m pc ls (.int v :: .int (nI j) :: .ref (ad 3) :: rest)) := by
  have hc : (nI j).toNatClampNeg = j := nI_clamp (by omega)
  refine va_iast hx hb hK hP hD hS 3 0 rfl rfl (vp_in_nI hj (by decide)) hdg (fun H1 locs1 hP1 _ hS1 => kk H1 locs1 ?_ hS1)
  rw [hc] at hP1; exact hP1
theorem yr_g {j : Nat} (hx : p.tables.exec = Jvm.exec) (hb : c.code = cc) (hK : va_K D vwCl (kTY tI tZ tL) s) (hP : va_P D vwCl (y_W tI tZ h0 ad σ) H) (hj : j < 30) (hdg : decode cc pc = .ok (.iaload, 1)) (kk : W p l e R s m args below meth c H locs cells slots Q (F0 m (pc + 1) ls (.int (σ.2 4 j) :: rest))) : W p l e R s m args below meth c H locs cells slots Q (F0 m pc ls (.int (nI j) :: .ref (ad 4) :: rest)) := by
  have hc : (nI j).toNatClampNeg = j := nI_clamp (by omega)
  refine va_iald hx hb hK hP 4 0 rfl rfl (vp_in_nI hj (by decide)) hdg ?_
  rw [hc]; exact kk
theorem yw_g {j : Nat} {v : Int32} (hx : p.tables.exec = Jvm.exec) (hb : c.code = cc) (hK : va_K D vwCl (kTY tI tZ tL) s) (hP : va_P D vwCl (y_W tI tZ h0 ad σ) H) (hD : va_D A (y_W tI tZ h0 ad σ)) (hS : va_S A H0 H locs) (hj : j < 30) (hdg : decode cc pc = .ok (.iastore, 1)) (kk : ∀ (H1 : Heap) (locs1 : List Loc), va_P D vwCl (y_W tI tZ h0 ad (s_put σ 4 j v)) H1 → va_S A H0 H1 locs1 → W p l e R s m args below meth c H1 locs1 cells slots Q (F0 m (pc + 1) ls rest)) : W p l e R s m args below meth c H locs cells slots Q (F0 m pc ls (.int v :: .int (nI j) :: .ref (ad 4) :: rest)) := by
  have hc : (nI j).toNatClampNeg = j := nI_clamp (by omega)
  refine va_iast hx hb hK hP hD hS 4 0 rfl rfl (vp_in_nI hj (by decide)) hdg (fun H1 locs1 hP1 _ hS1 => kk H1 locs1 ?_ hS1)
  rw [hc] at hP1; exact hP1
theorem yr_a {j : Nat} (hx : p.tables.exec = Jvm.exec) (hb : c.code = cc) (hK : va_K D vwCl (kTY tI tZ tL) s) (hP : va_P D vwCl (y_W tI tZ h0 ad σ) H) (hj : j < 30) (hdg : decode cc pc = .ok (.iaload, 1)) (kk : W p l e R s m args below meth c H locs cells slots Q (F0 m (pc + 1) ls (.int (σ.2 5 j) :: rest))) : W p l e R s m args below meth c H locs cells slots Q (F0 m pc ls (.int (nI j) :: .ref (ad 5) :: rest)) := by
  have hc : (nI j).toNatClampNeg = j := nI_clamp (by omega)
  refine va_iald hx hb hK hP 5 0 rfl rfl (vp_in_nI hj (by decide)) hdg ?_
  rw [hc]; exact kk
theorem yw_a {j : Nat} {v : Int32} (hx : p.tables.exec = Jvm.exec) (hb : c.code = cc) (hK : va_K D vwCl (kTY tI tZ tL) s) (hP : va_P D vwCl (y_W tI tZ h0 ad σ) H) (hD : va_D A (y_W tI tZ h0 ad σ)) (hS : va_S A H0 H locs) (hj : j < 30) (hdg : decode cc pc = .ok (.iastore, 1)) (kk : ∀ (H1 : Heap) (locs1 : List Loc), va_P D vwCl (y_W tI tZ h0 ad (s_put σ 5 j v)) H1 → va_S A H0 H1 locs1 → W p l e R s m args below meth c H1 locs1 cells slots Q (F0 m (pc + 1) ls rest)) : W p l e R s m args below meth c H locs cells slots Q (F0 m pc ls (.int v :: .int (nI j) :: .ref (ad 5) :: rest)) := by
  have hc : (nI j).toNatClampNeg = j := nI_clamp (by omega)
  refine va_iast hx hb hK hP hD hS 5 0 rfl rfl (vp_in_nI hj (by decide)) hdg (fun H1 locs1 hP1 _ hS1 => kk H1 locs1 ?_ hS1)
  rw [hc] at hP1; exact hP1
theorem yr_t {j : Nat} (hx : p.tables.exec = Jvm.exec) (hb : c.code = cc) (hK : va_K D vwCl (kTY tI tZ tL) s) (hP : va_P D vwCl (y_W tI tZ h0 ad σ) H) (hj : j < 60) (hdg : decode cc pc = .ok (.iaload, 1)) (kk : W p l e R s m args below meth c H locs cells slots Q (F0 m (pc + 1) ls (.int (σ.2 6 j) :: rest))) : W p l e R s m args below meth c H locs cells slots Q (F0 m pc ls (.int (nI j) :: .ref (ad 6) :: rest)) := by
  have hc : (nI j).toNatClampNeg = j := nI_clamp (by omega)
  refine va_iald hx hb hK hP 6 0 rfl rfl (vp_in_nI hj (by decide)) hdg ?_
  rw [hc]; exact kk
theorem yw_t {j : Nat} {v : Int32} (hx : p.tables.exec = Jvm.exec) (hb : c.code = cc) (hK : va_K D vwCl (kTY tI tZ tL) s) (hP : va_P D vwCl (y_W tI tZ h0 ad σ) H) (hD : va_D A (y_W tI tZ h0 ad σ)) (hS : va_S A H0 H locs) (hj : j < 60) (hdg : decode cc pc = .ok (.iastore, 1)) (kk : ∀ (H1 : Heap) (locs1 : List Loc), va_P D vwCl (y_W tI tZ h0 ad (s_put σ 6 j v)) H1 → va_S A H0 H1 locs1 → W p l e R s m args below meth c H1 locs1 cells slots Q (F0 m (pc + 1) ls rest)) : W p l e R s m args below meth c H locs cells slots Q (F0 m pc ls (.int v :: .int (nI j) :: .ref (ad 6) :: rest)) := by
  have hc : (nI j).toNatClampNeg = j := nI_clamp (by omega)
  refine va_iast hx hb hK hP hD hS 6 0 rfl rfl (vp_in_nI hj (by decide)) hdg (fun H1 locs1 hP1 _ hS1 => kk H1 locs1 ?_ hS1)
  rw [hc] at hP1; exact hP1
theorem yr_f {j : Nat} (hx : p.tables.exec = Jvm.exec) (hb : c.code = cc) (hK : va_K D vwCl (kTY tI tZ tL) s) (hP : va_P D vwCl (y_W tI tZ h0 ad σ) H) (hj : j < 30) (hdg : decode cc pc = .ok (.iaload, 1)) (kk : W p l e R s m args below meth c H locs cells slots Q (F0 m (pc + 1) ls (.int (σ.2 7 j) :: rest))) : W p l e R s m args below meth c H locs cells slots Q (F0 m pc ls (.int (nI j) :: .ref (ad 7) :: rest)) := by
  have hc : (nI j).toNatClampNeg = j := nI_clamp (by omega)
  refine va_iald hx hb hK hP 7 0 rfl rfl (vp_in_nI hj (by decide)) hdg ?_
  rw [hc]; exact kk
theorem yw_f {j : Nat} {v : Int32} (hx : p.tables.exec = Jvm.exec) (hb : c.code = cc) (hK : va_K D vwCl (kTY tI tZ tL) s) (hP : va_P D vwCl (y_W tI tZ h0 ad σ) H) (hD : va_D A (y_W tI tZ h0 ad σ)) (hS : va_S A H0 H locs) (hj : j < 30) (hdg : decode cc pc = .ok (.iastore, 1)) (kk : ∀ (H1 : Heap) (locs1 : List Loc), va_P D vwCl (y_W tI tZ h0 ad (s_put σ 7 j v)) H1 → va_S A H0 H1 locs1 → W p l e R s m args below meth c H1 locs1 cells slots Q (F0 m (pc + 1) ls rest)) : W p l e R s m args below meth c H locs cells slots Q (F0 m pc ls (.int v :: .int (nI j) :: .ref (ad 7) :: rest)) := by
  have hc : (nI j).toNatClampNeg = j := nI_clamp (by omega)
  refine va_iast hx hb hK hP hD hS 7 0 rfl rfl (vp_in_nI hj (by decide)) hdg (fun H1 locs1 hP1 _ hS1 => kk H1 locs1 ?_ hS1)
  rw [hc] at hP1; exact hP1
theorem yr_d {j : Nat} (hx : p.tables.exec = Jvm.exec) (hb : c.code = cc) (hK : va_K D vwCl (kTY tI tZ tL) s) (hP : va_P D vwCl (y_W tI tZ h0 ad σ) H) (hj : j < 48) (hdg : decode cc pc = .ok (.iaload, 1)) (kk : W p l e R s m args below meth c H locs cells slots Q (F0 m (pc + 1) ls (.int (σ.2 8 j) :: rest))) : W p l e R s m args below meth c H locs cells slots Q (F0 m pc ls (.int (nI j) :: .ref (ad 8) :: rest)) := by
  have hc : (nI j).toNatClampNeg = j := nI_clamp (by omega)
  refine va_iald hx hb hK hP 8 0 rfl rfl (vp_in_nI hj (by decide)) hdg ?_
  rw [hc]; exact kk
theorem yw_d {j : Nat} {v : Int32} (hx : p.tables.exec = Jvm.exec) (hb : c.code = cc) (hK : va_K D vwCl (kTY tI tZ tL) s) (hP : va_P D vwCl (y_W tI tZ h0 ad σ) H) (hD : va_D A (y_W tI tZ h0 ad σ)) (hS : va_S A H0 H locs) (hj : j < 48) (hdg : decode cc pc = .ok (.iastore, 1)) (kk : ∀ (H1 : Heap) (locs1 : List Loc), va_P D vwCl (y_W tI tZ h0 ad (s_put σ 8 j v)) H1 → va_S A H0 H1 locs1 → W p l e R s m args below meth c H1 locs1 cells slots Q (F0 m (pc + 1) ls rest)) : W p l e R s m args below meth c H locs cells slots Q (F0 m pc ls (.int v :: .int (nI j) :: .ref (ad 8) :: rest)) := by
  have hc : (nI j).toNatClampNeg = j := nI_clamp (by omega)
  refine va_iast hx hb hK hP hD hS 8 0 rfl rfl (vp_in_nI hj (by decide)) hdg (fun H1 locs1 hP1 _ hS1 => kk H1 locs1 ?_ hS1)
  rw [hc] at hP1; exact hP1
theorem ur_u {j : Nat} (hx : p.tables.exec = Jvm.exec) (hb : c.code = cc) (hK : va_K D vwCl (kTY tI tZ tL) s) (hPu : va_P D vwCl (u_W tL o υ) H) (hj : j < 30) (hdg : decode cc pc = .ok (.laload, 1)) (kk : W p l e R s m args below meth c H locs cells slots Q (F0 m (pc + 1) ls (.long (υ j) :: rest))) : W p l e R s m args below meth c H locs cells slots Q (F0 m pc ls (.int (nI j) :: .ref o :: rest)) := by
  have hc : (nI j).toNatClampNeg = j := nI_clamp (by omega)
  refine va_lald hx hb hK hPu 0 1 rfl rfl (vp_in_nI hj (by decide)) hdg ?_
  rw [hc]; exact kk
end Ky

