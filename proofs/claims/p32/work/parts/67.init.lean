/-! ===== the constructors ===== -/
def s0 : ST := (fun _ => 0, fun _ _ => 0)
theorem k_arr {s : State} {args : Array Value} {ty : FieldType} (h : (Cond.arrayClass ty).before args s = true) : ∃ cA : ClassId, ArrOfT s cA ty ∧ s.vm.findClass ("[" ++ ty.toString) = some cA := by
  obtain ⟨c, k, comp, h1, h2, h3⟩ := Cond.arrayClass_spec h
  exact ⟨c, fun n z => ⟨fun k h => (by cases h), k, h2, comp, h3⟩, h1⟩
theorem ka_int {D : va_G} {cl : List vw_C} {tI tZ tL cA : ClassId} {s : State} (h : va_K D cl (kTY tI tZ tL ++ [(cA, .int)]) s) : cA = tI := by
  have h1 : s.vm.findClass ("[" ++ FieldType.int.toString) = some tI := (h.2 0 (tI, .int) rfl).2
  have h2 : s.vm.findClass ("[" ++ FieldType.int.toString) = some cA := (h.2 2 (cA, .int) rfl).2
  exact Option.some.inj (h2.symm.trans h1)
theorem ka_long {D : va_G} {cl : List vw_C} {tI tZ tL cA : ClassId} {s : State} (h : va_K D cl (kTY tI tZ tL ++ [(cA, .long)]) s) : cA = tL := by
  have h1 : s.vm.findClass ("[" ++ FieldType.long.toString) = some tL := (h.2 1 (tL, .long) rfl).2
  have h2 : s.vm.findClass ("[" ++ FieldType.long.toString) = some cA := (h.2 2 (cA, .long) rfl).2
  exact Option.some.inj (h2.symm.trans h1)
theorem nodup_of_D {A : Nat → Prop} {ws : va_W} (h : va_D A ws) : (ws.map (fun q => q.1)).Nodup := by
  refine List.pairwise_iff_getElem.mpr (fun i j hi hj hij e => ?_)
  have h1 : (ws.map (fun q => q.1))[i]? = some (ws.map (fun q => q.1))[i] := List.getElem?_eq_getElem hi
  have h2 : (ws.map (fun q => q.1))[j]? = some (ws.map (fun q => q.1))[j] := List.getElem?_eq_getElem hj
  rw [List.getElem?_map] at h1 h2
  cases h3 : ws[i]? with
  | none => rw [h3] at h1; cases h1
  | some p =>
    cases h4 : ws[j]? with
    | none => rw [h4] at h2; cases h2
    | some q =>
      rw [h3] at h1; rw [h4] at h2
      have e1 : p.1 = _ := Option.some.inj h1
      have e2 : q.1 = _ := Option.some.inj h2
      have := h.1 i j p q h3 h4 (by rw [e1, e2]; exact e)
      omega
theorem all_of_D {A : Nat → Prop} {ws : va_W} (h : va_D A ws) : ∀ q ∈ ws.map (fun q => q.1), A q := by
  intro q hq
  obtain ⟨x, hx, rfl⟩ := List.mem_map.mp hq
  obtain ⟨k, hk⟩ := List.getElem?_of_mem hx
  exact h.2 k x hk
def x_F0 : List Value := [.int 0, .int 0, .null, .int 0, .null, .null, .int 0, .null, .null, .null, .null, .null, .int 0, .int 0, .int 0, .null]
set_option maxHeartbeats 4000000 in
set_option maxRecDepth 100000 in
theorem c_X0_init (l : Launch) (D : va_G) (tI tZ tL : ClassId) (h0 sz : Nat) : Met l yX0_init wsX0_init ({ frames := 1, cells := 9, slots := 482, locals := 40 } : Room) (va_Pc ([.ref h0] : List Value) (fun U => U.heap.size = sz ∧ va_P D vwCl [(h0, .inr (0, x_F0))] U.heap ∧ va_K D vwCl (kTY tI tZ tL) U)) (u_Q none (fun H => ∃ ad : Nat → Nat, va_P D vwCl (x_W tI tZ h0 ad s0) H ∧ (x_L h0 ad).Nodup ∧ ∀ q ∈ x_L h0 ad, q = h0 ∨ sz ≤ q) (fun q => q = h0 ∨ sz ≤ q)) 9 482 (fun q => q = h0 ∨ sz ≤ q) := by
  refine Met.ofW (cc := cX0_init) (maxL := 1) (ret := none) (by decide) rfl ?_
  intro p e s m args below meth c s₁ B hml hv
  obtain ⟨rfl, hsz, hP, hK⟩ := hv
  have hx := B.exec
  have hb := B.bytes
  have hr := B.returns
  have hts := atoms_spec (ws := wsX0_init) B.pre
  have hown : s.vm.findClass RX0 = some m.cls := findClass_of_methodNamed B.named
  have hlocks := B.notSynchronized
  have hini : meth.name = "<init>" := (name_of_methodNamed B.named B.method).1
  have hin : ∀ w ∈ wsX00, w ∈ wsX0_init := in_X0_init
  have hD : va_D (fun q => q = h0 ∨ sz ≤ q) [(h0, .inr (0, x_F0))] := va_D_of (by simp) (fun q h => by simp at h; exact Or.inl h)
  generalize hAe : (fun q => q = h0 ∨ sz ≤ q) = A at hD ⊢
  have hA : ∀ q : Nat, s.heap.size ≤ q → A q := fun q h => by rw [← hAe]; exact Or.inr (by rw [← hsz]; exact h)
  have hS : va_S A s.heap s.heap [] := va_S.rf
  have hl := lv_entry ([.ref h0]) (n := 1) (Nat.le_of_ble_eq_true rfl)
  rw [lg_entry_eq]
  generalize (lg_sl ([.ref h0]) ++ List.replicate (1 - (lg_sl ([.ref h0])).length) Slot.unset).toArray = ls at hl ⊢
  have hl : lv_has ls 1 [(0, .ref h0)] := hl
  have hP : va_P D vwCl [(h0, .inr (0, [.int 0, .int 0, .null, .int 0, .null, .null, .int 0, .null, .null, .null, .null, .null, .int 0, .int 0, .int 0, .null]))] s.heap := hP
  have hD : va_D A [(h0, .inr (0, [.int 0, .int 0, .null, .int 0, .null, .null, .int 0, .null, .null, .null, .null, .null, .int 0, .int 0, .int 0, .null]))] := hD
  refine lv_aload_n hx hb dX0_init_0 rfl (lv_at hl 0 rfl) ?_
  refine W.objInit hx hb hown (hts (.methodLink RX0 1 objectInit) (by decide +kernel)) (hts (.instanceMethod objectInit) (by decide +kernel)) (hts (.code objectInit ⟨#[0xb1]⟩ 1 none) (by decide +kernel)) rfl (by rw [hml]; exact hl.1) rfl dX0_init_1 (Nat.le_of_ble_eq_true rfl) (Nat.le_of_ble_eq_true rfl) ?_
  refine W.eq (g2 := F0 m 4 ls []) rfl ?_
  refine lv_aload_n hx hb dX0_init_4 rfl (lv_at hl 0 rfl) ?_
  refine lv_bipush (v := 8) hx hb dX0_init_5 (by decide) ?_
  refine va_newa (atype := .int) (a0 := (8, .inl (fun _ => 0))) hx hb (hts (.arrayClass .int) (by decide +kernel)) rfl hK hP hD hS hA (fun _ => rfl) (by decide) (by decide) (Nat.le_of_ble_eq_true rfl) (Nat.le_of_ble_eq_true rfl) (Nat.le_of_ble_eq_true rfl) dX0_init_7 (fun q0 cA H hK2 hP hD hS => ?_)
  have eA := ka_int hK2
  rw [eA] at hP hD
  have hP : va_P D vwCl [(h0, .inr (0, [.int 0, .int 0, .null, .int 0, .null, .null, .int 0, .null, .null, .null, .null, .null, .int 0, .int 0, .int 0, .null])), (q0, .inl (tI, 8, .inl (fun _ => 0)))] H := hP
  have hD : va_D A [(h0, .inr (0, [.int 0, .int 0, .null, .int 0, .null, .null, .int 0, .null, .null, .null, .null, .null, .int 0, .int 0, .int 0, .null])), (q0, .inl (tI, 8, .inl (fun _ => 0)))] := hD
  refine va_putF (D := D) (ci := 0) (v := .ref q0) (ty := .array .int) (C := RX0) (T := TX0) (N := 16) hx hb hts hin tyX0 tyX0_ok nmX0 hown hK hP hD hS 0 rfl rfl 2 (by decide) (hts xl_retentionOfPurpose (by decide +kernel)) (fun _ h9 => h9) rfl hini rfl (by decide +kernel) rfl rfl (Nat.le_of_ble_eq_true rfl) dX0_init_9 (fun H locs hP hD hS => ?_)
  have hP : va_P D vwCl [(h0, .inr (0, [.int 0, .int 0, .ref q0, .int 0, .null, .null, .int 0, .null, .null, .null, .null, .null, .int 0, .int 0, .int 0, .null])), (q0, .inl (tI, 8, .inl (fun _ => 0)))] H := hP
  have hD : va_D A [(h0, .inr (0, [.int 0, .int 0, .ref q0, .int 0, .null, .null, .int 0, .null, .null, .null, .null, .null, .int 0, .int 0, .int 0, .null])), (q0, .inl (tI, 8, .inl (fun _ => 0)))] := hD
  refine lv_aload_n hx hb dX0_init_12 rfl (lv_at hl 0 rfl) ?_
  refine lv_bipush (v := 12) hx hb dX0_init_13 (by decide) ?_
  refine va_newa (atype := .int) (a0 := (12, .inl (fun _ => 0))) hx hb (hts (.arrayClass .int) (by decide +kernel)) rfl hK hP hD hS hA (fun _ => rfl) (by decide) (by decide) (Nat.le_of_ble_eq_true rfl) (Nat.le_of_ble_eq_true rfl) (Nat.le_of_ble_eq_true rfl) dX0_init_15 (fun q1 cA H hK2 hP hD hS => ?_)
  have eA := ka_int hK2
  rw [eA] at hP hD
  have hP : va_P D vwCl [(h0, .inr (0, [.int 0, .int 0, .ref q0, .int 0, .null, .null, .int 0, .null, .null, .null, .null, .null, .int 0, .int 0, .int 0, .null])), (q0, .inl (tI, 8, .inl (fun _ => 0))), (q1, .inl (tI, 12, .inl (fun _ => 0)))] H := hP
  have hD : va_D A [(h0, .inr (0, [.int 0, .int 0, .ref q0, .int 0, .null, .null, .int 0, .null, .null, .null, .null, .null, .int 0, .int 0, .int 0, .null])), (q0, .inl (tI, 8, .inl (fun _ => 0))), (q1, .inl (tI, 12, .inl (fun _ => 0)))] := hD
  refine va_putF (D := D) (ci := 0) (v := .ref q1) (ty := .array .int) (C := RX0) (T := TX0) (N := 16) hx hb hts hin tyX0 tyX0_ok nmX0 hown hK hP hD hS 0 rfl rfl 4 (by decide) (hts xl_consentsOfSubject (by decide +kernel)) (fun _ h9 => h9) rfl hini rfl (by decide +kernel) rfl rfl (Nat.le_of_ble_eq_true rfl) dX0_init_17 (fun H locs hP hD hS => ?_)
  have hP : va_P D vwCl [(h0, .inr (0, [.int 0, .int 0, .ref q0, .int 0, .ref q1, .null, .int 0, .null, .null, .null, .null, .null, .int 0, .int 0, .int 0, .null])), (q0, .inl (tI, 8, .inl (fun _ => 0))), (q1, .inl (tI, 12, .inl (fun _ => 0)))] H := hP
  have hD : va_D A [(h0, .inr (0, [.int 0, .int 0, .ref q0, .int 0, .ref q1, .null, .int 0, .null, .null, .null, .null, .null, .int 0, .int 0, .int 0, .null])), (q0, .inl (tI, 8, .inl (fun _ => 0))), (q1, .inl (tI, 12, .inl (fun _ => 0)))] := hD
  refine lv_aload_n hx hb dX0_init_20 rfl (lv_at hl 0 rfl) ?_
  refine lv_bipush (v := 96) hx hb dX0_init_21 (by decide) ?_
  refine va_newa (atype := .int) (a0 := (96, .inl (fun _ => 0))) hx hb (hts (.arrayClass .int) (by decide +kernel)) rfl hK hP hD hS hA (fun _ => rfl) (by decide) (by decide) (Nat.le_of_ble_eq_true rfl) (Nat.le_of_ble_eq_true rfl) (Nat.le_of_ble_eq_true rfl) dX0_init_23 (fun q2 cA H hK2 hP hD hS => ?_)
  have eA := ka_int hK2
  rw [eA] at hP hD
  have hP : va_P D vwCl [(h0, .inr (0, [.int 0, .int 0, .ref q0, .int 0, .ref q1, .null, .int 0, .null, .null, .null, .null, .null, .int 0, .int 0, .int 0, .null])), (q0, .inl (tI, 8, .inl (fun _ => 0))), (q1, .inl (tI, 12, .inl (fun _ => 0))), (q2, .inl (tI, 96, .inl (fun _ => 0)))] H := hP
  have hD : va_D A [(h0, .inr (0, [.int 0, .int 0, .ref q0, .int 0, .ref q1, .null, .int 0, .null, .null, .null, .null, .null, .int 0, .int 0, .int 0, .null])), (q0, .inl (tI, 8, .inl (fun _ => 0))), (q1, .inl (tI, 12, .inl (fun _ => 0))), (q2, .inl (tI, 96, .inl (fun _ => 0)))] := hD
  refine va_putF (D := D) (ci := 0) (v := .ref q2) (ty := .array .int) (C := RX0) (T := TX0) (N := 16) hx hb hts hin tyX0 tyX0_ok nmX0 hown hK hP hD hS 0 rfl rfl 5 (by decide) (hts xl_consentDays (by decide +kernel)) (fun _ h9 => h9) rfl hini rfl (by decide +kernel) rfl rfl (Nat.le_of_ble_eq_true rfl) dX0_init_25 (fun H locs hP hD hS => ?_)
  have hP : va_P D vwCl [(h0, .inr (0, [.int 0, .int 0, .ref q0, .int 0, .ref q1, .ref q2, .int 0, .null, .null, .null, .null, .null, .int 0, .int 0, .int 0, .null])), (q0, .inl (tI, 8, .inl (fun _ => 0))), (q1, .inl (tI, 12, .inl (fun _ => 0))), (q2, .inl (tI, 96, .inl (fun _ => 0)))] H := hP
  have hD : va_D A [(h0, .inr (0, [.int 0, .int 0, .ref q0, .int 0, .ref q1, .ref q2, .int 0, .null, .null, .null, .null, .null, .int 0, .int 0, .int 0, .null])), (q0, .inl (tI, 8, .inl (fun _ => 0))), (q1, .inl (tI, 12, .inl (fun _ => 0))), (q2, .inl (tI, 96, .inl (fun _ => 0)))] := hD
  refine lv_aload_n hx hb dX0_init_28 rfl (lv_at hl 0 rfl) ?_
  refine lv_bipush (v := 30) hx hb dX0_init_29 (by decide) ?_
  refine va_newa (atype := .int) (a0 := (30, .inl (fun _ => 0))) hx hb (hts (.arrayClass .int) (by decide +kernel)) rfl hK hP hD hS hA (fun _ => rfl) (by decide) (by decide) (Nat.le_of_ble_eq_true rfl) (Nat.le_of_ble_eq_true rfl) (Nat.le_of_ble_eq_true rfl) dX0_init_31 (fun q3 cA H hK2 hP hD hS => ?_)
  have eA := ka_int hK2
  rw [eA] at hP hD
  have hP : va_P D vwCl [(h0, .inr (0, [.int 0, .int 0, .ref q0, .int 0, .ref q1, .ref q2, .int 0, .null, .null, .null, .null, .null, .int 0, .int 0, .int 0, .null])), (q0, .inl (tI, 8, .inl (fun _ => 0))), (q1, .inl (tI, 12, .inl (fun _ => 0))), (q2, .inl (tI, 96, .inl (fun _ => 0))), (q3, .inl (tI, 30, .inl (fun _ => 0)))] H := hP
  have hD : va_D A [(h0, .inr (0, [.int 0, .int 0, .ref q0, .int 0, .ref q1, .ref q2, .int 0, .null, .null, .null, .null, .null, .int 0, .int 0, .int 0, .null])), (q0, .inl (tI, 8, .inl (fun _ => 0))), (q1, .inl (tI, 12, .inl (fun _ => 0))), (q2, .inl (tI, 96, .inl (fun _ => 0))), (q3, .inl (tI, 30, .inl (fun _ => 0)))] := hD
  refine va_putF (D := D) (ci := 0) (v := .ref q3) (ty := .array .int) (C := RX0) (T := TX0) (N := 16) hx hb hts hin tyX0 tyX0_ok nmX0 hown hK hP hD hS 0 rfl rfl 7 (by decide) (hts xl_dayAdded (by decide +kernel)) (fun _ h9 => h9) rfl hini rfl (by decide +kernel) rfl rfl (Nat.le_of_ble_eq_true rfl) dX0_init_33 (fun H locs hP hD hS => ?_)
  have hP : va_P D vwCl [(h0, .inr (0, [.int 0, .int 0, .ref q0, .int 0, .ref q1, .ref q2, .int 0, .ref q3, .null, .null, .null, .null, .int 0, .int 0, .int 0, .null])), (q0, .inl (tI, 8, .inl (fun _ => 0))), (q1, .inl (tI, 12, .inl (fun _ => 0))), (q2, .inl (tI, 96, .inl (fun _ => 0))), (q3, .inl (tI, 30, .inl (fun _ => 0)))] H := hP
  have hD : va_D A [(h0, .inr (0, [.int 0, .int 0, .ref q0, .int 0, .ref q1, .ref q2, .int 0, .ref q3, .null, .null, .null, .null, .int 0, .int 0, .int 0, .null])), (q0, .inl (tI, 8, .inl (fun _ => 0))), (q1, .inl (tI, 12, .inl (fun _ => 0))), (q2, .inl (tI, 96, .inl (fun _ => 0))), (q3, .inl (tI, 30, .inl (fun _ => 0)))] := hD
  refine lv_aload_n hx hb dX0_init_36 rfl (lv_at hl 0 rfl) ?_
  refine lv_bipush (v := 30) hx hb dX0_init_37 (by decide) ?_
  refine va_newa (atype := .int) (a0 := (30, .inl (fun _ => 0))) hx hb (hts (.arrayClass .int) (by decide +kernel)) rfl hK hP hD hS hA (fun _ => rfl) (by decide) (by decide) (Nat.le_of_ble_eq_true rfl) (Nat.le_of_ble_eq_true rfl) (Nat.le_of_ble_eq_true rfl) dX0_init_39 (fun q4 cA H hK2 hP hD hS => ?_)
  have eA := ka_int hK2
  rw [eA] at hP hD
  have hP : va_P D vwCl [(h0, .inr (0, [.int 0, .int 0, .ref q0, .int 0, .ref q1, .ref q2, .int 0, .ref q3, .null, .null, .null, .null, .int 0, .int 0, .int 0, .null])), (q0, .inl (tI, 8, .inl (fun _ => 0))), (q1, .inl (tI, 12, .inl (fun _ => 0))), (q2, .inl (tI, 96, .inl (fun _ => 0))), (q3, .inl (tI, 30, .inl (fun _ => 0))), (q4, .inl (tI, 30, .inl (fun _ => 0)))] H := hP
  have hD : va_D A [(h0, .inr (0, [.int 0, .int 0, .ref q0, .int 0, .ref q1, .ref q2, .int 0, .ref q3, .null, .null, .null, .null, .int 0, .int 0, .int 0, .null])), (q0, .inl (tI, 8, .inl (fun _ => 0))), (q1, .inl (tI, 12, .inl (fun _ => 0))), (q2, .inl (tI, 96, .inl (fun _ => 0))), (q3, .inl (tI, 30, .inl (fun _ => 0))), (q4, .inl (tI, 30, .inl (fun _ => 0)))] := hD
  refine va_putF (D := D) (ci := 0) (v := .ref q4) (ty := .array .int) (C := RX0) (T := TX0) (N := 16) hx hb hts hin tyX0 tyX0_ok nmX0 hown hK hP hD hS 0 rfl rfl 8 (by decide) (hts xl_purposesOfRecord (by decide +kernel)) (fun _ h9 => h9) rfl hini rfl (by decide +kernel) rfl rfl (Nat.le_of_ble_eq_true rfl) dX0_init_41 (fun H locs hP hD hS => ?_)
  have hP : va_P D vwCl [(h0, .inr (0, [.int 0, .int 0, .ref q0, .int 0, .ref q1, .ref q2, .int 0, .ref q3, .ref q4, .null, .null, .null, .int 0, .int 0, .int 0, .null])), (q0, .inl (tI, 8, .inl (fun _ => 0))), (q1, .inl (tI, 12, .inl (fun _ => 0))), (q2, .inl (tI, 96, .inl (fun _ => 0))), (q3, .inl (tI, 30, .inl (fun _ => 0))), (q4, .inl (tI, 30, .inl (fun _ => 0)))] H := hP
  have hD : va_D A [(h0, .inr (0, [.int 0, .int 0, .ref q0, .int 0, .ref q1, .ref q2, .int 0, .ref q3, .ref q4, .null, .null, .null, .int 0, .int 0, .int 0, .null])), (q0, .inl (tI, 8, .inl (fun _ => 0))), (q1, .inl (tI, 12, .inl (fun _ => 0))), (q2, .inl (tI, 96, .inl (fun _ => 0))), (q3, .inl (tI, 30, .inl (fun _ => 0))), (q4, .inl (tI, 30, .inl (fun _ => 0)))] := hD
  refine lv_aload_n hx hb dX0_init_44 rfl (lv_at hl 0 rfl) ?_
  refine lv_bipush (v := 30) hx hb dX0_init_45 (by decide) ?_
  refine va_newa (atype := .int) (a0 := (30, .inl (fun _ => 0))) hx hb (hts (.arrayClass .int) (by decide +kernel)) rfl hK hP hD hS hA (fun _ => rfl) (by decide) (by decide) (Nat.le_of_ble_eq_true rfl) (Nat.le_of_ble_eq_true rfl) (Nat.le_of_ble_eq_true rfl) dX0_init_47 (fun q5 cA H hK2 hP hD hS => ?_)
  have eA := ka_int hK2
  rw [eA] at hP hD
  have hP : va_P D vwCl [(h0, .inr (0, [.int 0, .int 0, .ref q0, .int 0, .ref q1, .ref q2, .int 0, .ref q3, .ref q4, .null, .null, .null, .int 0, .int 0, .int 0, .null])), (q0, .inl (tI, 8, .inl (fun _ => 0))), (q1, .inl (tI, 12, .inl (fun _ => 0))), (q2, .inl (tI, 96, .inl (fun _ => 0))), (q3, .inl (tI, 30, .inl (fun _ => 0))), (q4, .inl (tI, 30, .inl (fun _ => 0))), (q5, .inl (tI, 30, .inl (fun _ => 0)))] H := hP
  have hD : va_D A [(h0, .inr (0, [.int 0, .int 0, .ref q0, .int 0, .ref q1, .ref q2, .int 0, .ref q3, .ref q4, .null, .null, .null, .int 0, .int 0, .int 0, .null])), (q0, .inl (tI, 8, .inl (fun _ => 0))), (q1, .inl (tI, 12, .inl (fun _ => 0))), (q2, .inl (tI, 96, .inl (fun _ => 0))), (q3, .inl (tI, 30, .inl (fun _ => 0))), (q4, .inl (tI, 30, .inl (fun _ => 0))), (q5, .inl (tI, 30, .inl (fun _ => 0)))] := hD
  refine va_putF (D := D) (ci := 0) (v := .ref q5) (ty := .array .int) (C := RX0) (T := TX0) (N := 16) hx hb hts hin tyX0 tyX0_ok nmX0 hown hK hP hD hS 0 rfl rfl 9 (by decide) (hts xl_subjectsOfRecord (by decide +kernel)) (fun _ h9 => h9) rfl hini rfl (by decide +kernel) rfl rfl (Nat.le_of_ble_eq_true rfl) dX0_init_49 (fun H locs hP hD hS => ?_)
  have hP : va_P D vwCl [(h0, .inr (0, [.int 0, .int 0, .ref q0, .int 0, .ref q1, .ref q2, .int 0, .ref q3, .ref q4, .ref q5, .null, .null, .int 0, .int 0, .int 0, .null])), (q0, .inl (tI, 8, .inl (fun _ => 0))), (q1, .inl (tI, 12, .inl (fun _ => 0))), (q2, .inl (tI, 96, .inl (fun _ => 0))), (q3, .inl (tI, 30, .inl (fun _ => 0))), (q4, .inl (tI, 30, .inl (fun _ => 0))), (q5, .inl (tI, 30, .inl (fun _ => 0)))] H := hP
  have hD : va_D A [(h0, .inr (0, [.int 0, .int 0, .ref q0, .int 0, .ref q1, .ref q2, .int 0, .ref q3, .ref q4, .ref q5, .null, .null, .int 0, .int 0, .int 0, .null])), (q0, .inl (tI, 8, .inl (fun _ => 0))), (q1, .inl (tI, 12, .inl (fun _ => 0))), (q2, .inl (tI, 96, .inl (fun _ => 0))), (q3, .inl (tI, 30, .inl (fun _ => 0))), (q4, .inl (tI, 30, .inl (fun _ => 0))), (q5, .inl (tI, 30, .inl (fun _ => 0)))] := hD
  refine lv_aload_n hx hb dX0_init_52 rfl (lv_at hl 0 rfl) ?_
  refine lv_bipush (v := 30) hx hb dX0_init_53 (by decide) ?_
  refine va_newa (atype := .int) (a0 := (30, .inl (fun _ => 0))) hx hb (hts (.arrayClass .int) (by decide +kernel)) rfl hK hP hD hS hA (fun _ => rfl) (by decide) (by decide) (Nat.le_of_ble_eq_true rfl) (Nat.le_of_ble_eq_true rfl) (Nat.le_of_ble_eq_true rfl) dX0_init_55 (fun q6 cA H hK2 hP hD hS => ?_)
  have eA := ka_int hK2
  rw [eA] at hP hD
  have hP : va_P D vwCl [(h0, .inr (0, [.int 0, .int 0, .ref q0, .int 0, .ref q1, .ref q2, .int 0, .ref q3, .ref q4, .ref q5, .null, .null, .int 0, .int 0, .int 0, .null])), (q0, .inl (tI, 8, .inl (fun _ => 0))), (q1, .inl (tI, 12, .inl (fun _ => 0))), (q2, .inl (tI, 96, .inl (fun _ => 0))), (q3, .inl (tI, 30, .inl (fun _ => 0))), (q4, .inl (tI, 30, .inl (fun _ => 0))), (q5, .inl (tI, 30, .inl (fun _ => 0))), (q6, .inl (tI, 30, .inl (fun _ => 0)))] H := hP
  have hD : va_D A [(h0, .inr (0, [.int 0, .int 0, .ref q0, .int 0, .ref q1, .ref q2, .int 0, .ref q3, .ref q4, .ref q5, .null, .null, .int 0, .int 0, .int 0, .null])), (q0, .inl (tI, 8, .inl (fun _ => 0))), (q1, .inl (tI, 12, .inl (fun _ => 0))), (q2, .inl (tI, 96, .inl (fun _ => 0))), (q3, .inl (tI, 30, .inl (fun _ => 0))), (q4, .inl (tI, 30, .inl (fun _ => 0))), (q5, .inl (tI, 30, .inl (fun _ => 0))), (q6, .inl (tI, 30, .inl (fun _ => 0)))] := hD
  refine va_putF (D := D) (ci := 0) (v := .ref q6) (ty := .array .int) (C := RX0) (T := TX0) (N := 16) hx hb hts hin tyX0 tyX0_ok nmX0 hown hK hP hD hS 0 rfl rfl 10 (by decide) (hts xl_sourcesOfRecord (by decide +kernel)) (fun _ h9 => h9) rfl hini rfl (by decide +kernel) rfl rfl (Nat.le_of_ble_eq_true rfl) dX0_init_57 (fun H locs hP hD hS => ?_)
  have hP : va_P D vwCl [(h0, .inr (0, [.int 0, .int 0, .ref q0, .int 0, .ref q1, .ref q2, .int 0, .ref q3, .ref q4, .ref q5, .ref q6, .null, .int 0, .int 0, .int 0, .null])), (q0, .inl (tI, 8, .inl (fun _ => 0))), (q1, .inl (tI, 12, .inl (fun _ => 0))), (q2, .inl (tI, 96, .inl (fun _ => 0))), (q3, .inl (tI, 30, .inl (fun _ => 0))), (q4, .inl (tI, 30, .inl (fun _ => 0))), (q5, .inl (tI, 30, .inl (fun _ => 0))), (q6, .inl (tI, 30, .inl (fun _ => 0)))] H := hP
  have hD : va_D A [(h0, .inr (0, [.int 0, .int 0, .ref q0, .int 0, .ref q1, .ref q2, .int 0, .ref q3, .ref q4, .ref q5, .ref q6, .null, .int 0, .int 0, .int 0, .null])), (q0, .inl (tI, 8, .inl (fun _ => 0))), (q1, .inl (tI, 12, .inl (fun _ => 0))), (q2, .inl (tI, 96, .inl (fun _ => 0))), (q3, .inl (tI, 30, .inl (fun _ => 0))), (q4, .inl (tI, 30, .inl (fun _ => 0))), (q5, .inl (tI, 30, .inl (fun _ => 0))), (q6, .inl (tI, 30, .inl (fun _ => 0)))] := hD
  refine lv_aload_n hx hb dX0_init_60 rfl (lv_at hl 0 rfl) ?_
  refine lv_sipush (v := 240) hx hb dX0_init_61 (by decide) ?_
  refine va_newa (atype := .int) (a0 := (240, .inl (fun _ => 0))) hx hb (hts (.arrayClass .int) (by decide +kernel)) rfl hK hP hD hS hA (fun _ => rfl) (by decide) (by decide) (Nat.le_of_ble_eq_true rfl) (Nat.le_of_ble_eq_true rfl) (Nat.le_of_ble_eq_true rfl) dX0_init_64 (fun q7 cA H hK2 hP hD hS => ?_)
  have eA := ka_int hK2
  rw [eA] at hP hD
  have hP : va_P D vwCl [(h0, .inr (0, [.int 0, .int 0, .ref q0, .int 0, .ref q1, .ref q2, .int 0, .ref q3, .ref q4, .ref q5, .ref q6, .null, .int 0, .int 0, .int 0, .null])), (q0, .inl (tI, 8, .inl (fun _ => 0))), (q1, .inl (tI, 12, .inl (fun _ => 0))), (q2, .inl (tI, 96, .inl (fun _ => 0))), (q3, .inl (tI, 30, .inl (fun _ => 0))), (q4, .inl (tI, 30, .inl (fun _ => 0))), (q5, .inl (tI, 30, .inl (fun _ => 0))), (q6, .inl (tI, 30, .inl (fun _ => 0))), (q7, .inl (tI, 240, .inl (fun _ => 0)))] H := hP
  have hD : va_D A [(h0, .inr (0, [.int 0, .int 0, .ref q0, .int 0, .ref q1, .ref q2, .int 0, .ref q3, .ref q4, .ref q5, .ref q6, .null, .int 0, .int 0, .int 0, .null])), (q0, .inl (tI, 8, .inl (fun _ => 0))), (q1, .inl (tI, 12, .inl (fun _ => 0))), (q2, .inl (tI, 96, .inl (fun _ => 0))), (q3, .inl (tI, 30, .inl (fun _ => 0))), (q4, .inl (tI, 30, .inl (fun _ => 0))), (q5, .inl (tI, 30, .inl (fun _ => 0))), (q6, .inl (tI, 30, .inl (fun _ => 0))), (q7, .inl (tI, 240, .inl (fun _ => 0)))] := hD
  refine va_putF (D := D) (ci := 0) (v := .ref q7) (ty := .array .int) (C := RX0) (T := TX0) (N := 16) hx hb hts hin tyX0 tyX0_ok nmX0 hown hK hP hD hS 0 rfl rfl 11 (by decide) (hts xl_useCounts (by decide +kernel)) (fun _ h9 => h9) rfl hini rfl (by decide +kernel) rfl rfl (Nat.le_of_ble_eq_true rfl) dX0_init_66 (fun H locs hP hD hS => ?_)
  have hP : va_P D vwCl [(h0, .inr (0, [.int 0, .int 0, .ref q0, .int 0, .ref q1, .ref q2, .int 0, .ref q3, .ref q4, .ref q5, .ref q6, .ref q7, .int 0, .int 0, .int 0, .null])), (q0, .inl (tI, 8, .inl (fun _ => 0))), (q1, .inl (tI, 12, .inl (fun _ => 0))), (q2, .inl (tI, 96, .inl (fun _ => 0))), (q3, .inl (tI, 30, .inl (fun _ => 0))), (q4, .inl (tI, 30, .inl (fun _ => 0))), (q5, .inl (tI, 30, .inl (fun _ => 0))), (q6, .inl (tI, 30, .inl (fun _ => 0))), (q7, .inl (tI, 240, .inl (fun _ => 0)))] H := hP
  have hD : va_D A [(h0, .inr (0, [.int 0, .int 0, .ref q0, .int 0, .ref q1, .ref q2, .int 0, .ref q3, .ref q4, .ref q5, .ref q6, .ref q7, .int 0, .int 0, .int 0, .null])), (q0, .inl (tI, 8, .inl (fun _ => 0))), (q1, .inl (tI, 12, .inl (fun _ => 0))), (q2, .inl (tI, 96, .inl (fun _ => 0))), (q3, .inl (tI, 30, .inl (fun _ => 0))), (q4, .inl (tI, 30, .inl (fun _ => 0))), (q5, .inl (tI, 30, .inl (fun _ => 0))), (q6, .inl (tI, 30, .inl (fun _ => 0))), (q7, .inl (tI, 240, .inl (fun _ => 0)))] := hD
  refine lv_aload_n hx hb dX0_init_69 rfl (lv_at hl 0 rfl) ?_
  refine lv_bipush (v := 6) hx hb dX0_init_70 (by decide) ?_
  refine va_newa (atype := .int) (a0 := (6, .inl (fun _ => 0))) hx hb (hts (.arrayClass .int) (by decide +kernel)) rfl hK hP hD hS hA (fun _ => rfl) (by decide) (by decide) (Nat.le_of_ble_eq_true rfl) (Nat.le_of_ble_eq_true rfl) (Nat.le_of_ble_eq_true rfl) dX0_init_72 (fun q8 cA H hK2 hP hD hS => ?_)
  have eA := ka_int hK2
  rw [eA] at hP hD
  have hP : va_P D vwCl [(h0, .inr (0, [.int 0, .int 0, .ref q0, .int 0, .ref q1, .ref q2, .int 0, .ref q3, .ref q4, .ref q5, .ref q6, .ref q7, .int 0, .int 0, .int 0, .null])), (q0, .inl (tI, 8, .inl (fun _ => 0))), (q1, .inl (tI, 12, .inl (fun _ => 0))), (q2, .inl (tI, 96, .inl (fun _ => 0))), (q3, .inl (tI, 30, .inl (fun _ => 0))), (q4, .inl (tI, 30, .inl (fun _ => 0))), (q5, .inl (tI, 30, .inl (fun _ => 0))), (q6, .inl (tI, 30, .inl (fun _ => 0))), (q7, .inl (tI, 240, .inl (fun _ => 0))), (q8, .inl (tI, 6, .inl (fun _ => 0)))] H := hP
  have hD : va_D A [(h0, .inr (0, [.int 0, .int 0, .ref q0, .int 0, .ref q1, .ref q2, .int 0, .ref q3, .ref q4, .ref q5, .ref q6, .ref q7, .int 0, .int 0, .int 0, .null])), (q0, .inl (tI, 8, .inl (fun _ => 0))), (q1, .inl (tI, 12, .inl (fun _ => 0))), (q2, .inl (tI, 96, .inl (fun _ => 0))), (q3, .inl (tI, 30, .inl (fun _ => 0))), (q4, .inl (tI, 30, .inl (fun _ => 0))), (q5, .inl (tI, 30, .inl (fun _ => 0))), (q6, .inl (tI, 30, .inl (fun _ => 0))), (q7, .inl (tI, 240, .inl (fun _ => 0))), (q8, .inl (tI, 6, .inl (fun _ => 0)))] := hD
  refine va_putF (D := D) (ci := 0) (v := .ref q8) (ty := .array .int) (C := RX0) (T := TX0) (N := 16) hx hb hts hin tyX0 tyX0_ok nmX0 hown hK hP hD hS 0 rfl rfl 15 (by decide) (hts xl_recordsOfCase (by decide +kernel)) (fun _ h9 => h9) rfl hini rfl (by decide +kernel) rfl rfl (Nat.le_of_ble_eq_true rfl) dX0_init_74 (fun H locs hP hD hS => ?_)
  have hP : va_P D vwCl [(h0, .inr (0, [.int 0, .int 0, .ref q0, .int 0, .ref q1, .ref q2, .int 0, .ref q3, .ref q4, .ref q5, .ref q6, .ref q7, .int 0, .int 0, .int 0, .ref q8])), (q0, .inl (tI, 8, .inl (fun _ => 0))), (q1, .inl (tI, 12, .inl (fun _ => 0))), (q2, .inl (tI, 96, .inl (fun _ => 0))), (q3, .inl (tI, 30, .inl (fun _ => 0))), (q4, .inl (tI, 30, .inl (fun _ => 0))), (q5, .inl (tI, 30, .inl (fun _ => 0))), (q6, .inl (tI, 30, .inl (fun _ => 0))), (q7, .inl (tI, 240, .inl (fun _ => 0))), (q8, .inl (tI, 6, .inl (fun _ => 0)))] H := hP
  have hD : va_D A [(h0, .inr (0, [.int 0, .int 0, .ref q0, .int 0, .ref q1, .ref q2, .int 0, .ref q3, .ref q4, .ref q5, .ref q6, .ref q7, .int 0, .int 0, .int 0, .ref q8])), (q0, .inl (tI, 8, .inl (fun _ => 0))), (q1, .inl (tI, 12, .inl (fun _ => 0))), (q2, .inl (tI, 96, .inl (fun _ => 0))), (q3, .inl (tI, 30, .inl (fun _ => 0))), (q4, .inl (tI, 30, .inl (fun _ => 0))), (q5, .inl (tI, 30, .inl (fun _ => 0))), (q6, .inl (tI, 30, .inl (fun _ => 0))), (q7, .inl (tI, 240, .inl (fun _ => 0))), (q8, .inl (tI, 6, .inl (fun _ => 0)))] := hD
  have hP : va_P D vwCl (x_W tI tZ h0 (fun k => if k = 2 then q0 else if k = 4 then q1 else if k = 5 then q2 else if k = 7 then q3 else if k = 8 then q4 else if k = 9 then q5 else if k = 10 then q6 else if k = 11 then q7 else if k = 15 then q8 else 0) s0) H := hP
  have hD : va_D A (x_W tI tZ h0 (fun k => if k = 2 then q0 else if k = 4 then q1 else if k = 5 then q2 else if k = 7 then q3 else if k = 8 then q4 else if k = 9 then q5 else if k = 10 then q6 else if k = 11 then q7 else if k = 15 then q8 else 0) s0) := hD
  subst hAe
  exact W.vret hx hb hr (fun t ht _ => ⟨⟨rfl, (fun k => if k = 2 then q0 else if k = 4 then q1 else if k = 5 then q2 else if k = 7 then q3 else if k = 8 then q4 else if k = 9 then q5 else if k = 10 then q6 else if k = 11 then q7 else if k = 15 then q8 else 0), by rw [ht]; exact hP, nodup_of_D hD, all_of_D hD⟩, hS.F ht⟩) hS.2.2 dX0_init_77
