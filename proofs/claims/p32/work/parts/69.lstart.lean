/-! ===== the law's start ===== -/
theorem tx_w : ∀ q ∈ xTX, Cond.stringRef RX0 q.1 q.2 ∈ lw_tbl := by decide +kernel
theorem de_w : ∀ x ∈ xDe, Cond.declares x ∈ lw_tbl := by decide +kernel
theorem ca_w : ∀ C ∈ xCa, Cond.castable C C ∈ lw_tbl := by decide +kernel
theorem tx_g : ∀ q ∈ xTX, Cond.exactly (.string RX0 q.1) "java/lang/String" ∈ flatC (Jvm.Cond.and given_1 narrow_1) := by decide +kernel
theorem nc_g : ∀ q ∈ xNC, Cond.not (.castable q.1 q.2) ∈ flatC (Jvm.Cond.and given_1 narrow_1) := by decide +kernel
theorem f0_x : ∀ j, j < 16 → defaultValue (tyX0 j) = vp_V x_F0 j := fun j hj => by
  rcases (show j = 0 ∨ j = 1 ∨ j = 2 ∨ j = 3 ∨ j = 4 ∨ j = 5 ∨ j = 6 ∨ j = 7 ∨ j = 8 ∨ j = 9 ∨ j = 10 ∨ j = 11 ∨ j = 12 ∨ j = 13 ∨ j = 14 ∨ j = 15 by omega) with rfl | rfl | rfl | rfl | rfl | rfl | rfl | rfl | rfl | rfl | rfl | rfl | rfl | rfl | rfl | rfl <;> rfl
theorem RR_init : RR s0 s0 0 0 0 := ⟨⟨rfl, rfl, rfl, by omega, by omega, fun q h => absurd h (by omega), fun q h => absurd h (by omega)⟩, rfl, rfl, rfl, rfl, rfl, by omega, ⟨rfl, rfl, rfl, rfl, rfl, rfl⟩, fun q _ _ => (by show bt 0 q = false; rw [b_0]), fun j _ q _ _ => (by show bt 0 q = false; rw [b_0]), fun r h => absurd h (by omega), fun k h => absurd h (by omega), fun r h => absurd h (by omega), fun r h => absurd h (by omega), fun r h => absurd h (by omega), fun r _ _ => ⟨(by show bt 0 r = false; rw [b_0]), (by show bt 0 r = false; rw [b_0]), (by show bt 0 r = false; rw [b_0])⟩, fun i _ r _ _ => (by show bt 0 r = false; rw [b_0])⟩
theorem YY_init : YY s0 s0 (fun _ => 0) 0 0 0 0 := ⟨⟨rfl, rfl, rfl⟩, fun q h => absurd h (by omega), fun j _ => ⟨rfl, rfl⟩, fun k h => absurd h (by omega), fun k _ _ => ⟨rfl, rfl, rfl⟩, fun i _ => rfl, fun k h => absurd h (by omega), fun k _ => ⟨0, by omega, rfl, fun q _ => ⟨by rw [dig_0]; omega, by rw [dig_0]; rfl⟩⟩, by omega⟩
theorem ZZ_init : ZZ s0 s0 (fun _ => 0) 0 := ⟨s0, 0, 0, 0, by omega, RR_init, YY_init⟩
set_option maxHeartbeats 4000000 in
set_option maxRecDepth 100000 in
theorem ws_env {p : Program} {s : State} {m : MethodId} {meth : Method} {c : Code} (l : Launch) (hflags : l.flags = flags0) {b L : Nat} {xs : Nat → Int32} (hL : L ≤ 260) (C0 : lw_At p s m meth c b L xs) : ∃ (D : va_G) (tI tZ tL : ClassId), L_E p l s m meth c b L xs D tI tZ tL := by
  obtain ⟨hex, hb, hr, hml, hown, hts, hX, hbl, hlk, hg⟩ := C0
  have htL : ∀ w ∈ wsL_law, w.before #[Value.ref b] s = true := fun w h => hts w (wsL_law_in w h)
  obtain ⟨cX, iX, kX⟩ := u_known (C := RX0) (T := TX0) (N := 16) (n := 16) htL inlX0 (hts (.instantiable RX0 16) (by decide +kernel))
  obtain ⟨tI, aI, eI⟩ := k_arr (hts (.arrayClass .int) (by decide +kernel))
  obtain ⟨tL, aL, eL⟩ := k_arr (hts (.arrayClass .long) (by decide +kernel))
  have hs := flat_of_before _ hg
  have hA0 : ∀ a : Nat, a < s.heap.size → ¬ s.heap.size ≤ a := fun a h => Nat.not_le.mpr h
  refine ⟨((fun _ => cX), (fun _ => iX)), tI, tI, tL, hex, hb, hml, hown, htL, hX, hbl, ⟨?_, ?_⟩, ⟨⟨?_, ?_, ?_, ?_, ?_⟩, ?_⟩, ?_, hL⟩
  · intro c q hq
    match c, hq with
    | 0, hq => cases hq; exact kX
    | c + 1, hq => cases hq
  · intro k q hq
    match k, hq with
    | 0, hq => cases hq; exact ⟨aI, eI⟩
    | 1, hq => cases hq; exact ⟨aL, eL⟩
    | k + 2, hq => cases hq
  · exact vx_Zqof (hts (.laysStatic Bundle.tN "UNASSIGNED_STACK" Bundle.steD) (by decide +kernel)) (hts (.initialized Bundle.tN) (by decide +kernel)) (hs (.isRef (.static Bundle.tN "UNASSIGNED_STACK" Bundle.steD)) (by decide +kernel)) hA0
  · exact vx_Zqof (hts (.laysStatic Bundle.tN "SUPPRESSED_SENTINEL" Bundle.listD) (by decide +kernel)) (hts (.initialized Bundle.tN) (by decide +kernel)) (hs (.isRef (.static Bundle.tN "SUPPRESSED_SENTINEL" Bundle.listD)) (by decide +kernel)) hA0
  · intro q hq
    have h1 := hts (.stringRef RX0 q.1 q.2) (tx_w q hq)
    have h2 := hs (.exactly (.string RX0 q.1) "java/lang/String") (tx_g q hq)
    obtain ⟨a, cc, cA, kA, q1, -⟩ := Cond.exactly_spec (args := #[Value.ref b]) (first := s) (o := none) (s := s) (idx := []) (t := .string RX0 q.1) (cls := "java/lang/String") h2
    exact ⟨a, vk_R.of h1 q1⟩
  · intro x hx
    exact va_Nw.of rfl (hts (.declares x) (de_w x hx))
  · intro C hC
    exact va_Nw.of rfl (hts (.castable C C) (ca_w C hC))
  · intro q hq
    exact va_Nc.of (hs (.not (.castable q.1 q.2)) (nc_g q hq))
  · show (!l.flags.contains Jvm.noTraceFlag) = false
    rw [hflags]
    decide +kernel
set_option maxHeartbeats 8000000 in
set_option maxRecDepth 100000 in
/-- from the entry, for every script of at most 260 ints, the law comes to its end with true -/
theorem whole_start {p : Program} {e : Env} {s : State} {m : MethodId} {below : List Frame} {meth : Method} {c : Code} (l : Launch) (hflags : l.flags = flags0) {b L : Nat} {xs : Nat → Int32} (hL : L ≤ 260) (C0 : lw_At p s m meth c b L xs) : W p l e room_1 s m #[Value.ref b] below meth c s.heap [] 0 0 (lw_Z below #[Value.ref b] s) (entryFrame m ([Value.ref b] : List Value).toArray 23) := by
  obtain ⟨D, tI, tZ, tL, E⟩ := ws_env l hflags hL C0
  have E0 := E
  have hret := C0.2.2.1
  have hts := C0.2.2.2.2.2.1
  have hlocks := C0.2.2.2.2.2.2.2.2.1
  obtain ⟨hex, hb, hml, hown, htL, hX, hbl, hK, hE, hlf, hL2⟩ := E
  have S : CallFix p m c cL_law 23 s #[Value.ref b] wsL_law RL := ⟨hex, hb, hml, hown, htL⟩
  have hl := lv_entry ([.ref b]) (n := 23) (Nat.le_of_ble_eq_true rfl)
  rw [lg_entry_eq]
  generalize (lg_sl ([.ref b]) ++ List.replicate (23 - (lg_sl ([.ref b])).length) Slot.unset).toArray = ls at hl ⊢
  have hl : lv_has ls 23 [(0, .ref b)] := hl
  generalize hAe : (fun q => s.heap.size ≤ q) = A0
  have hA : ∀ q : Nat, s.heap.size ≤ q → A0 q := fun q h => by rw [← hAe]; exact h
  have hAr : ∀ q : Nat, A0 q → s.heap.size ≤ q := fun q h => by rw [← hAe] at h; exact h
  have hP : va_P D vwCl [] s.heap := fun k q hq => by cases hq
  have hD : va_D A0 [] := va_D_of List.nodup_nil (fun q hq => by cases hq)
  have hS : va_S A0 s.heap s.heap [] := va_S.rf
  refine va_new (ci := 0) (fs := x_F0) (C := RX0) (T := TX0) (N := 16) hex hb htL inlX0 tyX0 tyX0_ok hown (hts (.classLink RL 11 RX0) (by decide +kernel)) (hts (.instantiable RX0 16) (by decide +kernel)) (hts (.initialized RX0) (by decide +kernel)) hK hP hD hS hA rfl f0_x (Nat.le_of_ble_eq_true rfl) (Nat.le_of_ble_eq_true rfl) dL_law_0 (fun xo H hP hD hS => ?_)
  have hP : va_P D vwCl [(xo, .inr (0, x_F0))] H := hP
  have hgx0 : s.heap.size ≤ xo := hAr xo (hD.2 0 (xo, .inr (0, x_F0)) rfl)
  refine lv_dup hex hb dL_law_3 rfl ?_
  have hA1 : ∀ q : Nat, (q = xo ∨ H.size ≤ q) → A0 q := fun q h => hA q (h.elim (fun z => by rw [z]; exact hgx0) (fun z => Nat.le_trans hS.1 z))
  refine w_call (va_runI (As := []) (rest := [.ref xo]) S (c_X0_init l D tI tZ tL xo H.size) (cwI 0 htL gL_law_X0_init rfl rfl rfl (hts (.initialized RX0) (by decide +kernel)) (hts (.methodLink RL 125 yX0_init) (by decide +kernel)) (hts (.instanceMethod yX0_init) (by decide +kernel)) rfl (by decide +kernel) ⟨Nat.le_of_ble_eq_true rfl, Nat.le_of_ble_eq_true rfl⟩) ⟨fun a U g mk q => (by obtain ⟨q0, q1, qP, qK⟩ := q; exact ⟨q0, q1, qP, va_K.moved (u := U) (U := U.calling g mk a) (Vm.Alike.refl U.vm) qK⟩), fun U hU hW => ⟨rfl, (by rw [hU]), (by rw [hU]; exact hP), va_K.moved hW.alike hK⟩⟩ rfl rfl hl.1 rfl (lv_room (Nat.le_of_ble_eq_true rfl)) dL_law_4 ⟨Nat.le_of_ble_eq_true rfl, Nat.le_of_ble_eq_true rfl⟩) hS hA1 hA1 (fun H1 locs1 hP1 hz1 hk1 hS1 => ?_)
  obtain ⟨ax, hPx, hnx, hxq⟩ := hP1
  refine lv_astore_n (lv' := [(1, .ref xo), (0, .ref b)]) hex hb dL_law_7 rfl hl (by decide) rfl (fun ls hl => ?_)
  have hgx : ∀ q ∈ x_L xo ax, s.heap.size ≤ q := fun q h => hAr q (hA1 q (hxq q h))
  have hD : va_D A0 (x_W tI tZ xo ax s0) := va_D_of hnx (fun q h => hA q (hgx q h))
  have hP : va_P D vwCl (x_W tI tZ xo ax s0) H1 := hPx
  have hS := hS1
  refine lv_iconst (v := 3) hex hb dL_law_8 (by decide) ?_
  refine va_newa (atype := .int) (a0 := (3, .inl (fun _ => 0))) hex hb (hts (.arrayClass .int) (by decide +kernel)) rfl hK hP hD hS hA (fun _ => rfl) (by decide) (by decide) (Nat.le_of_ble_eq_true rfl) (Nat.le_of_ble_eq_true rfl) (Nat.le_of_ble_eq_true rfl) dL_law_9 (fun q0 cA H hK2 hP hD hS => ?_)
  have eA := ka_int hK2
  rw [eA] at hP hD
  have hP : va_P D vwCl (x_W tI tZ xo ax s0 ++ [(q0, .inl (tI, 3, .inl (fun _ => 0)))]) H := hP
  have hD : va_D A0 (x_W tI tZ xo ax s0 ++ [(q0, .inl (tI, 3, .inl (fun _ => 0)))]) := hD
  refine lv_astore_n (lv' := [(2, .ref q0), (1, .ref xo), (0, .ref b)]) hex hb dL_law_11 rfl hl (by decide) rfl (fun ls hl => ?_)
  refine lv_bipush (v := 28) hex hb dL_law_12 (by decide) ?_
  refine va_newa (atype := .int) (a0 := (28, .inl (fun _ => 0))) hex hb (hts (.arrayClass .int) (by decide +kernel)) rfl hK hP hD hS hA (fun _ => rfl) (by decide) (by decide) (Nat.le_of_ble_eq_true rfl) (Nat.le_of_ble_eq_true rfl) (Nat.le_of_ble_eq_true rfl) dL_law_14 (fun q1 cA H hK2 hP hD hS => ?_)
  have eA := ka_int hK2
  rw [eA] at hP hD
  have hP : va_P D vwCl (x_W tI tZ xo ax s0 ++ [(q0, .inl (tI, 3, .inl (fun _ => 0))), (q1, .inl (tI, 28, .inl (fun _ => 0)))]) H := hP
  have hD : va_D A0 (x_W tI tZ xo ax s0 ++ [(q0, .inl (tI, 3, .inl (fun _ => 0))), (q1, .inl (tI, 28, .inl (fun _ => 0)))]) := hD
  refine lv_astore_n (lv' := [(3, .ref q1), (2, .ref q0), (1, .ref xo), (0, .ref b)]) hex hb dL_law_16 rfl hl (by decide) rfl (fun ls hl => ?_)
  refine lv_bipush (v := 30) hex hb dL_law_17 (by decide) ?_
  refine va_newa (atype := .int) (a0 := (30, .inl (fun _ => 0))) hex hb (hts (.arrayClass .int) (by decide +kernel)) rfl hK hP hD hS hA (fun _ => rfl) (by decide) (by decide) (Nat.le_of_ble_eq_true rfl) (Nat.le_of_ble_eq_true rfl) (Nat.le_of_ble_eq_true rfl) dL_law_19 (fun q2 cA H hK2 hP hD hS => ?_)
  have eA := ka_int hK2
  rw [eA] at hP hD
  have hP : va_P D vwCl (x_W tI tZ xo ax s0 ++ [(q0, .inl (tI, 3, .inl (fun _ => 0))), (q1, .inl (tI, 28, .inl (fun _ => 0))), (q2, .inl (tI, 30, .inl (fun _ => 0)))]) H := hP
  have hD : va_D A0 (x_W tI tZ xo ax s0 ++ [(q0, .inl (tI, 3, .inl (fun _ => 0))), (q1, .inl (tI, 28, .inl (fun _ => 0))), (q2, .inl (tI, 30, .inl (fun _ => 0)))]) := hD
  refine lv_astore (lv' := [(4, .ref q2), (3, .ref q1), (2, .ref q0), (1, .ref xo), (0, .ref b)]) hex hb dL_law_21 hl (by decide) rfl (fun ls hl => ?_)
  refine lv_bipush (v := 30) hex hb dL_law_23 (by decide) ?_
  refine va_newa (atype := .int) (a0 := (30, .inl (fun _ => 0))) hex hb (hts (.arrayClass .int) (by decide +kernel)) rfl hK hP hD hS hA (fun _ => rfl) (by decide) (by decide) (Nat.le_of_ble_eq_true rfl) (Nat.le_of_ble_eq_true rfl) (Nat.le_of_ble_eq_true rfl) dL_law_25 (fun q3 cA H hK2 hP hD hS => ?_)
  have eA := ka_int hK2
  rw [eA] at hP hD
  have hP : va_P D vwCl (x_W tI tZ xo ax s0 ++ [(q0, .inl (tI, 3, .inl (fun _ => 0))), (q1, .inl (tI, 28, .inl (fun _ => 0))), (q2, .inl (tI, 30, .inl (fun _ => 0))), (q3, .inl (tI, 30, .inl (fun _ => 0)))]) H := hP
  have hD : va_D A0 (x_W tI tZ xo ax s0 ++ [(q0, .inl (tI, 3, .inl (fun _ => 0))), (q1, .inl (tI, 28, .inl (fun _ => 0))), (q2, .inl (tI, 30, .inl (fun _ => 0))), (q3, .inl (tI, 30, .inl (fun _ => 0)))]) := hD
  refine lv_astore (lv' := [(5, .ref q3), (4, .ref q2), (3, .ref q1), (2, .ref q0), (1, .ref xo), (0, .ref b)]) hex hb dL_law_27 hl (by decide) rfl (fun ls hl => ?_)
  refine lv_bipush (v := 30) hex hb dL_law_29 (by decide) ?_
  refine va_newa (atype := .int) (a0 := (30, .inl (fun _ => 0))) hex hb (hts (.arrayClass .int) (by decide +kernel)) rfl hK hP hD hS hA (fun _ => rfl) (by decide) (by decide) (Nat.le_of_ble_eq_true rfl) (Nat.le_of_ble_eq_true rfl) (Nat.le_of_ble_eq_true rfl) dL_law_31 (fun q4 cA H hK2 hP hD hS => ?_)
  have eA := ka_int hK2
  rw [eA] at hP hD
  have hP : va_P D vwCl (x_W tI tZ xo ax s0 ++ [(q0, .inl (tI, 3, .inl (fun _ => 0))), (q1, .inl (tI, 28, .inl (fun _ => 0))), (q2, .inl (tI, 30, .inl (fun _ => 0))), (q3, .inl (tI, 30, .inl (fun _ => 0))), (q4, .inl (tI, 30, .inl (fun _ => 0)))]) H := hP
  have hD : va_D A0 (x_W tI tZ xo ax s0 ++ [(q0, .inl (tI, 3, .inl (fun _ => 0))), (q1, .inl (tI, 28, .inl (fun _ => 0))), (q2, .inl (tI, 30, .inl (fun _ => 0))), (q3, .inl (tI, 30, .inl (fun _ => 0))), (q4, .inl (tI, 30, .inl (fun _ => 0)))]) := hD
  refine lv_astore (lv' := [(6, .ref q4), (5, .ref q3), (4, .ref q2), (3, .ref q1), (2, .ref q0), (1, .ref xo), (0, .ref b)]) hex hb dL_law_33 hl (by decide) rfl (fun ls hl => ?_)
  refine lv_bipush (v := 30) hex hb dL_law_35 (by decide) ?_
  refine va_newa (atype := .int) (a0 := (30, .inl (fun _ => 0))) hex hb (hts (.arrayClass .int) (by decide +kernel)) rfl hK hP hD hS hA (fun _ => rfl) (by decide) (by decide) (Nat.le_of_ble_eq_true rfl) (Nat.le_of_ble_eq_true rfl) (Nat.le_of_ble_eq_true rfl) dL_law_37 (fun q5 cA H hK2 hP hD hS => ?_)
  have eA := ka_int hK2
  rw [eA] at hP hD
  have hP : va_P D vwCl (x_W tI tZ xo ax s0 ++ [(q0, .inl (tI, 3, .inl (fun _ => 0))), (q1, .inl (tI, 28, .inl (fun _ => 0))), (q2, .inl (tI, 30, .inl (fun _ => 0))), (q3, .inl (tI, 30, .inl (fun _ => 0))), (q4, .inl (tI, 30, .inl (fun _ => 0))), (q5, .inl (tI, 30, .inl (fun _ => 0)))]) H := hP
  have hD : va_D A0 (x_W tI tZ xo ax s0 ++ [(q0, .inl (tI, 3, .inl (fun _ => 0))), (q1, .inl (tI, 28, .inl (fun _ => 0))), (q2, .inl (tI, 30, .inl (fun _ => 0))), (q3, .inl (tI, 30, .inl (fun _ => 0))), (q4, .inl (tI, 30, .inl (fun _ => 0))), (q5, .inl (tI, 30, .inl (fun _ => 0)))]) := hD
  refine lv_astore (lv' := [(7, .ref q5), (6, .ref q4), (5, .ref q3), (4, .ref q2), (3, .ref q1), (2, .ref q0), (1, .ref xo), (0, .ref b)]) hex hb dL_law_39 hl (by decide) rfl (fun ls hl => ?_)
  refine lv_bipush (v := 60) hex hb dL_law_41 (by decide) ?_
  refine va_newa (atype := .int) (a0 := (60, .inl (fun _ => 0))) hex hb (hts (.arrayClass .int) (by decide +kernel)) rfl hK hP hD hS hA (fun _ => rfl) (by decide) (by decide) (Nat.le_of_ble_eq_true rfl) (Nat.le_of_ble_eq_true rfl) (Nat.le_of_ble_eq_true rfl) dL_law_43 (fun q6 cA H hK2 hP hD hS => ?_)
  have eA := ka_int hK2
  rw [eA] at hP hD
  have hP : va_P D vwCl (x_W tI tZ xo ax s0 ++ [(q0, .inl (tI, 3, .inl (fun _ => 0))), (q1, .inl (tI, 28, .inl (fun _ => 0))), (q2, .inl (tI, 30, .inl (fun _ => 0))), (q3, .inl (tI, 30, .inl (fun _ => 0))), (q4, .inl (tI, 30, .inl (fun _ => 0))), (q5, .inl (tI, 30, .inl (fun _ => 0))), (q6, .inl (tI, 60, .inl (fun _ => 0)))]) H := hP
  have hD : va_D A0 (x_W tI tZ xo ax s0 ++ [(q0, .inl (tI, 3, .inl (fun _ => 0))), (q1, .inl (tI, 28, .inl (fun _ => 0))), (q2, .inl (tI, 30, .inl (fun _ => 0))), (q3, .inl (tI, 30, .inl (fun _ => 0))), (q4, .inl (tI, 30, .inl (fun _ => 0))), (q5, .inl (tI, 30, .inl (fun _ => 0))), (q6, .inl (tI, 60, .inl (fun _ => 0)))]) := hD
  refine lv_astore (lv' := [(8, .ref q6), (7, .ref q5), (6, .ref q4), (5, .ref q3), (4, .ref q2), (3, .ref q1), (2, .ref q0), (1, .ref xo), (0, .ref b)]) hex hb dL_law_45 hl (by decide) rfl (fun ls hl => ?_)
  refine lv_bipush (v := 30) hex hb dL_law_47 (by decide) ?_
  refine va_newa (atype := .int) (a0 := (30, .inl (fun _ => 0))) hex hb (hts (.arrayClass .int) (by decide +kernel)) rfl hK hP hD hS hA (fun _ => rfl) (by decide) (by decide) (Nat.le_of_ble_eq_true rfl) (Nat.le_of_ble_eq_true rfl) (Nat.le_of_ble_eq_true rfl) dL_law_49 (fun q7 cA H hK2 hP hD hS => ?_)
  have eA := ka_int hK2
  rw [eA] at hP hD
  have hP : va_P D vwCl (x_W tI tZ xo ax s0 ++ [(q0, .inl (tI, 3, .inl (fun _ => 0))), (q1, .inl (tI, 28, .inl (fun _ => 0))), (q2, .inl (tI, 30, .inl (fun _ => 0))), (q3, .inl (tI, 30, .inl (fun _ => 0))), (q4, .inl (tI, 30, .inl (fun _ => 0))), (q5, .inl (tI, 30, .inl (fun _ => 0))), (q6, .inl (tI, 60, .inl (fun _ => 0))), (q7, .inl (tI, 30, .inl (fun _ => 0)))]) H := hP
  have hD : va_D A0 (x_W tI tZ xo ax s0 ++ [(q0, .inl (tI, 3, .inl (fun _ => 0))), (q1, .inl (tI, 28, .inl (fun _ => 0))), (q2, .inl (tI, 30, .inl (fun _ => 0))), (q3, .inl (tI, 30, .inl (fun _ => 0))), (q4, .inl (tI, 30, .inl (fun _ => 0))), (q5, .inl (tI, 30, .inl (fun _ => 0))), (q6, .inl (tI, 60, .inl (fun _ => 0))), (q7, .inl (tI, 30, .inl (fun _ => 0)))]) := hD
  refine lv_astore (lv' := [(9, .ref q7), (8, .ref q6), (7, .ref q5), (6, .ref q4), (5, .ref q3), (4, .ref q2), (3, .ref q1), (2, .ref q0), (1, .ref xo), (0, .ref b)]) hex hb dL_law_51 hl (by decide) rfl (fun ls hl => ?_)
  refine lv_bipush (v := 48) hex hb dL_law_53 (by decide) ?_
  refine va_newa (atype := .int) (a0 := (48, .inl (fun _ => 0))) hex hb (hts (.arrayClass .int) (by decide +kernel)) rfl hK hP hD hS hA (fun _ => rfl) (by decide) (by decide) (Nat.le_of_ble_eq_true rfl) (Nat.le_of_ble_eq_true rfl) (Nat.le_of_ble_eq_true rfl) dL_law_55 (fun q8 cA H hK2 hP hD hS => ?_)
  have eA := ka_int hK2
  rw [eA] at hP hD
  have hP : va_P D vwCl (x_W tI tZ xo ax s0 ++ [(q0, .inl (tI, 3, .inl (fun _ => 0))), (q1, .inl (tI, 28, .inl (fun _ => 0))), (q2, .inl (tI, 30, .inl (fun _ => 0))), (q3, .inl (tI, 30, .inl (fun _ => 0))), (q4, .inl (tI, 30, .inl (fun _ => 0))), (q5, .inl (tI, 30, .inl (fun _ => 0))), (q6, .inl (tI, 60, .inl (fun _ => 0))), (q7, .inl (tI, 30, .inl (fun _ => 0))), (q8, .inl (tI, 48, .inl (fun _ => 0)))]) H := hP
  have hD : va_D A0 (x_W tI tZ xo ax s0 ++ [(q0, .inl (tI, 3, .inl (fun _ => 0))), (q1, .inl (tI, 28, .inl (fun _ => 0))), (q2, .inl (tI, 30, .inl (fun _ => 0))), (q3, .inl (tI, 30, .inl (fun _ => 0))), (q4, .inl (tI, 30, .inl (fun _ => 0))), (q5, .inl (tI, 30, .inl (fun _ => 0))), (q6, .inl (tI, 60, .inl (fun _ => 0))), (q7, .inl (tI, 30, .inl (fun _ => 0))), (q8, .inl (tI, 48, .inl (fun _ => 0)))]) := hD
  refine lv_astore (lv' := [(10, .ref q8), (9, .ref q7), (8, .ref q6), (7, .ref q5), (6, .ref q4), (5, .ref q3), (4, .ref q2), (3, .ref q1), (2, .ref q0), (1, .ref xo), (0, .ref b)]) hex hb dL_law_57 hl (by decide) rfl (fun ls hl => ?_)
  refine lv_bipush (v := 30) hex hb dL_law_59 (by decide) ?_
  refine va_newa (atype := .long) (a0 := (30, .inr (.inl (fun _ => 0)))) hex hb (hts (.arrayClass .long) (by decide +kernel)) rfl hK hP hD hS hA (fun _ => rfl) (by decide) (by decide) (Nat.le_of_ble_eq_true rfl) (Nat.le_of_ble_eq_true rfl) (Nat.le_of_ble_eq_true rfl) dL_law_61 (fun q9 cA H hK2 hP hD hS => ?_)
  have eA := ka_long hK2
  rw [eA] at hP hD
  have hP : va_P D vwCl (x_W tI tZ xo ax s0 ++ [(q0, .inl (tI, 3, .inl (fun _ => 0))), (q1, .inl (tI, 28, .inl (fun _ => 0))), (q2, .inl (tI, 30, .inl (fun _ => 0))), (q3, .inl (tI, 30, .inl (fun _ => 0))), (q4, .inl (tI, 30, .inl (fun _ => 0))), (q5, .inl (tI, 30, .inl (fun _ => 0))), (q6, .inl (tI, 60, .inl (fun _ => 0))), (q7, .inl (tI, 30, .inl (fun _ => 0))), (q8, .inl (tI, 48, .inl (fun _ => 0))), (q9, .inl (tL, 30, .inr (.inl (fun _ => 0))))]) H := hP
  have hD : va_D A0 (x_W tI tZ xo ax s0 ++ [(q0, .inl (tI, 3, .inl (fun _ => 0))), (q1, .inl (tI, 28, .inl (fun _ => 0))), (q2, .inl (tI, 30, .inl (fun _ => 0))), (q3, .inl (tI, 30, .inl (fun _ => 0))), (q4, .inl (tI, 30, .inl (fun _ => 0))), (q5, .inl (tI, 30, .inl (fun _ => 0))), (q6, .inl (tI, 60, .inl (fun _ => 0))), (q7, .inl (tI, 30, .inl (fun _ => 0))), (q8, .inl (tI, 48, .inl (fun _ => 0))), (q9, .inl (tL, 30, .inr (.inl (fun _ => 0))))]) := hD
  refine lv_astore (lv' := [(11, .ref q9), (10, .ref q8), (9, .ref q7), (8, .ref q6), (7, .ref q5), (6, .ref q4), (5, .ref q3), (4, .ref q2), (3, .ref q1), (2, .ref q0), (1, .ref xo), (0, .ref b)]) hex hb dL_law_63 hl (by decide) rfl (fun ls hl => ?_)
  refine lv_iconst (v := nI 0) hex hb dL_law_65 (by decide) ?_
  refine lv_istore (lv' := [(12, .int (nI 0)), (11, .ref q9), (10, .ref q8), (9, .ref q7), (8, .ref q6), (7, .ref q5), (6, .ref q4), (5, .ref q3), (4, .ref q2), (3, .ref q1), (2, .ref q0), (1, .ref xo), (0, .ref b)]) hex hb dL_law_66 hl (by decide) rfl (fun ls hl => ?_)
  have hPx : va_P D vwCl (x_W tI tZ xo ax s0) H := hP.sub [0, 1, 2, 3, 4, 5, 6, 7, 8, 9] rfl
  have hPy : va_P D vwCl (y_W tI tZ 0 (fun k => if k = 0 then q0 else if k = 1 then q1 else if k = 2 then q2 else if k = 3 then q3 else if k = 4 then q4 else if k = 5 then q5 else if k = 6 then q6 else if k = 7 then q7 else q8) s0) H := hP.sub [10, 11, 12, 13, 14, 15, 16, 17, 18] rfl
  have hPu : va_P D vwCl (u_W tL q9 (fun _ => 0)) H := hP.sub [19] rfl
  have LA : L_A s xo ax (fun k => if k = 0 then q0 else if k = 1 then q1 else if k = 2 then q2 else if k = 3 then q3 else if k = 4 then q4 else if k = 5 then q5 else if k = 6 then q6 else if k = 7 then q7 else q8) q9 := ⟨nodup_of_D hD, fun q h => hAr q (all_of_D hD q h)⟩
  rw [← hAe] at hS
  exact W.widen (Nat.le_of_ble_eq_true rfl) (Nat.le_of_ble_eq_true rfl) (ll_loop E0 LA hret hlocks 110 0 s0 s0 (fun _ => 0) H _ ls rfl ZZ_init hPx hPy hPu hS hl)
