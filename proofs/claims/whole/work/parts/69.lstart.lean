/-! ===== the law's start ===== -/
theorem tx_w : ∀ q ∈ xTX, Cond.stringRef RX0 q.1 q.2 ∈ lw_tbl := by decide +kernel
theorem de_w : ∀ x ∈ xDe, Cond.declares x ∈ lw_tbl := by decide +kernel
theorem ca_w : ∀ C ∈ xCa, Cond.castable C C ∈ lw_tbl := by decide +kernel
theorem tx_g : ∀ q ∈ xTX, Cond.exactly (.string RX0 q.1) "java/lang/String" ∈ flatC (Jvm.Cond.and given_1 narrow_1) := by decide +kernel
theorem nc_g : ∀ q ∈ xNC, Cond.not (.castable q.1 q.2) ∈ flatC (Jvm.Cond.and given_1 narrow_1) := by decide +kernel
theorem f0_x : ∀ j, j < 16 → defaultValue (tyX0 j) = vp_V x_F0 j := fun j hj => by
  rcases (show j = 0 ∨ j = 1 ∨ j = 2 ∨ j = 3 ∨ j = 4 ∨ j = 5 ∨ j = 6 ∨ j = 7 ∨ j = 8 ∨ j = 9 ∨ j = 10 ∨ j = 11 ∨ j = 12 ∨ j = 13 ∨ j = 14 ∨ j = 15 by omega) with rfl | rfl | rfl | rfl | rfl | rfl | rfl | rfl | rfl | rfl | rfl | rfl | rfl | rfl | rfl | rfl <;> rfl
theorem f0_m : ∀ j, j < 15 → defaultValue (tyX1 j) = vp_V m_F0 j := fun j hj => by
  rcases (show j = 0 ∨ j = 1 ∨ j = 2 ∨ j = 3 ∨ j = 4 ∨ j = 5 ∨ j = 6 ∨ j = 7 ∨ j = 8 ∨ j = 9 ∨ j = 10 ∨ j = 11 ∨ j = 12 ∨ j = 13 ∨ j = 14 by omega) with rfl | rfl | rfl | rfl | rfl | rfl | rfl | rfl | rfl | rfl | rfl | rfl | rfl | rfl | rfl <;> rfl
theorem RR_init : RR s0 s0 0 0 0 := ⟨⟨rfl, rfl, rfl, by omega, by omega, fun q h => absurd h (by omega), fun q h => absurd h (by omega)⟩, rfl, rfl, rfl, rfl, rfl, by omega, ⟨rfl, rfl, rfl, rfl, rfl, rfl⟩, fun q _ _ => (by show bt 0 q = false; rw [b_0]), fun j _ q _ _ => (by show bt 0 q = false; rw [b_0]), fun r h => absurd h (by omega), fun k h => absurd h (by omega), fun r h => absurd h (by omega), fun r h => absurd h (by omega), fun r h => absurd h (by omega), fun r _ _ => ⟨(by show bt 0 r = false; rw [b_0]), (by show bt 0 r = false; rw [b_0]), (by show bt 0 r = false; rw [b_0])⟩, fun i _ r _ _ => (by show bt 0 r = false; rw [b_0])⟩
theorem ws_lt {D : va_G} {ws : va_W} {H : Heap} (h : va_P D vwCl ws H) : ∀ q ∈ ws.map (fun z => z.1), q < H.size := fun q hq => by
  obtain ⟨w, hw, rfl⟩ := List.mem_map.mp hq
  obtain ⟨k, hk⟩ := List.mem_iff_getElem?.mp hw
  exact vx_lt h hk
set_option maxHeartbeats 4000000 in
set_option maxRecDepth 100000 in
theorem ws_env {p : Program} {s : State} {m : MethodId} {meth : Method} {c : Code} (l : Launch) (hflags : l.flags = flags0) {b L : Nat} {xs : Nat → Int32} (hL : L ≤ 2048) (C0 : lw_At p s m meth c b L xs) : ∃ (D : va_G) (tI tZ tL : ClassId), L_E p l s m meth c b L xs D tI tZ tL := by
  obtain ⟨hex, hb, hr, hml, hown, hts, hX, hbl, hlk, hg⟩ := C0
  have htL : ∀ w ∈ wsL_law, w.before #[Value.ref b] s = true := fun w h => hts w (wsL_law_in w h)
  obtain ⟨cX, iX, kX⟩ := u_known (C := RX0) (T := TX0) (N := 16) (n := 16) htL inlX0 (hts (.instantiable RX0 16) (by decide +kernel))
  obtain ⟨cM, iM, kM⟩ := u_known (C := RX1) (T := TX1) (N := 15) (n := 15) htL inlX1 (hts (.instantiable RX1 15) (by decide +kernel))
  obtain ⟨tI, aI, eI⟩ := k_arr (hts (.arrayClass .int) (by decide +kernel))
  obtain ⟨tZ, aZ, eZ⟩ := k_arr (hts (.arrayClass .boolean) (by decide +kernel))
  obtain ⟨tL, aL, eL⟩ := k_arr (hts (.arrayClass .long) (by decide +kernel))
  have hs := flat_of_before _ hg
  have hA0 : ∀ a : Nat, a < s.heap.size → ¬ s.heap.size ≤ a := fun a h => Nat.not_le.mpr h
  refine ⟨((fun c => if c = 0 then cX else cM), (fun c => if c = 0 then iX else iM)), tI, tZ, tL, hex, hb, hml, hown, htL, hX, hbl, ⟨?_, ?_⟩, ⟨⟨?_, ?_, ?_, ?_, ?_⟩, ?_⟩, ?_, hL⟩
  · intro c q hq
    match c, hq with
    | 0, hq => cases hq; exact kX
    | 1, hq => cases hq; exact kM
    | c + 2, hq => cases hq
  · intro k q hq
    match k, hq with
    | 0, hq => cases hq; exact ⟨aI, eI⟩
    | 1, hq => cases hq; exact ⟨aZ, eZ⟩
    | 2, hq => cases hq; exact ⟨aL, eL⟩
    | k + 3, hq => cases hq
  · exact vx_Zqof (hts (.laysStatic Bundle.tN "UNASSIGNED_STACK" Bundle.steD) (by decide +kernel)) (hts (.initialized Bundle.tN) (by decide +kernel)) (hs (.isRef (.static Bundle.tN "UNASSIGNED_STACK" Bundle.steD)) (by decide +kernel)) hA0
  · exact vx_Zqof (hts (.laysStatic Bundle.tN "SUPPRESSED_SENTINEL" Bundle.listD) (by decide +kernel)) (hts (.initialized Bundle.tN) (by decide +kernel)) (hs (.isRef (.static Bundle.tN "SUPPRESSED_SENTINEL" Bundle.listD)) (by decide +kernel)) hA0
  · intro q hq
    have h1 := hts (.stringRef RX0 q.1 q.2) (tx_w q hq)
    have h2 := hs (.exactly (.string RX0 q.1) "java/lang/String") (tx_g q hq)
    obtain ⟨a, cc, cA, kA, q1, -⟩ := Cond.exactly_spec (args := #[Value.ref b]) (first := s) (o := none) (s := s) (idx := []) (t := .string RX0 q.1) (cls := "java/lang/String") h2
    exact ⟨a, vk_R.of h1 q1⟩
  · intro x hx
    exact va_Nw.of rfl (hts (.declares x) (de_w x hx))
  · intro C hC
    exact va_Nw.of rfl (hts (.castable C C) (ca_w C hC))
  · intro q hq
    exact va_Nc.of (hs (.not (.castable q.1 q.2)) (nc_g q hq))
  · show (!l.flags.contains Jvm.noTraceFlag) = false
    rw [hflags]
    decide +kernel
set_option maxHeartbeats 8000000 in
set_option maxRecDepth 100000 in
/-- from the entry, for every script of at most 2048 ints, the law comes to its end with true -/
theorem whole_start {p : Program} {e : Env} {s : State} {m : MethodId} {below : List Frame} {meth : Method} {c : Code} (l : Launch) (hflags : l.flags = flags0) {b L : Nat} {xs : Nat → Int32} (hL : L ≤ 2048) (C0 : lw_At p s m meth c b L xs) : W p l e room_1 s m #[Value.ref b] below meth c s.heap [] 0 0 (lw_Z below #[Value.ref b] s) (entryFrame m ([Value.ref b] : List Value).toArray 7) := by
  obtain ⟨D, tI, tZ, tL, E⟩ := ws_env l hflags hL C0
  have E0 := E
  have hret := C0.2.2.1
  have hts := C0.2.2.2.2.2.1
  have hlocks := C0.2.2.2.2.2.2.2.2.1
  obtain ⟨hex, hb, hml, hown, htL, hX, hbl, hK, hE, hlf, hL2⟩ := E
  have S : CallFix p m c cL_law 7 s #[Value.ref b] wsL_law RL := ⟨hex, hb, hml, hown, htL⟩
  have hl := lv_entry ([.ref b]) (n := 7) (Nat.le_of_ble_eq_true rfl)
  rw [lg_entry_eq]
  generalize (lg_sl ([.ref b]) ++ List.replicate (7 - (lg_sl ([.ref b])).length) Slot.unset).toArray = ls at hl ⊢
  have hl : lv_has ls 7 [(0, .ref b)] := hl
  generalize hAe : (fun q => s.heap.size ≤ q) = A0
  have hA : ∀ q : Nat, s.heap.size ≤ q → A0 q := fun q h => by rw [← hAe]; exact h
  have hAr : ∀ q : Nat, A0 q → s.heap.size ≤ q := fun q h => by rw [← hAe] at h; exact h
  have hP : va_P D vwCl [] s.heap := fun k q hq => by cases hq
  have hD : va_D A0 [] := va_D_of List.nodup_nil (fun q hq => by cases hq)
  have hS : va_S A0 s.heap s.heap [] := va_S.rf
  refine va_new (ci := 0) (fs := x_F0) (C := RX0) (T := TX0) (N := 16) hex hb htL inlX0 tyX0 tyX0_ok hown (hts (.classLink RL 8 RX0) (by decide +kernel)) (hts (.instantiable RX0 16) (by decide +kernel)) (hts (.initialized RX0) (by decide +kernel)) hK hP hD hS hA rfl f0_x (Nat.le_of_ble_eq_true rfl) (Nat.le_of_ble_eq_true rfl) dL_law_0 (fun hx H hP hD hS => ?_)
  have hP : va_P D vwCl [(hx, .inr (0, x_F0))] H := hP
  have hgx0 : s.heap.size ≤ hx := hAr hx (hD.2 0 (hx, .inr (0, x_F0)) rfl)
  refine lv_dup hex hb dL_law_3 rfl ?_
  have hA1 : ∀ q : Nat, (q = hx ∨ H.size ≤ q) → A0 q := fun q h => hA q (h.elim (fun z => by rw [z]; exact hgx0) (fun z => Nat.le_trans hS.1 z))
  refine w_call (va_runI (As := []) (rest := [.ref hx]) S (c_X0_init l D tI tZ tL hx H.size) (cwI 0 htL gL_law_X0_init rfl rfl rfl (hts (.initialized RX0) (by decide +kernel)) (hts (.methodLink RL 85 yX0_init) (by decide +kernel)) (hts (.instanceMethod yX0_init) (by decide +kernel)) rfl (by decide +kernel) ⟨Nat.le_of_ble_eq_true rfl, Nat.le_of_ble_eq_true rfl⟩) ⟨fun a U g mk q => (by obtain ⟨q0, q1, qP, qK⟩ := q; exact ⟨q0, q1, qP, va_K.moved (u := U) (U := U.calling g mk a) (Vm.Alike.refl U.vm) qK⟩), fun U hU hW => ⟨rfl, (by rw [hU]), (by rw [hU]; exact hP), va_K.moved hW.alike hK⟩⟩ rfl rfl hl.1 rfl (lv_room (Nat.le_of_ble_eq_true rfl)) dL_law_4 ⟨Nat.le_of_ble_eq_true rfl, Nat.le_of_ble_eq_true rfl⟩) hS hA1 hA1 (fun H1 locs1 hP1 hz1 hk1 hS1 => ?_)
  obtain ⟨ax, hPx, hnx, hxq⟩ := hP1
  refine lv_astore_n (lv' := [(1, .ref hx), (0, .ref b)]) hex hb dL_law_7 rfl hl (by decide) rfl (fun ls hl => ?_)
  have hgx : ∀ q ∈ x_L hx ax, s.heap.size ≤ q := fun q h => hAr q (hA1 q (hxq q h))
  have hDx : va_D A0 (x_W tI tZ hx ax s0) := va_D_of hnx (fun q h => hA q (hgx q h))
  refine va_new (ci := 1) (fs := m_F0) (C := RX1) (T := TX1) (N := 15) hex hb htL inlX1 tyX1 tyX1_ok hown (hts (.classLink RL 86 RX1) (by decide +kernel)) (hts (.instantiable RX1 15) (by decide +kernel)) (hts (.initialized RX1) (by decide +kernel)) hK hPx hDx hS1 hA rfl f0_m (Nat.le_of_ble_eq_true rfl) (Nat.le_of_ble_eq_true rfl) dL_law_8 (fun hm H2 hP2 hD2 hS2 => ?_)
  have hPx : va_P D vwCl (x_W tI tZ hx ax s0) H2 := hP2.sub [0, 1, 2, 3, 4, 5, 6, 7, 8, 9] rfl
  have hPm0 : va_P D vwCl [(hm, .inr (1, m_F0))] H2 := hP2.sub [10] rfl
  have hn2 : (x_L hx ax ++ [hm]).Nodup := nodup_of_D hD2
  have hmx : hm ∉ x_L hx ax := fun z => (List.nodup_append.mp hn2).2.2 hm z hm (by simp) rfl
  have hgm0 : s.heap.size ≤ hm := hAr hm (hD2.2 10 (hm, .inr (1, m_F0)) rfl)
  refine lv_dup hex hb dL_law_11 rfl ?_
  have hA2 : ∀ q : Nat, (q = hm ∨ H2.size ≤ q) → A0 q := fun q h => hA q (h.elim (fun z => by rw [z]; exact hgm0) (fun z => Nat.le_trans hS2.1 z))
  refine w_call (va_runI (As := []) (rest := [.ref hm]) S (c_X1_init l D tI tZ tL hm H2.size) (cwI 0 htL gL_law_X1_init rfl rfl rfl (hts (.initialized RX1) (by decide +kernel)) (hts (.methodLink RL 88 yX1_init) (by decide +kernel)) (hts (.instanceMethod yX1_init) (by decide +kernel)) rfl (by decide +kernel) ⟨Nat.le_of_ble_eq_true rfl, Nat.le_of_ble_eq_true rfl⟩) ⟨fun a U g mk q => (by obtain ⟨q0, q1, qP, qK⟩ := q; exact ⟨q0, q1, qP, va_K.moved (u := U) (U := U.calling g mk a) (Vm.Alike.refl U.vm) qK⟩), fun U hU hW => ⟨rfl, (by rw [hU]), (by rw [hU]; exact hPm0), va_K.moved hW.alike hK⟩⟩ rfl rfl hl.1 rfl (lv_room (Nat.le_of_ble_eq_true rfl)) dL_law_12 ⟨Nat.le_of_ble_eq_true rfl, Nat.le_of_ble_eq_true rfl⟩) hS2 hA2 hA2 (fun H3 locs3 hP3 hz3 hk3 hS3 => ?_)
  obtain ⟨am, hPm, hnm, hmq⟩ := hP3
  have hxl : ∀ q ∈ x_L hx ax, q < H2.size := ws_lt hPx
  have hxm0 : ∀ q ∈ x_L hx ax, ¬ (q = hm ∨ H2.size ≤ q) := fun q h z => z.elim (fun e => hmx (by rw [← e]; exact h)) (fun g => absurd (hxl q h) (Nat.not_lt.mpr g))
  replace hPx := x_kept9 hPx (fun q h1 h2 => hk3 q h1 (hxm0 q h2))
  have hxm : ∀ q ∈ x_L hx ax, q ∉ m_L hm am := fun q h z => hxm0 q h (hmq q z)
  have hgm : ∀ q ∈ m_L hm am, s.heap.size ≤ q := fun q h => hAr q (hA2 q (hmq q h))
  refine lv_astore_n (lv' := [(2, .ref hm), (1, .ref hx), (0, .ref b)]) hex hb dL_law_15 rfl hl (by decide) rfl (fun ls hl => ?_)
  refine lv_iconst (v := 1) hex hb dL_law_16 (by decide) ?_
  have hn3 : (x_L hx ax ++ m_L hm am).Nodup := List.nodup_append.mpr ⟨hnx, hnm, fun a ha b hb e => hxm a ha (by rw [e]; exact hb)⟩
  have hD3 : va_D A0 (x_W tI tZ hx ax s0 ++ m_W tI tZ hm am s0) := va_D_of hn3 (fun q h => by
    have h : q ∈ x_L hx ax ++ m_L hm am := h
    exact hA q ((List.mem_append.mp h).elim (hgx q) (hgm q)))
  refine va_newa (atype := .long) (a0 := (1, .inr (.inl (fun _ => 0)))) hex hb (hts (.arrayClass .long) (by decide +kernel)) rfl hK (hPx.app hPm) hD3 hS3 hA (fun _ => rfl) (by decide) (by decide) (Nat.le_of_ble_eq_true rfl) (Nat.le_of_ble_eq_true rfl) (Nat.le_of_ble_eq_true rfl) dL_law_17 (fun o cA H4 hK4 hP4 hD4 hS4 => ?_)
  have eA := ka_long hK4
  rw [eA] at hP4 hD4
  have hPx : va_P D vwCl (x_W tI tZ hx ax s0) H4 := hP4.sub [0, 1, 2, 3, 4, 5, 6, 7, 8, 9] rfl
  have hPm : va_P D vwCl (m_W tI tZ hm am s0) H4 := hP4.sub [10, 11, 12, 13, 14, 15, 16, 17, 18, 19, 20, 21] rfl
  have hPo : va_P D vwCl (o_W tL o (fun _ => 0)) H4 := hP4.sub [22] rfl
  have hn4 : ((x_L hx ax ++ m_L hm am) ++ [o]).Nodup := nodup_of_D hD4
  have ho4 : o ∉ x_L hx ax ++ m_L hm am := fun z => (List.nodup_append.mp hn4).2.2 o z o (by simp) rfl
  have hgo : s.heap.size ≤ o := hAr o (hD4.2 22 (o, .inl (tL, 1, .inr (.inl (fun _ => 0)))) rfl)
  refine lv_astore_n (lv' := [(3, .ref o), (2, .ref hm), (1, .ref hx), (0, .ref b)]) hex hb dL_law_19 rfl hl (by decide) rfl (fun ls hl => ?_)
  refine lv_iconst (v := nI 0) hex hb dL_law_20 (by decide) ?_
  refine lv_istore (lv' := L_v b hx hm o (4 * 0)) hex hb dL_law_21 hl (by decide) rfl (fun ls hl => ?_)
  have LA : L_A s hx ax hm am o := ⟨hnx, hnm, fun z => ho4 (List.mem_append_left _ z), fun z => ho4 (List.mem_append_right _ z), hxm, hgx, hgm, hgo⟩
  rw [← hAe] at hS4
  exact W.widen (Nat.le_of_ble_eq_true rfl) (Nat.le_of_ble_eq_true rfl) (ll_loop E0 LA hret hlocks (L / 4 + 1) 0 s0 s0 0 0 0 H4 _ ls (by omega) (by omega) (by omega) RR_init ⟨_, hPx, hPm, hPo, hS4⟩ hl)
