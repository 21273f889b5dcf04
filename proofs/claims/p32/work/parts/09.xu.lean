set_option maxHeartbeats 4000000 in
set_option maxRecDepth 100000 in
theorem c_X0_moveToErased (l : Launch) (D : va_G) (tI tZ tL : ClassId) (h0 : Nat) (ad : Nat → Nat) (σ : ST) (r : Nat) (hn : (x_L h0 ad).Nodup) : Met l yX0_moveToErased wsX0_moveToErased ({ frames := 1, cells := 0, slots := 0, locals := 20 } : Room) (va_Pc ([.ref h0, .int (nI r)] : List Value) (x_B D tI tZ tL h0 ad σ)) (u_Q none (x_P D tI tZ h0 ad (x_mv σ r)) (x_A h0 ad)) 0 0 (x_A h0 ad) := by
  refine u_met (cc := cX0_moveToErased) (maxL := 2) (ret := none) (by decide) rfl (Nat.le_of_ble_eq_true rfl) ?_
  intro p e s m below meth c hx hb hml hr hts hown hlocks hB hS ls hl
  have hD : ∀ σ : ST, va_D (x_A h0 ad) (x_W tI tZ h0 ad σ) := fun σ => x_D σ hn (fun _ h => h)
  have hown : s.vm.findClass RX0 = some m.cls := hown
  obtain ⟨hP, hK⟩ := hB
  have hl : lv_has ls 2 [(0, .ref h0), (1, .int (nI r))] := hl
  have hin : ∀ w ∈ wsX00, w ∈ wsX0_moveToErased := in_X0_moveToErased
  have hl_erasedRecords : xl_erasedRecords ∈ wsX0_moveToErased := by decide +kernel
  have hl_requestedRecords : xl_requestedRecords ∈ wsX0_moveToErased := by decide +kernel
  have key : ∀ (H : Heap) (locs : List Loc), va_P D vwCl (x_W tI tZ h0 ad σ) H → va_S (x_A h0 ad) s.heap H locs → ∀ ls, lv_has ls 2 [(0, .ref h0), (1, .int (nI r))] → u_G p l e ({ frames := 1, cells := 0, slots := 0, locals := 20 } : Room) s m ([.ref h0, .int (nI r)] : List Value).toArray below meth c H locs none (x_P D tI tZ h0 ad (x_mv σ r)) (x_A h0 ad) (F0 m 0 ls []) := by
    intro H locs hP hS ls hl
    refine lv_aload_n hx hb dX0_moveToErased_0 rfl (lv_at hl 0 rfl) ?_
    refine lv_dup hx hb dX0_moveToErased_1 rfl ?_
    refine xg_requestedRecords hx hb hts hin hown hK hP hl_requestedRecords dX0_moveToErased_2 ?_
    refine lv_iload_n hx hb dX0_moveToErased_5 rfl (lv_at hl 1 rfl) ?_
    refine k_X0_bit r ⟨hx, hb, hml, hown, hts⟩ gX0_moveToErased_X0_bit ⟨Nat.le_of_ble_eq_true rfl, Nat.le_of_ble_eq_true rfl⟩ hl.1 ⟨Nat.zero_le _, Nat.zero_le _⟩ (Nat.le_of_ble_eq_true rfl) dX0_moveToErased_6 ?_
    refine lv_iconst (v := (-1)) hx hb dX0_moveToErased_9 (by decide) ?_
    refine lv_ixor hx hb dX0_moveToErased_10 ?_
    refine lv_iand hx hb dX0_moveToErased_11 ?_
    refine xp_requestedRecords hx hb hts hin hown hK hP (hD _) hS hl_requestedRecords dX0_moveToErased_12 (fun H locs hP hS => ?_)
    refine lv_aload_n hx hb dX0_moveToErased_15 rfl (lv_at hl 0 rfl) ?_
    refine lv_dup hx hb dX0_moveToErased_16 rfl ?_
    refine xg_erasedRecords hx hb hts hin hown hK hP hl_erasedRecords dX0_moveToErased_17 ?_
    refine lv_iload_n hx hb dX0_moveToErased_20 rfl (lv_at hl 1 rfl) ?_
    refine k_X0_bit r ⟨hx, hb, hml, hown, hts⟩ gX0_moveToErased_X0_bit ⟨Nat.le_of_ble_eq_true rfl, Nat.le_of_ble_eq_true rfl⟩ hl.1 ⟨Nat.zero_le _, Nat.zero_le _⟩ (Nat.le_of_ble_eq_true rfl) dX0_moveToErased_21 ?_
    refine lv_ior hx hb dX0_moveToErased_24 ?_
    refine xp_erasedRecords hx hb hts hin hown hK hP (hD _) hS hl_erasedRecords dX0_moveToErased_25 (fun H locs hP hS => ?_)
    exact u_vret hx hb hr hlocks hS (hP) dX0_moveToErased_28
  exact key _ _ hP hS ls hl
theorem k_X0_moveToErased {p : Program} {l : Launch} {e : Env} {R : Room} {s : State} {m : MethodId} {args : Array Value} {below : List Frame} {meth : Method} {c : Code} {H : Heap} {locs : List Loc} {cells slots : Nat} {Q : State → Prop} {cc : ByteArray} {pc : Nat} {ls : Array Slot} {rest : List Value} {Ts : List Cond} (D : va_G) (tI tZ tL : ClassId) (h0 : Nat) (ad : Nat → Nat) (σ : ST) (r : Nat) {A0 : Nat → Prop} {H0 : Heap} {own : String} {idx nL : Nat} (S : CallFix p m c cc nL s args Ts own) (hG : GoodIn Ts (wsV own idx RX0 yX0_moveToErased wsX0_moveToErased)) (hR : ({ frames := 1, cells := 0, slots := 0, locals := 20 } : Room).frames + 1 ≤ R.frames ∧ 8 + (2 + 11) + ({ frames := 1, cells := 0, slots := 0, locals := 20 } : Room).locals ≤ R.locals) (hsz : ls.size = nL) (hcap : cells ≤ R.cells ∧ slots ≤ R.slots) (hrm : (rest.map fun v => v.category).sum ≤ 8) (hn : (x_L h0 ad).Nodup) (hK : va_K D vwCl (kTY tI tZ tL) s) (hP : va_P D vwCl (x_W tI tZ h0 ad σ) H) (hS : va_S A0 H0 H locs) (hA : ∀ q, x_A h0 ad q → A0 q) (hdg : decode cc pc = .ok (.invokevirtual idx, 3)) (kk : ∀ (H1 : Heap) (locs1 : List Loc), va_P D vwCl (x_W tI tZ h0 ad (x_mv σ r)) H1 → H.size ≤ H1.size → (∀ q : Nat, q < H.size → ¬ x_A h0 ad q → H1[q]? = H[q]?) → va_S A0 H0 H1 locs1 → W p l e R s m args below meth c H1 locs1 cells slots Q (F0 m (pc + 3) ls (rest))) : W p l e R s m args below meth c H locs cells slots Q (F0 m pc ls (.int (nI r) :: .ref h0 :: rest)) :=
  u_call (va_runV (As := [.int (nI r)]) (rest := rest) S (c_X0_moveToErased l D tI tZ tL h0 ad σ r hn) (cwV 1 S.2.2.2.2 hG rfl rfl rfl (by decide +kernel) hR) (x_pre hK hP) rfl rfl hsz rfl (lv_room hrm) hdg hcap) hS hA hA kk

set_option maxHeartbeats 4000000 in
set_option maxRecDepth 100000 in
theorem c_X0_requestWithAllBelow (l : Launch) (D : va_G) (tI tZ tL : ClassId) (h0 : Nat) (ad : Nat → Nat) (σ : ST) (w : Int32) (nr : Nat) (hnr : σ.1 6 = nI nr) (hn30 : nr ≤ 30) (hn : (x_L h0 ad).Nodup) : Met l yX0_requestWithAllBelow wsX0_requestWithAllBelow ({ frames := 2, cells := 0, slots := 0, locals := 43 } : Room) (va_Pc ([.ref h0, .int w] : List Value) (x_B D tI tZ tL h0 ad σ)) (u_Q (some (.int (x_pop (x_rq σ w nr)))) (x_P D tI tZ h0 ad (x_req σ w nr)) (x_A h0 ad)) 0 0 (x_A h0 ad) := by
  refine u_met (cc := cX0_requestWithAllBelow) (maxL := 3) (ret := (some .int)) (by decide) rfl (Nat.le_of_ble_eq_true rfl) ?_
  intro p e s m below meth c hx hb hml hr hts hown hlocks hB hS ls hl
  have hD : ∀ σ : ST, va_D (x_A h0 ad) (x_W tI tZ h0 ad σ) := fun σ => x_D σ hn (fun _ h => h)
  have hown : s.vm.findClass RX0 = some m.cls := hown
  obtain ⟨hP, hK⟩ := hB
  have hl : lv_has ls 3 [(0, .ref h0), (1, .int w)] := hl
  have hin : ∀ w ∈ wsX00, w ∈ wsX0_requestWithAllBelow := in_X0_requestWithAllBelow
  have hl_presentRecords : xl_presentRecords ∈ wsX0_requestWithAllBelow := by decide +kernel
  have hl_requestedRecords : xl_requestedRecords ∈ wsX0_requestWithAllBelow := by decide +kernel
  have key : ∀ (H : Heap) (locs : List Loc), va_P D vwCl (x_W tI tZ h0 ad σ) H → va_S (x_A h0 ad) s.heap H locs → ∀ ls, lv_has ls 3 [(0, .ref h0), (1, .int w)] → u_G p l e ({ frames := 2, cells := 0, slots := 0, locals := 43 } : Room) s m ([.ref h0, .int w] : List Value).toArray below meth c H locs (some (.int (x_pop (x_rq σ w nr)))) (x_P D tI tZ h0 ad (x_req σ w nr)) (x_A h0 ad) (F0 m 0 ls []) := by
    intro H locs hP hS ls hl
    refine lv_aload_n hx hb dX0_requestWithAllBelow_0 rfl (lv_at hl 0 rfl) ?_
    refine lv_iload_n hx hb dX0_requestWithAllBelow_1 rfl (lv_at hl 1 rfl) ?_
    refine k_X0_withAllBelow D tI tZ tL h0 ad σ w nr hnr hn30 ⟨hx, hb, hml, hown, hts⟩ gX0_requestWithAllBelow_X0_withAllBelow ⟨Nat.le_of_ble_eq_true rfl, Nat.le_of_ble_eq_true rfl⟩ hl.1 ⟨Nat.zero_le _, Nat.zero_le _⟩ (Nat.le_of_ble_eq_true rfl) hK hP dX0_requestWithAllBelow_2 ?_
    refine lv_aload_n hx hb dX0_requestWithAllBelow_5 rfl (lv_at hl 0 rfl) ?_
    refine xg_presentRecords hx hb hts hin hown hK hP hl_presentRecords dX0_requestWithAllBelow_6 ?_
    refine lv_iand hx hb dX0_requestWithAllBelow_9 ?_
    refine lv_istore_n (lv' := [(2, .int ((x_wab (σ.2 10) w nr) &&& (σ.1 12))), (0, .ref h0), (1, .int w)]) hx hb dX0_requestWithAllBelow_10 rfl hl (by decide) rfl (fun ls hl => ?_)
    refine lv_aload_n hx hb dX0_requestWithAllBelow_11 rfl (lv_at hl 1 rfl) ?_
    refine lv_dup hx hb dX0_requestWithAllBelow_12 rfl ?_
    refine xg_presentRecords hx hb hts hin hown hK hP hl_presentRecords dX0_requestWithAllBelow_13 ?_
    refine lv_iload_n hx hb dX0_requestWithAllBelow_16 rfl (lv_at hl 0 rfl) ?_
    refine lv_iconst (v := (-1)) hx hb dX0_requestWithAllBelow_17 (by decide) ?_
    refine lv_ixor hx hb dX0_requestWithAllBelow_18 ?_
    refine lv_iand hx hb dX0_requestWithAllBelow_19 ?_
    refine xp_presentRecords hx hb hts hin hown hK hP (hD _) hS hl_presentRecords dX0_requestWithAllBelow_20 (fun H locs hP hS => ?_)
    refine lv_aload_n hx hb dX0_requestWithAllBelow_23 rfl (lv_at hl 1 rfl) ?_
    refine lv_dup hx hb dX0_requestWithAllBelow_24 rfl ?_
    refine xg_requestedRecords hx hb hts hin hown hK hP hl_requestedRecords dX0_requestWithAllBelow_25 ?_
    refine lv_iload_n hx hb dX0_requestWithAllBelow_28 rfl (lv_at hl 0 rfl) ?_
    refine lv_ior hx hb dX0_requestWithAllBelow_29 ?_
    refine xp_requestedRecords hx hb hts hin hown hK hP (hD _) hS hl_requestedRecords dX0_requestWithAllBelow_30 (fun H locs hP hS => ?_)
    refine lv_iload_n hx hb dX0_requestWithAllBelow_33 rfl (lv_at hl 0 rfl) ?_
    refine k_J6_bitCount_0f7a4 ((x_wab (σ.2 10) w nr) &&& (σ.1 12)) ⟨hx, hb, hml, hown, hts⟩ gX0_requestWithAllBelow_J6_bitCount_0f7a4 ⟨Nat.le_of_ble_eq_true rfl, Nat.le_of_ble_eq_true rfl⟩ hl.1 ⟨Nat.zero_le _, Nat.zero_le _⟩ (Nat.le_of_ble_eq_true rfl) dX0_requestWithAllBelow_34 ?_
    exact u_iret hx hb hr hlocks hS (hP) (rfl) dX0_requestWithAllBelow_37
  exact key _ _ hP hS ls hl
theorem k_X0_requestWithAllBelow {p : Program} {l : Launch} {e : Env} {R : Room} {s : State} {m : MethodId} {args : Array Value} {below : List Frame} {meth : Method} {c : Code} {H : Heap} {locs : List Loc} {cells slots : Nat} {Q : State → Prop} {cc : ByteArray} {pc : Nat} {ls : Array Slot} {rest : List Value} {Ts : List Cond} (D : va_G) (tI tZ tL : ClassId) (h0 : Nat) (ad : Nat → Nat) (σ : ST) (w : Int32) (nr : Nat) (hnr : σ.1 6 = nI nr) (hn30 : nr ≤ 30) {A0 : Nat → Prop} {H0 : Heap} {own : String} {idx nL : Nat} (S : CallFix p m c cc nL s args Ts own) (hG : GoodIn Ts (wsV own idx RX0 yX0_requestWithAllBelow wsX0_requestWithAllBelow)) (hR : ({ frames := 2, cells := 0, slots := 0, locals := 43 } : Room).frames + 1 ≤ R.frames ∧ 8 + (3 + 11) + ({ frames := 2, cells := 0, slots := 0, locals := 43 } : Room).locals ≤ R.locals) (hsz : ls.size = nL) (hcap : cells ≤ R.cells ∧ slots ≤ R.slots) (hrm : (rest.map fun v => v.category).sum ≤ 8) (hn : (x_L h0 ad).Nodup) (hK : va_K D vwCl (kTY tI tZ tL) s) (hP : va_P D vwCl (x_W tI tZ h0 ad σ) H) (hS : va_S A0 H0 H locs) (hA : ∀ q, x_A h0 ad q → A0 q) (hdg : decode cc pc = .ok (.invokevirtual idx, 3)) (kk : ∀ (H1 : Heap) (locs1 : List Loc), va_P D vwCl (x_W tI tZ h0 ad (x_req σ w nr)) H1 → H.size ≤ H1.size → (∀ q : Nat, q < H.size → ¬ x_A h0 ad q → H1[q]? = H[q]?) → va_S A0 H0 H1 locs1 → W p l e R s m args below meth c H1 locs1 cells slots Q (F0 m (pc + 3) ls (.int (x_pop (x_rq σ w nr)) :: rest))) : W p l e R s m args below meth c H locs cells slots Q (F0 m pc ls (.int w :: .ref h0 :: rest)) :=
  u_call (va_runV (As := [.int w]) (rest := rest) S (c_X0_requestWithAllBelow l D tI tZ tL h0 ad σ w nr hnr hn30 hn) (cwV 1 S.2.2.2.2 hG rfl rfl rfl (by decide +kernel) hR) (x_pre hK hP) rfl rfl hsz rfl (lv_room hrm) hdg hcap) hS hA hA kk

set_option maxHeartbeats 4000000 in
set_option maxRecDepth 100000 in
theorem c_X0_addSubjects (l : Launch) (D : va_G) (tI tZ tL : ClassId) (h0 : Nat) (ad : Nat → Nat) (σ : ST) (w sub : Int32) (nr : Nat) (hnr : σ.1 6 = nI nr) (hn30 : nr ≤ 30) (hn : (x_L h0 ad).Nodup) : Met l yX0_addSubjects wsX0_addSubjects ({ frames := 2, cells := 0, slots := 0, locals := 41 } : Room) (va_Pc ([.ref h0, .int w, .int sub] : List Value) (x_B D tI tZ tL h0 ad σ)) (u_Q none (x_P D tI tZ h0 ad (x_sbS σ w sub nr)) (x_A h0 ad)) 0 0 (x_A h0 ad) := by
  refine u_met (cc := cX0_addSubjects) (maxL := 4) (ret := none) (by decide) rfl (Nat.le_of_ble_eq_true rfl) ?_
  intro p e s m below meth c hx hb hml hr hts hown hlocks hB hS ls hl
  have hD : ∀ σ : ST, va_D (x_A h0 ad) (x_W tI tZ h0 ad σ) := fun σ => x_D σ hn (fun _ h => h)
  have hown : s.vm.findClass RX0 = some m.cls := hown
  obtain ⟨hP, hK⟩ := hB
  have hl : lv_has ls 4 [(0, .ref h0), (1, .int w), (2, .int sub)] := hl
  have hin : ∀ w ∈ wsX00, w ∈ wsX0_addSubjects := in_X0_addSubjects
  have hl_recordCount : xl_recordCount ∈ wsX0_addSubjects := by decide +kernel
  have hl_subjectsOfRecord : xl_subjectsOfRecord ∈ wsX0_addSubjects := by decide +kernel
  have key : ∀ (H : Heap) (locs : List Loc), va_P D vwCl (x_W tI tZ h0 ad σ) H → va_S (x_A h0 ad) s.heap H locs → ∀ ls, lv_has ls 4 [(0, .ref h0), (1, .int w), (2, .int sub)] → u_G p l e ({ frames := 2, cells := 0, slots := 0, locals := 41 } : Room) s m ([.ref h0, .int w, .int sub] : List Value).toArray below meth c H locs none (x_P D tI tZ h0 ad (x_sbS σ w sub nr)) (x_A h0 ad) (F0 m 0 ls []) := by
    intro H locs hP hS ls hl
    refine lv_iconst (v := 0) hx hb dX0_addSubjects_0 (by decide) ?_
    refine lv_istore_n (lv' := [(3, .int 0), (0, .ref h0), (1, .int w), (2, .int sub)]) hx hb dX0_addSubjects_1 rfl hl (by decide) rfl (fun ls hl => ?_)
    have loop2 : ∀ (n k : Nat), k ≤ nr → nr + 1 ≤ k + n → ∀ (H : Heap) (locs : List Loc), va_P D vwCl (x_W tI tZ h0 ad (x_sbS σ w sub k)) H → va_S (x_A h0 ad) s.heap H locs → ∀ ls, lv_has ls 4 [(0, .ref h0), (1, .int w), (2, .int sub), (3, .int (nI k))] → u_G p l e ({ frames := 2, cells := 0, slots := 0, locals := 41 } : Room) s m ([.ref h0, .int w, .int sub] : List Value).toArray below meth c H locs none (x_P D tI tZ h0 ad (x_sbS σ w sub nr)) (x_A h0 ad) (F0 m 2 ls []) := by
      intro n
      induction n with
      | zero => intro k h1 h2; omega
      | succ n ihk =>
        intro k hk_k hn_k   H locs hP hS ls hl
        refine lv_iload_n hx hb dX0_addSubjects_2 rfl (lv_at hl 3 rfl) ?_
        refine lv_aload_n hx hb dX0_addSubjects_3 rfl (lv_at hl 0 rfl) ?_
        refine xg_recordCount hx hb hts hin hown hK hP hl_recordCount dX0_addSubjects_4 ?_
        refine lv_icmp_ge (tgt := 34) hx hb dX0_addSubjects_7 (by decide) (fun c7 => ?_) (fun c7 => ?_)
        · have hkn : k = nr := Nat.le_antisymm hk_k (ge_t hnr (by omega) (by omega) c7)
          exact u_vret hx hb hr hlocks hS (by rw [hkn] at hP; exact hP) dX0_addSubjects_34
        · have hkn : k < nr := ge_f hnr (by omega) c7
          refine lv_iload_n hx hb dX0_addSubjects_10 rfl (lv_at hl 1 rfl) ?_
          refine lv_iload_n hx hb dX0_addSubjects_11 rfl (lv_at hl 3 rfl) ?_
          refine k_X0_has w k (by omega) ⟨hx, hb, hml, hown, hts⟩ gX0_addSubjects_X0_has ⟨Nat.le_of_ble_eq_true rfl, Nat.le_of_ble_eq_true rfl⟩ hl.1 ⟨Nat.zero_le _, Nat.zero_le _⟩ (Nat.le_of_ble_eq_true rfl) dX0_addSubjects_12 ?_
          refine lv_ifeq_b (tgt := 28) hx hb dX0_addSubjects_15 (by decide) (fun c15 => ?_) (fun c15 => ?_)
          · refine lv_iinc (v := (nI k) + 1) (lv' := [(3, .int ((nI k) + 1)), (0, .ref h0), (1, .int w), (2, .int sub)]) hx hb dX0_addSubjects_28 hl (k := 3) rfl rfl (by decide) rfl (fun ls hl => ?_)
            refine lv_goto (tgt := 2) hx hb dX0_addSubjects_31 (by decide) ?_
            exact ihk (k + 1) (by omega) (by omega)   _ _ (by rw [← x_sb_f c15]; exact hP) hS _ (lv_to (L := [(0, .ref h0), (1, .int w), (2, .int sub), (3, .int ((nI k) + 1))]) (lv_sub hl [1, 2, 3, 0] rfl) (lv_cr (lv_cr (lv_cr (lv_ci (nI_1 k) rfl)))))
          · refine lv_aload_n hx hb dX0_addSubjects_18 rfl (lv_at hl 0 rfl) ?_
            refine xg_subjectsOfRecord hx hb hts hin hown hK hP hl_subjectsOfRecord dX0_addSubjects_19 ?_
            refine lv_iload_n hx hb dX0_addSubjects_22 rfl (lv_at hl 3 rfl) ?_
            refine lv_dup2_11 hx hb dX0_addSubjects_23 rfl rfl ?_
            refine xr_subjectsOfRecord (j := k) hx hb hK hP (by omega) dX0_addSubjects_24 ?_
            refine lv_iload_n hx hb dX0_addSubjects_25 rfl (lv_at hl 2 rfl) ?_
            refine lv_ior hx hb dX0_addSubjects_26 ?_
            refine xw_subjectsOfRecord (j := k) hx hb hK hP (hD _) hS (by omega) dX0_addSubjects_27 (fun H locs hP hS => ?_)
            refine lv_iinc (v := (nI k) + 1) (lv' := [(3, .int ((nI k) + 1)), (0, .ref h0), (1, .int w), (2, .int sub)]) hx hb dX0_addSubjects_28 hl (k := 3) rfl rfl (by decide) rfl (fun ls hl => ?_)
            refine lv_goto (tgt := 2) hx hb dX0_addSubjects_31 (by decide) ?_
            exact ihk (k + 1) (by omega) (by omega)   _ _ (by rw [← x_sb_t c15]; exact hP) hS _ (lv_to (L := [(0, .ref h0), (1, .int w), (2, .int sub), (3, .int ((nI k) + 1))]) (lv_sub hl [1, 2, 3, 0] rfl) (lv_cr (lv_cr (lv_cr (lv_ci (nI_1 k) rfl)))))
    exact loop2 (nr + 1) 0 (by omega) (by omega)   _ _ (by rw [x_sb_0]; exact hP) hS _ (lv_to (L := [(0, .ref h0), (1, .int w), (2, .int sub), (3, .int 0)]) (lv_sub hl [1, 2, 3, 0] rfl) (lv_cr (lv_cr (lv_cr (lv_ci (rfl) rfl)))))
  exact key _ _ hP hS ls hl
theorem k_X0_addSubjects {p : Program} {l : Launch} {e : Env} {R : Room} {s : State} {m : MethodId} {args : Array Value} {below : List Frame} {meth : Method} {c : Code} {H : Heap} {locs : List Loc} {cells slots : Nat} {Q : State → Prop} {cc : ByteArray} {pc : Nat} {ls : Array Slot} {rest : List Value} {Ts : List Cond} (D : va_G) (tI tZ tL : ClassId) (h0 : Nat) (ad : Nat → Nat) (σ : ST) (w sub : Int32) (nr : Nat) (hnr : σ.1 6 = nI nr) (hn30 : nr ≤ 30) {A0 : Nat → Prop} {H0 : Heap} {own : String} {idx nL : Nat} (S : CallFix p m c cc nL s args Ts own) (hG : GoodIn Ts (wsV own idx RX0 yX0_addSubjects wsX0_addSubjects)) (hR : ({ frames := 2, cells := 0, slots := 0, locals := 41 } : Room).frames + 1 ≤ R.frames ∧ 8 + (4 + 11) + ({ frames := 2, cells := 0, slots := 0, locals := 41 } : Room).locals ≤ R.locals) (hsz : ls.size = nL) (hcap : cells ≤ R.cells ∧ slots ≤ R.slots) (hrm : (rest.map fun v => v.category).sum ≤ 8) (hn : (x_L h0 ad).Nodup) (hK : va_K D vwCl (kTY tI tZ tL) s) (hP : va_P D vwCl (x_W tI tZ h0 ad σ) H) (hS : va_S A0 H0 H locs) (hA : ∀ q, x_A h0 ad q → A0 q) (hdg : decode cc pc = .ok (.invokevirtual idx, 3)) (kk : ∀ (H1 : Heap) (locs1 : List Loc), va_P D vwCl (x_W tI tZ h0 ad (x_sbS σ w sub nr)) H1 → H.size ≤ H1.size → (∀ q : Nat, q < H.size → ¬ x_A h0 ad q → H1[q]? = H[q]?) → va_S A0 H0 H1 locs1 → W p l e R s m args below meth c H1 locs1 cells slots Q (F0 m (pc + 3) ls (rest))) : W p l e R s m args below meth c H locs cells slots Q (F0 m pc ls (.int sub :: .int w :: .ref h0 :: rest)) :=
  u_call (va_runV (As := [.int w, .int sub]) (rest := rest) S (c_X0_addSubjects l D tI tZ tL h0 ad σ w sub nr hnr hn30 hn) (cwV 2 S.2.2.2.2 hG rfl rfl rfl (by decide +kernel) hR) (x_pre hK hP) rfl rfl hsz rfl (lv_room hrm) hdg hcap) hS hA hA kk

set_option maxHeartbeats 4000000 in
set_option maxRecDepth 100000 in
theorem c_X0_countDaysWithConsent (l : Launch) (D : va_G) (tI tZ tL : ClassId) (h0 : Nat) (ad : Nat → Nat) (σ : ST) (dd : Int32) (np : Nat) (hnp : σ.1 1 = nI np) (hn8 : np ≤ 8) (hn : (x_L h0 ad).Nodup) : Met l yX0_countDaysWithConsent wsX0_countDaysWithConsent ({ frames := 2, cells := 0, slots := 0, locals := 41 } : Room) (va_Pc ([.ref h0, .int dd] : List Value) (x_B D tI tZ tL h0 ad σ)) (u_Q none (x_P D tI tZ h0 ad (x_cdA σ np dd)) (x_A h0 ad)) 0 0 (x_A h0 ad) := by
  refine u_met (cc := cX0_countDaysWithConsent) (maxL := 4) (ret := none) (by decide) rfl (Nat.le_of_ble_eq_true rfl) ?_
  intro p e s m below meth c hx hb hml hr hts hown hlocks hB hS ls hl
  have hD : ∀ σ : ST, va_D (x_A h0 ad) (x_W tI tZ h0 ad σ) := fun σ => x_D σ hn (fun _ h => h)
  have hown : s.vm.findClass RX0 = some m.cls := hown
  obtain ⟨hP, hK⟩ := hB
  have hl : lv_has ls 4 [(0, .ref h0), (1, .int dd)] := hl
  have hin : ∀ w ∈ wsX00, w ∈ wsX0_countDaysWithConsent := in_X0_countDaysWithConsent
  have hl_consentDays : xl_consentDays ∈ wsX0_countDaysWithConsent := by decide +kernel
  have hl_consentsOfSubject : xl_consentsOfSubject ∈ wsX0_countDaysWithConsent := by decide +kernel
  have hl_purposeCount : xl_purposeCount ∈ wsX0_countDaysWithConsent := by decide +kernel
  have key : ∀ (H : Heap) (locs : List Loc), va_P D vwCl (x_W tI tZ h0 ad σ) H → va_S (x_A h0 ad) s.heap H locs → ∀ ls, lv_has ls 4 [(0, .ref h0), (1, .int dd)] → u_G p l e ({ frames := 2, cells := 0, slots := 0, locals := 41 } : Room) s m ([.ref h0, .int dd] : List Value).toArray below meth c H locs none (x_P D tI tZ h0 ad (x_cdA σ np dd)) (x_A h0 ad) (F0 m 0 ls []) := by
    intro H locs hP hS ls hl
    refine lv_iconst (v := 0) hx hb dX0_countDaysWithConsent_0 (by decide) ?_
    refine lv_istore_n (lv' := [(2, .int 0), (0, .ref h0), (1, .int dd)]) hx hb dX0_countDaysWithConsent_1 rfl hl (by decide) rfl (fun ls hl => ?_)
    have loop2 : ∀ (n i : Nat), i ≤ 12 → 12 + 1 ≤ i + n → ∀ (H : Heap) (locs : List Loc), va_P D vwCl (x_W tI tZ h0 ad (x_cd σ np dd i 0)) H → va_S (x_A h0 ad) s.heap H locs → ∀ ls, lv_has ls 4 [(0, .ref h0), (1, .int dd), (2, .int (nI i))] → u_G p l e ({ frames := 2, cells := 0, slots := 0, locals := 41 } : Room) s m ([.ref h0, .int dd] : List Value).toArray below meth c H locs none (x_P D tI tZ h0 ad (x_cdA σ np dd)) (x_A h0 ad) (F0 m 2 ls []) := by
      intro n
      induction n with
      | zero => intro i h1 h2; omega
      | succ n ihi =>
        intro i hk_i hn_i   H locs hP hS ls hl
        refine lv_iload_n hx hb dX0_countDaysWithConsent_2 rfl (lv_at hl 2 rfl) ?_
        refine lv_bipush (v := 12) hx hb dX0_countDaysWithConsent_3 (by decide) ?_
        refine lv_icmp_ge (tgt := 57) hx hb dX0_countDaysWithConsent_5 (by decide) (fun c5 => ?_) (fun c5 => ?_)
        · have hki : i = 12 := Nat.le_antisymm hk_i (ge_t (n := 12) rfl (by omega) (by omega) c5)
          exact u_vret hx hb hr hlocks hS (by rw [hki] at hP; exact hP) dX0_countDaysWithConsent_57
        · have hki : i < 12 := ge_f (n := 12) rfl (by omega) c5
          refine lv_iconst (v := 0) hx hb dX0_countDaysWithConsent_8 (by decide) ?_
          refine lv_istore_n (lv' := [(3, .int 0), (0, .ref h0), (1, .int dd), (2, .int (nI i))]) hx hb dX0_countDaysWithConsent_9 rfl hl (by decide) rfl (fun ls hl => ?_)
          have loop10 : ∀ (n q : Nat), q ≤ np → np + 1 ≤ q + n → ∀ (H : Heap) (locs : List Loc), va_P D vwCl (x_W tI tZ h0 ad (x_cd σ np dd i q)) H → va_S (x_A h0 ad) s.heap H locs → ∀ ls, lv_has ls 4 [(0, .ref h0), (1, .int dd), (2, .int (nI i)), (3, .int (nI q))] → u_G p l e ({ frames := 2, cells := 0, slots := 0, locals := 41 } : Room) s m ([.ref h0, .int dd] : List Value).toArray below meth c H locs none (x_P D tI tZ h0 ad (x_cdA σ np dd)) (x_A h0 ad) (F0 m 10 ls []) := by
            intro n
            induction n with
            | zero => intro q h1 h2; omega
            | succ n ihq =>
              intro q hk_q hn_q   H locs hP hS ls hl
              refine lv_iload_n hx hb dX0_countDaysWithConsent_10 rfl (lv_at hl 3 rfl) ?_
              refine lv_aload_n hx hb dX0_countDaysWithConsent_11 rfl (lv_at hl 0 rfl) ?_
              refine xg_purposeCount hx hb hts hin hown hK hP hl_purposeCount dX0_countDaysWithConsent_12 ?_
              refine lv_icmp_ge (tgt := 51) hx hb dX0_countDaysWithConsent_15 (by decide) (fun c15 => ?_) (fun c15 => ?_)
              · have hkq : q = np := Nat.le_antisymm hk_q (ge_t hnp (by omega) (by omega) c15)
                refine lv_iinc (v := (nI i) + 1) (lv' := [(2, .int ((nI i) + 1)), (0, .ref h0), (1, .int dd), (3, .int (nI q))]) hx hb dX0_countDaysWithConsent_51 hl (k := 2) rfl rfl (by decide) rfl (fun ls hl => ?_)
                refine lv_goto (tgt := 2) hx hb dX0_countDaysWithConsent_54 (by decide) ?_
                exact ihi (i + 1) (by omega) (by omega)   _ _ (by rw [hkq, x_cd_s] at hP; exact hP) hS _ (lv_to (L := [(0, .ref h0), (1, .int dd), (2, .int ((nI i) + 1))]) (lv_sub hl [1, 2, 0] rfl) (lv_cr (lv_cr (lv_ci (nI_1 i) rfl))))
              · have hkq : q < np := ge_f hnp (by omega) c15
                refine lv_aload_n hx hb dX0_countDaysWithConsent_18 rfl (lv_at hl 0 rfl) ?_
                refine xg_consentsOfSubject hx hb hts hin hown hK hP hl_consentsOfSubject dX0_countDaysWithConsent_19 ?_
                refine lv_iload_n hx hb dX0_countDaysWithConsent_22 rfl (lv_at hl 2 rfl) ?_
                refine xr_consentsOfSubject (j := i) hx hb hK hP (by omega) dX0_countDaysWithConsent_23 ?_
                refine lv_iload_n hx hb dX0_countDaysWithConsent_24 rfl (lv_at hl 3 rfl) ?_
                refine k_X0_has ((x_cd σ np dd i q).2 4 i) q (by omega) ⟨hx, hb, hml, hown, hts⟩ gX0_countDaysWithConsent_X0_has ⟨Nat.le_of_ble_eq_true rfl, Nat.le_of_ble_eq_true rfl⟩ hl.1 ⟨Nat.zero_le _, Nat.zero_le _⟩ (Nat.le_of_ble_eq_true rfl) dX0_countDaysWithConsent_25 ?_
                refine lv_ifeq_b (tgt := 45) hx hb dX0_countDaysWithConsent_28 (by decide) (fun c28 => ?_) (fun c28 => ?_)
                · refine lv_iinc (v := (nI q) + 1) (lv' := [(3, .int ((nI q) + 1)), (0, .ref h0), (1, .int dd), (2, .int (nI i))]) hx hb dX0_countDaysWithConsent_45 hl (k := 3) rfl rfl (by decide) rfl (fun ls hl => ?_)
                  refine lv_goto (tgt := 10) hx hb dX0_countDaysWithConsent_48 (by decide) ?_
                  exact ihq (q + 1) (by omega) (by omega)   _ _ (by rw [← x_cd_f (σ := σ) c28]; exact hP) hS _ (lv_to (L := [(0, .ref h0), (1, .int dd), (2, .int (nI i)), (3, .int ((nI q) + 1))]) (lv_sub hl [1, 2, 3, 0] rfl) (lv_cr (lv_cr (lv_cr (lv_ci (nI_1 q) rfl)))))
                · refine lv_aload_n hx hb dX0_countDaysWithConsent_31 rfl (lv_at hl 0 rfl) ?_
                  refine xg_consentDays hx hb hts hin hown hK hP hl_consentDays dX0_countDaysWithConsent_32 ?_
                  refine lv_iload_n hx hb dX0_countDaysWithConsent_35 rfl (lv_at hl 2 rfl) ?_
                  refine lv_iload_n hx hb dX0_countDaysWithConsent_36 rfl (lv_at hl 3 rfl) ?_
                  refine k_X0_consentIndex i q ⟨hx, hb, hml, hown, hts⟩ gX0_countDaysWithConsent_X0_consentIndex ⟨Nat.le_of_ble_eq_true rfl, Nat.le_of_ble_eq_true rfl⟩ hl.1 ⟨Nat.zero_le _, Nat.zero_le _⟩ (Nat.le_of_ble_eq_true rfl) dX0_countDaysWithConsent_37 ?_
                  refine lv_dup2_11 hx hb dX0_countDaysWithConsent_40 rfl rfl ?_
                  refine xr_consentDays (j := i * 8 + q) hx hb hK hP (by omega) dX0_countDaysWithConsent_41 ?_
                  refine lv_iload_n hx hb dX0_countDaysWithConsent_42 rfl (lv_at hl 1 rfl) ?_
                  refine lv_iadd hx hb dX0_countDaysWithConsent_43 ?_
                  refine xw_consentDays (j := i * 8 + q) hx hb hK hP (hD _) hS (by omega) dX0_countDaysWithConsent_44 (fun H locs hP hS => ?_)
                  refine lv_iinc (v := (nI q) + 1) (lv' := [(3, .int ((nI q) + 1)), (0, .ref h0), (1, .int dd), (2, .int (nI i))]) hx hb dX0_countDaysWithConsent_45 hl (k := 3) rfl rfl (by decide) rfl (fun ls hl => ?_)
                  refine lv_goto (tgt := 10) hx hb dX0_countDaysWithConsent_48 (by decide) ?_
                  exact ihq (q + 1) (by omega) (by omega)   _ _ (by rw [← x_cd_t (σ := σ) hkq hn8 c28]; exact hP) hS _ (lv_to (L := [(0, .ref h0), (1, .int dd), (2, .int (nI i)), (3, .int ((nI q) + 1))]) (lv_sub hl [1, 2, 3, 0] rfl) (lv_cr (lv_cr (lv_cr (lv_ci (nI_1 q) rfl)))))
          exact loop10 (np + 1) 0 (by omega) (by omega)   _ _ (hP) hS _ (lv_to (L := [(0, .ref h0), (1, .int dd), (2, .int (nI i)), (3, .int 0)]) (lv_sub hl [1, 2, 3, 0] rfl) (lv_cr (lv_cr (lv_cr (lv_ci (rfl) rfl)))))
    exact loop2 (12 + 1) 0 (by omega) (by omega)   _ _ (by rw [x_cd_0]; exact hP) hS _ (lv_to (L := [(0, .ref h0), (1, .int dd), (2, .int 0)]) (lv_sub hl [1, 2, 0] rfl) (lv_cr (lv_cr (lv_ci (rfl) rfl))))
  exact key _ _ hP hS ls hl
theorem k_X0_countDaysWithConsent {p : Program} {l : Launch} {e : Env} {R : Room} {s : State} {m : MethodId} {args : Array Value} {below : List Frame} {meth : Method} {c : Code} {H : Heap} {locs : List Loc} {cells slots : Nat} {Q : State → Prop} {cc : ByteArray} {pc : Nat} {ls : Array Slot} {rest : List Value} {Ts : List Cond} (D : va_G) (tI tZ tL : ClassId) (h0 : Nat) (ad : Nat → Nat) (σ : ST) (dd : Int32) (np : Nat) (hnp : σ.1 1 = nI np) (hn8 : np ≤ 8) {A0 : Nat → Prop} {H0 : Heap} {own : String} {idx nL : Nat} (S : CallFix p m c cc nL s args Ts own) (hG : GoodIn Ts (wsV own idx RX0 yX0_countDaysWithConsent wsX0_countDaysWithConsent)) (hR : ({ frames := 2, cells := 0, slots := 0, locals := 41 } : Room).frames + 1 ≤ R.frames ∧ 8 + (4 + 11) + ({ frames := 2, cells := 0, slots := 0, locals := 41 } : Room).locals ≤ R.locals) (hsz : ls.size = nL) (hcap : cells ≤ R.cells ∧ slots ≤ R.slots) (hrm : (rest.map fun v => v.category).sum ≤ 8) (hn : (x_L h0 ad).Nodup) (hK : va_K D vwCl (kTY tI tZ tL) s) (hP : va_P D vwCl (x_W tI tZ h0 ad σ) H) (hS : va_S A0 H0 H locs) (hA : ∀ q, x_A h0 ad q → A0 q) (hdg : decode cc pc = .ok (.invokevirtual idx, 3)) (kk : ∀ (H1 : Heap) (locs1 : List Loc), va_P D vwCl (x_W tI tZ h0 ad (x_cdA σ np dd)) H1 → H.size ≤ H1.size → (∀ q : Nat, q < H.size → ¬ x_A h0 ad q → H1[q]? = H[q]?) → va_S A0 H0 H1 locs1 → W p l e R s m args below meth c H1 locs1 cells slots Q (F0 m (pc + 3) ls (rest))) : W p l e R s m args below meth c H locs cells slots Q (F0 m pc ls (.int dd :: .ref h0 :: rest)) :=
  u_call (va_runV (As := [.int dd]) (rest := rest) S (c_X0_countDaysWithConsent l D tI tZ tL h0 ad σ dd np hnp hn8 hn) (cwV 1 S.2.2.2.2 hG rfl rfl rfl (by decide +kernel) hR) (x_pre hK hP) rfl rfl hsz rfl (lv_room hrm) hdg hcap) hS hA hA kk

set_option maxHeartbeats 4000000 in
set_option maxRecDepth 100000 in
theorem c_X0_addRecord (l : Launch) (D : va_G) (tI tZ tL : ClassId) (h0 : Nat) (ad : Nat → Nat) (σ : ST) (sub P so : Int32) (nr : Nat) (hnr : σ.1 6 = nI nr) (hr30 : nr < 30) (np : Nat) (hnp : σ.1 1 = nI np) (hn8 : np ≤ 8) (hop : x_open σ np P sub (σ.1 0) = true) (hn : (x_L h0 ad).Nodup) : Met l yX0_addRecord wsX0_addRecord ({ frames := 4, cells := 0, slots := 0, locals := 89 } : Room) (va_Pc ([.ref h0, .int sub, .int P, .int so] : List Value) (x_B D tI tZ tL h0 ad σ)) (u_Q (some (.int (nI nr))) (x_P D tI tZ h0 ad (x_addR σ nr sub P so)) (x_A h0 ad)) 0 0 (x_A h0 ad) := by
  refine u_met (cc := cX0_addRecord) (maxL := 5) (ret := (some .int)) (by decide) rfl (Nat.le_of_ble_eq_true rfl) ?_
  intro p e s m below meth c hx hb hml hr hts hown hlocks hB hS ls hl
  have hD : ∀ σ : ST, va_D (x_A h0 ad) (x_W tI tZ h0 ad σ) := fun σ => x_D σ hn (fun _ h => h)
  have hown : s.vm.findClass RX0 = some m.cls := hown
  obtain ⟨hP, hK⟩ := hB
  have hl : lv_has ls 5 [(0, .ref h0), (1, .int sub), (2, .int P), (3, .int so)] := hl
  have hin : ∀ w ∈ wsX00, w ∈ wsX0_addRecord := in_X0_addRecord
  have hl_dayAdded : xl_dayAdded ∈ wsX0_addRecord := by decide +kernel
  have hl_presentRecords : xl_presentRecords ∈ wsX0_addRecord := by decide +kernel
  have hl_purposesOfRecord : xl_purposesOfRecord ∈ wsX0_addRecord := by decide +kernel
  have hl_recordCount : xl_recordCount ∈ wsX0_addRecord := by decide +kernel
  have hl_sourcesOfRecord : xl_sourcesOfRecord ∈ wsX0_addRecord := by decide +kernel
  have hl_subjectsOfRecord : xl_subjectsOfRecord ∈ wsX0_addRecord := by decide +kernel
  have hl_today : xl_today ∈ wsX0_addRecord := by decide +kernel
  have key : ∀ (H : Heap) (locs : List Loc), va_P D vwCl (x_W tI tZ h0 ad σ) H → va_S (x_A h0 ad) s.heap H locs → ∀ ls, lv_has ls 5 [(0, .ref h0), (1, .int sub), (2, .int P), (3, .int so)] → u_G p l e ({ frames := 4, cells := 0, slots := 0, locals := 89 } : Room) s m ([.ref h0, .int sub, .int P, .int so] : List Value).toArray below meth c H locs (some (.int (nI nr))) (x_P D tI tZ h0 ad (x_addR σ nr sub P so)) (x_A h0 ad) (F0 m 0 ls []) := by
    intro H locs hP hS ls hl
    refine lv_aload_n hx hb dX0_addRecord_0 rfl (lv_at hl 0 rfl) ?_
    refine xg_recordCount hx hb hts hin hown hK hP hl_recordCount dX0_addRecord_1 ?_
    refine lv_bipush (v := 30) hx hb dX0_addRecord_4 (by decide) ?_
    refine lv_icmp_lt (tgt := 19) hx hb dX0_addRecord_6 (by decide) (fun c6 => ?_) (fun c6 => absurd (show σ.1 6 < 30 by rw [hnr]; exact nI_lt (b := 30) hr30 (by decide)) c6)
    refine lv_aload_n hx hb dX0_addRecord_19 rfl (lv_at hl 0 rfl) ?_
    refine lv_iload_n hx hb dX0_addRecord_20 rfl (lv_at hl 2 rfl) ?_
    refine lv_iload_n hx hb dX0_addRecord_21 rfl (lv_at hl 1 rfl) ?_
    refine lv_aload_n hx hb dX0_addRecord_22 rfl (lv_at hl 0 rfl) ?_
    refine xg_today hx hb hts hin hown hK hP hl_today dX0_addRecord_23 ?_
    refine k_X0_isAnyOpen D tI tZ tL h0 ad σ P sub (σ.1 0) np hnp hn8 ⟨hx, hb, hml, hown, hts⟩ gX0_addRecord_X0_isAnyOpen ⟨Nat.le_of_ble_eq_true rfl, Nat.le_of_ble_eq_true rfl⟩ hl.1 ⟨Nat.zero_le _, Nat.zero_le _⟩ (Nat.le_of_ble_eq_true rfl) hK hP dX0_addRecord_26 ?_
    refine lv_ifne_b (tgt := 42) hx hb dX0_addRecord_29 (by decide) (fun c29 => ?_) (fun c29 => absurd c29 (by rw [hop]; decide))
    refine lv_aload_n hx hb dX0_addRecord_42 rfl (lv_at hl 0 rfl) ?_
    refine xg_recordCount hx hb hts hin hown hK hP hl_recordCount dX0_addRecord_43 ?_
    refine lv_topc (y := nI nr) (hnr) ?_
    refine lv_istore (lv' := [(4, .int (nI nr)), (0, .ref h0), (1, .int sub), (2, .int P), (3, .int so)]) hx hb dX0_addRecord_46 hl (by decide) rfl (fun ls hl => ?_)
    refine lv_aload_n hx hb dX0_addRecord_48 rfl (lv_at hl 1 rfl) ?_
    refine xg_dayAdded hx hb hts hin hown hK hP hl_dayAdded dX0_addRecord_49 ?_
    refine lv_iload hx hb dX0_addRecord_52 (lv_at hl 0 rfl) ?_
    refine lv_aload_n hx hb dX0_addRecord_54 rfl (lv_at hl 1 rfl) ?_
    refine xg_today hx hb hts hin hown hK hP hl_today dX0_addRecord_55 ?_
    refine xw_dayAdded (j := nr) hx hb hK hP (hD _) hS (by omega) dX0_addRecord_58 (fun H locs hP hS => ?_)
    refine lv_aload_n hx hb dX0_addRecord_59 rfl (lv_at hl 1 rfl) ?_
    refine xg_purposesOfRecord hx hb hts hin hown hK hP hl_purposesOfRecord dX0_addRecord_60 ?_
    refine lv_iload hx hb dX0_addRecord_63 (lv_at hl 0 rfl) ?_
    refine lv_iload_n hx hb dX0_addRecord_65 rfl (lv_at hl 3 rfl) ?_
    refine xw_purposesOfRecord (j := nr) hx hb hK hP (hD _) hS (by omega) dX0_addRecord_66 (fun H locs hP hS => ?_)
    refine lv_aload_n hx hb dX0_addRecord_67 rfl (lv_at hl 1 rfl) ?_
    refine xg_subjectsOfRecord hx hb hts hin hown hK hP hl_subjectsOfRecord dX0_addRecord_68 ?_
    refine lv_iload hx hb dX0_addRecord_71 (lv_at hl 0 rfl) ?_
    refine lv_iload_n hx hb dX0_addRecord_73 rfl (lv_at hl 2 rfl) ?_
    refine xw_subjectsOfRecord (j := nr) hx hb hK hP (hD _) hS (by omega) dX0_addRecord_74 (fun H locs hP hS => ?_)
    refine lv_aload_n hx hb dX0_addRecord_75 rfl (lv_at hl 1 rfl) ?_
    refine xg_sourcesOfRecord hx hb hts hin hown hK hP hl_sourcesOfRecord dX0_addRecord_76 ?_
    refine lv_iload hx hb dX0_addRecord_79 (lv_at hl 0 rfl) ?_
    refine lv_iload_n hx hb dX0_addRecord_81 rfl (lv_at hl 4 rfl) ?_
    refine xw_sourcesOfRecord (j := nr) hx hb hK hP (hD _) hS (by omega) dX0_addRecord_82 (fun H locs hP hS => ?_)
    refine lv_aload_n hx hb dX0_addRecord_83 rfl (lv_at hl 1 rfl) ?_
    refine lv_dup hx hb dX0_addRecord_84 rfl ?_
    refine xg_presentRecords hx hb hts hin hown hK hP hl_presentRecords dX0_addRecord_85 ?_
    refine lv_iload hx hb dX0_addRecord_88 (lv_at hl 0 rfl) ?_
    refine k_X0_bit nr ⟨hx, hb, hml, hown, hts⟩ gX0_addRecord_X0_bit ⟨Nat.le_of_ble_eq_true rfl, Nat.le_of_ble_eq_true rfl⟩ hl.1 ⟨Nat.zero_le _, Nat.zero_le _⟩ (Nat.le_of_ble_eq_true rfl) dX0_addRecord_90 ?_
    refine lv_ior hx hb dX0_addRecord_93 ?_
    refine xp_presentRecords hx hb hts hin hown hK hP (hD _) hS hl_presentRecords dX0_addRecord_94 (fun H locs hP hS => ?_)
    refine lv_aload_n hx hb dX0_addRecord_97 rfl (lv_at hl 1 rfl) ?_
    refine lv_dup hx hb dX0_addRecord_98 rfl ?_
    refine xg_recordCount hx hb hts hin hown hK hP hl_recordCount dX0_addRecord_99 ?_
    refine lv_iconst (v := 1) hx hb dX0_addRecord_102 (by decide) ?_
    refine lv_iadd hx hb dX0_addRecord_103 ?_
    refine xp_recordCount hx hb hts hin hown hK hP (hD _) hS hl_recordCount dX0_addRecord_104 (fun H locs hP hS => ?_)
    refine lv_iload hx hb dX0_addRecord_107 (lv_at hl 0 rfl) ?_
    exact u_iret hx hb hr hlocks hS (by unfold x_addR; rw [← nI_1, ← hnr]; exact hP) (rfl) dX0_addRecord_109
  exact key _ _ hP hS ls hl
theorem k_X0_addRecord {p : Program} {l : Launch} {e : Env} {R : Room} {s : State} {m : MethodId} {args : Array Value} {below : List Frame} {meth : Method} {c : Code} {H : Heap} {locs : List Loc} {cells slots : Nat} {Q : State → Prop} {cc : ByteArray} {pc : Nat} {ls : Array Slot} {rest : List Value} {Ts : List Cond} (D : va_G) (tI tZ tL : ClassId) (h0 : Nat) (ad : Nat → Nat) (σ : ST) (sub P so : Int32) (nr : Nat) (hnr : σ.1 6 = nI nr) (hr30 : nr < 30) (np : Nat) (hnp : σ.1 1 = nI np) (hn8 : np ≤ 8) (hop : x_open σ np P sub (σ.1 0) = true) {A0 : Nat → Prop} {H0 : Heap} {own : String} {idx nL : Nat} (S : CallFix p m c cc nL s args Ts own) (hG : GoodIn Ts (wsV own idx RX0 yX0_addRecord wsX0_addRecord)) (hR : ({ frames := 4, cells := 0, slots := 0, locals := 89 } : Room).frames + 1 ≤ R.frames ∧ 8 + (5 + 11) + ({ frames := 4, cells := 0, slots := 0, locals := 89 } : Room).locals ≤ R.locals) (hsz : ls.size = nL) (hcap : cells ≤ R.cells ∧ slots ≤ R.slots) (hrm : (rest.map fun v => v.category).sum ≤ 8) (hn : (x_L h0 ad).Nodup) (hK : va_K D vwCl (kTY tI tZ tL) s) (hP : va_P D vwCl (x_W tI tZ h0 ad σ) H) (hS : va_S A0 H0 H locs) (hA : ∀ q, x_A h0 ad q → A0 q) (hdg : decode cc pc = .ok (.invokevirtual idx, 3)) (kk : ∀ (H1 : Heap) (locs1 : List Loc), va_P D vwCl (x_W tI tZ h0 ad (x_addR σ nr sub P so)) H1 → H.size ≤ H1.size → (∀ q : Nat, q < H.size → ¬ x_A h0 ad q → H1[q]? = H[q]?) → va_S A0 H0 H1 locs1 → W p l e R s m args below meth c H1 locs1 cells slots Q (F0 m (pc + 3) ls (.int (nI nr) :: rest))) : W p l e R s m args below meth c H locs cells slots Q (F0 m pc ls (.int so :: .int P :: .int sub :: .ref h0 :: rest)) :=
  u_call (va_runV (As := [.int sub, .int P, .int so]) (rest := rest) S (c_X0_addRecord l D tI tZ tL h0 ad σ sub P so nr hnr hr30 np hnp hn8 hop hn) (cwV 3 S.2.2.2.2 hG rfl rfl rfl (by decide +kernel) hR) (x_pre hK hP) rfl rfl hsz rfl (lv_room hrm) hdg hcap) hS hA hA kk

