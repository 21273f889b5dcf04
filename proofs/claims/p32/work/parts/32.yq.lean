set_option maxHeartbeats 4000000 in
set_option maxRecDepth 100000 in
theorem c_L_has (l : Launch) (set : Int32) (k : Nat) (hk : k < 32) : Met l yL_has wsL_has ({ frames := 0, cells := 0, slots := 0, locals := 0 } : Room) (va_Pc ([.int set, .int (nI k)] : List Value) (fun _ => True)) (q_Q (some (.int (b01 (bt set k))))) 0 0 q_no := by
  refine q_met (cc := cL_has) (maxL := 2) (ret := (some .boolean)) (by decide) rfl (Nat.le_of_ble_eq_true rfl) ?_
  intro p e s m below meth c hx hb hml hr hts hown hlocks hB ls hl
  have hown : s.vm.findClass RL = some m.cls := hown
  have hl : lv_has ls 2 [(0, .int set), (1, .int (nI k))] := hl
  refine lv_iload_n hx hb dL_has_0 rfl (lv_at hl 0 rfl) ?_
  refine lv_iload_n hx hb dL_has_1 rfl (lv_at hl 1 rfl) ?_
  refine lv_ishr hx hb dL_has_2 ?_
  refine lv_iconst (v := 1) hx hb dL_has_3 (by decide) ?_
  refine lv_iand hx hb dL_has_4 ?_
  refine lv_iconst (v := 1) hx hb dL_has_5 (by decide) ?_
  refine lv_icmp_ne (tgt := 13) hx hb dL_has_6 (by decide) (fun c6 => ?_) (fun c6 => ?_)
  · refine lv_iconst (v := 0) hx hb dL_has_13 (by decide) ?_
    exact q_zret hx hb hr hlocks (by rw [m_has_f hk c6]; rfl) dL_has_14
  · refine lv_iconst (v := 1) hx hb dL_has_9 (by decide) ?_
    refine lv_goto (tgt := 14) hx hb dL_has_10 (by decide) ?_
    exact q_zret hx hb hr hlocks (by rw [m_has_t hk c6]; rfl) dL_has_14
theorem k_L_has {p : Program} {l : Launch} {e : Env} {R : Room} {s : State} {m : MethodId} {args : Array Value} {below : List Frame} {meth : Method} {c : Code} {H : Heap} {locs : List Loc} {cells slots : Nat} {Q : State → Prop} {cc : ByteArray} {pc : Nat} {ls : Array Slot} {rest : List Value} {Ts : List Cond} (set : Int32) (k : Nat) (hk : k < 32) {own : String} {idx nL : Nat} (S : CallFix p m c cc nL s args Ts own) (hG : GoodIn Ts (va_wsS own idx yL_has wsL_has)) (hR : ({ frames := 0, cells := 0, slots := 0, locals := 0 } : Room).frames + 1 ≤ R.frames ∧ 8 + (2 + 11) + ({ frames := 0, cells := 0, slots := 0, locals := 0 } : Room).locals ≤ R.locals) (hsz : ls.size = nL) (hcap : cells ≤ R.cells ∧ slots ≤ R.slots) (hrm : (rest.map fun v => v.category).sum ≤ 8) (hdg : decode cc pc = .ok (.invokestatic idx, 3)) (kk : W p l e R s m args below meth c H locs cells slots Q (F0 m (pc + 3) ls (.int (b01 (bt set k)) :: rest))) : W p l e R s m args below meth c H locs cells slots Q (F0 m pc ls (.int (nI k) :: .int set :: rest)) :=
  q_call (va_runS (As := [.int set, .int (nI k)]) (rest := rest) S (c_L_has l set k hk) (va_cwS 2 S.2.2.2.2 hG rfl rfl rfl (by decide +kernel) hR) ⟨ty_blind (fun _ _ _ _ h => h), fun U _ _ => ⟨rfl, trivial⟩⟩ rfl rfl hsz rfl (lv_room hrm) hdg hcap) kk

set_option maxHeartbeats 4000000 in
set_option maxRecDepth 100000 in
theorem c_L_low (l : Launch) (v : Int32) (n : Nat) (hn0 : 0 < n) (hn31 : n < 2 ^ 31) : Met l yL_low wsL_low ({ frames := 0, cells := 0, slots := 0, locals := 0 } : Room) (va_Pc ([.int v, .int (nI n)] : List Value) (fun _ => True)) (q_Q (some (.int (y_low v n)))) 0 0 q_no := by
  refine q_met (cc := cL_low) (maxL := 2) (ret := (some .int)) (by decide) rfl (Nat.le_of_ble_eq_true rfl) ?_
  intro p e s m below meth c hx hb hml hr hts hown hlocks hB ls hl
  have hown : s.vm.findClass RL = some m.cls := hown
  have hl : lv_has ls 2 [(0, .int v), (1, .int (nI n))] := hl
  refine lv_iload_n hx hb dL_low_0 rfl (lv_at hl 0 rfl) ?_
  refine lv_ldc hx hb hown (hts (.constant RL 9 2147483647) (by decide +kernel)) dL_low_1 ?_
  refine lv_iand hx hb dL_low_3 ?_
  refine lv_iload_n hx hb dL_low_4 rfl (lv_at hl 1 rfl) ?_
  refine lv_irem hx hb dL_low_5 (fun h => by have := (nI_eq (b := 0) hn31 (by decide)).mp h; omega) ?_
  exact q_iret hx hb hr hlocks (rfl) dL_low_6
theorem k_L_low {p : Program} {l : Launch} {e : Env} {R : Room} {s : State} {m : MethodId} {args : Array Value} {below : List Frame} {meth : Method} {c : Code} {H : Heap} {locs : List Loc} {cells slots : Nat} {Q : State → Prop} {cc : ByteArray} {pc : Nat} {ls : Array Slot} {rest : List Value} {Ts : List Cond} (v : Int32) (n : Nat) (hn0 : 0 < n) (hn31 : n < 2 ^ 31) {own : String} {idx nL : Nat} (S : CallFix p m c cc nL s args Ts own) (hG : GoodIn Ts (va_wsS own idx yL_low wsL_low)) (hR : ({ frames := 0, cells := 0, slots := 0, locals := 0 } : Room).frames + 1 ≤ R.frames ∧ 8 + (2 + 11) + ({ frames := 0, cells := 0, slots := 0, locals := 0 } : Room).locals ≤ R.locals) (hsz : ls.size = nL) (hcap : cells ≤ R.cells ∧ slots ≤ R.slots) (hrm : (rest.map fun v => v.category).sum ≤ 8) (hdg : decode cc pc = .ok (.invokestatic idx, 3)) (kk : W p l e R s m args below meth c H locs cells slots Q (F0 m (pc + 3) ls (.int (y_low v n) :: rest))) : W p l e R s m args below meth c H locs cells slots Q (F0 m pc ls (.int (nI n) :: .int v :: rest)) :=
  q_call (va_runS (As := [.int v, .int (nI n)]) (rest := rest) S (c_L_low l v n hn0 hn31) (va_cwS 2 S.2.2.2.2 hG rfl rfl rfl (by decide +kernel) hR) ⟨ty_blind (fun _ _ _ _ h => h), fun U _ _ => ⟨rfl, trivial⟩⟩ rfl rfl hsz rfl (lv_room hrm) hdg hcap) kk

set_option maxHeartbeats 4000000 in
set_option maxRecDepth 100000 in
theorem c_L_isAllowed (l : Launch) (D : va_G) (tI tZ tL : ClassId) (h0 : Nat) (ad : Nat → Nat) (σ : ST) (q : Nat) (of : Int32) (hq8 : q < 8) : Met l yL_isAllowed wsL_isAllowed ({ frames := 1, cells := 0, slots := 0, locals := 21 } : Room) (va_Pc ([.int (nI q), .int of, .ref (ad 1)] : List Value) (y_B D tI tZ tL h0 ad σ)) (q_Q (some (.int (b01 (y_alf (σ.2 1) q of 6))))) 0 0 q_no := by
  refine q_met (cc := cL_isAllowed) (maxL := 5) (ret := (some .boolean)) (by decide) rfl (Nat.le_of_ble_eq_true rfl) ?_
  intro p e s m below meth c hx hb hml hr hts hown hlocks hB ls hl
  have hown : s.vm.findClass RL = some m.cls := hown
  obtain ⟨hP, hK⟩ := hB
  have hl : lv_has ls 5 [(0, .int (nI q)), (1, .int of), (2, .ref (ad 1))] := hl
  refine lv_iconst (v := 1) hx hb dL_isAllowed_0 (by decide) ?_
  refine lv_istore_n (lv' := [(3, .int 1), (0, .int (nI q)), (1, .int of), (2, .ref (ad 1))]) hx hb dL_isAllowed_1 rfl hl (by decide) rfl (fun ls hl => ?_)
  refine lv_iconst (v := 0) hx hb dL_isAllowed_2 (by decide) ?_
  refine lv_istore (lv' := [(4, .int 0), (3, .int 1), (0, .int (nI q)), (1, .int of), (2, .ref (ad 1))]) hx hb dL_isAllowed_3 hl (by decide) rfl (fun ls hl => ?_)
  have loop5 : ∀ (n k : Nat), k ≤ 6 → 6 + 1 ≤ k + n → ∀ ls, lv_has ls 5 [(0, .int (nI q)), (1, .int of), (2, .ref (ad 1)), (3, .int (b01 (y_alf (σ.2 1) q of k))), (4, .int (nI k))] → q_G p l e ({ frames := 1, cells := 0, slots := 0, locals := 21 } : Room) s m ([.int (nI q), .int of, .ref (ad 1)] : List Value).toArray below meth c (some (.int (b01 (y_alf (σ.2 1) q of 6)))) (F0 m 5 ls []) := by
    intro n
    induction n with
    | zero => intro k h1 h2; omega
    | succ n ihk =>
      intro k hk_k hn_k   ls hl
      refine lv_iload hx hb dL_isAllowed_5 (lv_at hl 4 rfl) ?_
      refine lv_bipush (v := 6) hx hb dL_isAllowed_7 (by decide) ?_
      refine lv_icmp_ge (tgt := 60) hx hb dL_isAllowed_9 (by decide) (fun c9 => ?_) (fun c9 => ?_)
      · have hkn : k = 6 := Nat.le_antisymm hk_k (ge_t (n := 6) rfl (by omega) (by omega) c9)
        refine lv_iload_n hx hb dL_isAllowed_60 rfl (lv_at hl 3 rfl) ?_
        exact q_zret hx hb hr hlocks (by rw [hkn]) dL_isAllowed_61
      · have hkn : k < 6 := ge_f (n := 6) rfl (by omega) c9
        refine lv_iload_n hx hb dL_isAllowed_12 rfl (lv_at hl 3 rfl) ?_
        refine lv_ifeq_b (tgt := 52) hx hb dL_isAllowed_13 (by decide) (fun c13 => ?_) (fun c13 => ?_)
        · refine lv_iconst (v := 0) hx hb dL_isAllowed_52 (by decide) ?_
          refine lv_istore_n (lv' := [(3, .int 0), (0, .int (nI q)), (1, .int of), (2, .ref (ad 1)), (4, .int (nI k))]) hx hb dL_isAllowed_53 rfl hl (by decide) rfl (fun ls hl => ?_)
          refine lv_iinc (v := (nI k) + 1) (lv' := [(4, .int ((nI k) + 1)), (3, .int 0), (0, .int (nI q)), (1, .int of), (2, .ref (ad 1))]) hx hb dL_isAllowed_54 hl (k := 4) rfl rfl (by decide) rfl (fun ls hl => ?_)
          refine lv_goto (tgt := 5) hx hb dL_isAllowed_57 (by decide) ?_
          exact ihk (k + 1) (by omega) (by omega)   _ (lv_to (L := [(0, .int (nI q)), (1, .int of), (2, .ref (ad 1)), (3, .int 0), (4, .int ((nI k) + 1))]) (lv_sub hl [2, 3, 4, 1, 0] rfl) (lv_cr (lv_cr (lv_cr (lv_ci (by rw [y_alf, c13]; rfl) (lv_ci (nI_1 k) rfl))))))
        · refine lv_aload_n hx hb dL_isAllowed_16 rfl (lv_at hl 2 rfl) ?_
          refine lv_bipush (v := 8) hx hb dL_isAllowed_17 (by decide) ?_
          refine lv_iload_n hx hb dL_isAllowed_19 rfl (lv_at hl 0 rfl) ?_
          refine lv_iadd hx hb dL_isAllowed_20 ?_
          refine lv_topc (y := nI (8 + q)) (y_ad 8 q) ?_
          refine yr_p (j := 8 + q) hx hb hK hP (by omega) dL_isAllowed_21 ?_
          refine lv_if_eq (tgt := 48) hx hb dL_isAllowed_22 (by decide) (fun c22 => ?_) (fun c22 => ?_)
          · refine lv_iconst (v := 1) hx hb dL_isAllowed_48 (by decide) ?_
            refine lv_goto (tgt := 53) hx hb dL_isAllowed_49 (by decide) ?_
            refine lv_istore_n (lv' := [(3, .int 1), (0, .int (nI q)), (1, .int of), (2, .ref (ad 1)), (4, .int (nI k))]) hx hb dL_isAllowed_53 rfl hl (by decide) rfl (fun ls hl => ?_)
            refine lv_iinc (v := (nI k) + 1) (lv' := [(4, .int ((nI k) + 1)), (3, .int 1), (0, .int (nI q)), (1, .int of), (2, .ref (ad 1))]) hx hb dL_isAllowed_54 hl (k := 4) rfl rfl (by decide) rfl (fun ls hl => ?_)
            refine lv_goto (tgt := 5) hx hb dL_isAllowed_57 (by decide) ?_
            exact ihk (k + 1) (by omega) (by omega)   _ (lv_to (L := [(0, .int (nI q)), (1, .int of), (2, .ref (ad 1)), (3, .int 1), (4, .int ((nI k) + 1))]) (lv_sub hl [2, 3, 4, 1, 0] rfl) (lv_cr (lv_cr (lv_cr (lv_ci (by rw [y_alf, c13, decide_eq_true c22]; rfl) (lv_ci (nI_1 k) rfl))))))
          · refine lv_iload_n hx hb dL_isAllowed_25 rfl (lv_at hl 1 rfl) ?_
            refine lv_iload hx hb dL_isAllowed_26 (lv_at hl 4 rfl) ?_
            refine k_L_has of k (by omega) ⟨hx, hb, hml, hown, hts⟩ gL_isAllowed_L_has ⟨Nat.le_of_ble_eq_true rfl, Nat.le_of_ble_eq_true rfl⟩ hl.1 ⟨Nat.zero_le _, Nat.zero_le _⟩ (Nat.le_of_ble_eq_true rfl) dL_isAllowed_28 ?_
            refine lv_ifeq_b (tgt := 48) hx hb dL_isAllowed_31 (by decide) (fun c31 => ?_) (fun c31 => ?_)
            · refine lv_iconst (v := 1) hx hb dL_isAllowed_48 (by decide) ?_
              refine lv_goto (tgt := 53) hx hb dL_isAllowed_49 (by decide) ?_
              refine lv_istore_n (lv' := [(3, .int 1), (0, .int (nI q)), (1, .int of), (2, .ref (ad 1)), (4, .int (nI k))]) hx hb dL_isAllowed_53 rfl hl (by decide) rfl (fun ls hl => ?_)
              refine lv_iinc (v := (nI k) + 1) (lv' := [(4, .int ((nI k) + 1)), (3, .int 1), (0, .int (nI q)), (1, .int of), (2, .ref (ad 1))]) hx hb dL_isAllowed_54 hl (k := 4) rfl rfl (by decide) rfl (fun ls hl => ?_)
              refine lv_goto (tgt := 5) hx hb dL_isAllowed_57 (by decide) ?_
              exact ihk (k + 1) (by omega) (by omega)   _ (lv_to (L := [(0, .int (nI q)), (1, .int of), (2, .ref (ad 1)), (3, .int 1), (4, .int ((nI k) + 1))]) (lv_sub hl [2, 3, 4, 1, 0] rfl) (lv_cr (lv_cr (lv_cr (lv_ci (by rw [y_alf, c13, decide_eq_f c22, c31]; rfl) (lv_ci (nI_1 k) rfl))))))
            · refine lv_aload_n hx hb dL_isAllowed_34 rfl (lv_at hl 2 rfl) ?_
              refine lv_bipush (v := 16) hx hb dL_isAllowed_35 (by decide) ?_
              refine lv_iload hx hb dL_isAllowed_37 (lv_at hl 4 rfl) ?_
              refine lv_iadd hx hb dL_isAllowed_39 ?_
              refine lv_topc (y := nI (16 + k)) (y_ad 16 k) ?_
              refine yr_p (j := 16 + k) hx hb hK hP (by omega) dL_isAllowed_40 ?_
              refine lv_iload_n hx hb dL_isAllowed_41 rfl (lv_at hl 0 rfl) ?_
              refine k_L_has (σ.2 1 (16 + k)) q (by omega) ⟨hx, hb, hml, hown, hts⟩ gL_isAllowed_L_has ⟨Nat.le_of_ble_eq_true rfl, Nat.le_of_ble_eq_true rfl⟩ hl.1 ⟨Nat.zero_le _, Nat.zero_le _⟩ (Nat.le_of_ble_eq_true rfl) dL_isAllowed_42 ?_
              refine lv_ifeq_b (tgt := 52) hx hb dL_isAllowed_45 (by decide) (fun c45 => ?_) (fun c45 => ?_)
              · refine lv_iconst (v := 0) hx hb dL_isAllowed_52 (by decide) ?_
                refine lv_istore_n (lv' := [(3, .int 0), (0, .int (nI q)), (1, .int of), (2, .ref (ad 1)), (4, .int (nI k))]) hx hb dL_isAllowed_53 rfl hl (by decide) rfl (fun ls hl => ?_)
                refine lv_iinc (v := (nI k) + 1) (lv' := [(4, .int ((nI k) + 1)), (3, .int 0), (0, .int (nI q)), (1, .int of), (2, .ref (ad 1))]) hx hb dL_isAllowed_54 hl (k := 4) rfl rfl (by decide) rfl (fun ls hl => ?_)
                refine lv_goto (tgt := 5) hx hb dL_isAllowed_57 (by decide) ?_
                exact ihk (k + 1) (by omega) (by omega)   _ (lv_to (L := [(0, .int (nI q)), (1, .int of), (2, .ref (ad 1)), (3, .int 0), (4, .int ((nI k) + 1))]) (lv_sub hl [2, 3, 4, 1, 0] rfl) (lv_cr (lv_cr (lv_cr (lv_ci (by rw [y_alf, c13, decide_eq_f c22, c31, c45]; rfl) (lv_ci (nI_1 k) rfl))))))
              · refine lv_iconst (v := 1) hx hb dL_isAllowed_48 (by decide) ?_
                refine lv_goto (tgt := 53) hx hb dL_isAllowed_49 (by decide) ?_
                refine lv_istore_n (lv' := [(3, .int 1), (0, .int (nI q)), (1, .int of), (2, .ref (ad 1)), (4, .int (nI k))]) hx hb dL_isAllowed_53 rfl hl (by decide) rfl (fun ls hl => ?_)
                refine lv_iinc (v := (nI k) + 1) (lv' := [(4, .int ((nI k) + 1)), (3, .int 1), (0, .int (nI q)), (1, .int of), (2, .ref (ad 1))]) hx hb dL_isAllowed_54 hl (k := 4) rfl rfl (by decide) rfl (fun ls hl => ?_)
                refine lv_goto (tgt := 5) hx hb dL_isAllowed_57 (by decide) ?_
                exact ihk (k + 1) (by omega) (by omega)   _ (lv_to (L := [(0, .int (nI q)), (1, .int of), (2, .ref (ad 1)), (3, .int 1), (4, .int ((nI k) + 1))]) (lv_sub hl [2, 3, 4, 1, 0] rfl) (lv_cr (lv_cr (lv_cr (lv_ci (by rw [y_alf, c13, decide_eq_f c22, c31, c45]; rfl) (lv_ci (nI_1 k) rfl))))))
  exact loop5 (6 + 1) 0 (by omega) (by omega)   _ (lv_to (L := [(0, .int (nI q)), (1, .int of), (2, .ref (ad 1)), (3, .int 1), (4, .int 0)]) (lv_sub hl [2, 3, 4, 1, 0] rfl) (lv_cr (lv_cr (lv_cr (lv_ci (rfl) (lv_ci (rfl) rfl))))))
theorem k_L_isAllowed {p : Program} {l : Launch} {e : Env} {R : Room} {s : State} {m : MethodId} {args : Array Value} {below : List Frame} {meth : Method} {c : Code} {H : Heap} {locs : List Loc} {cells slots : Nat} {Q : State → Prop} {cc : ByteArray} {pc : Nat} {ls : Array Slot} {rest : List Value} {Ts : List Cond} (D : va_G) (tI tZ tL : ClassId) (h0 : Nat) (ad : Nat → Nat) (σ : ST) (q : Nat) (of : Int32) (hq8 : q < 8) {own : String} {idx nL : Nat} (S : CallFix p m c cc nL s args Ts own) (hG : GoodIn Ts (va_wsS own idx yL_isAllowed wsL_isAllowed)) (hR : ({ frames := 1, cells := 0, slots := 0, locals := 21 } : Room).frames + 1 ≤ R.frames ∧ 8 + (5 + 11) + ({ frames := 1, cells := 0, slots := 0, locals := 21 } : Room).locals ≤ R.locals) (hsz : ls.size = nL) (hcap : cells ≤ R.cells ∧ slots ≤ R.slots) (hrm : (rest.map fun v => v.category).sum ≤ 8) (hK : va_K D vwCl (kTY tI tZ tL) s) (hP : va_P D vwCl (y_W tI tZ h0 ad σ) H) (hdg : decode cc pc = .ok (.invokestatic idx, 3)) (kk : W p l e R s m args below meth c H locs cells slots Q (F0 m (pc + 3) ls (.int (b01 (y_alf (σ.2 1) q of 6)) :: rest))) : W p l e R s m args below meth c H locs cells slots Q (F0 m pc ls (.ref (ad 1) :: .int of :: .int (nI q) :: rest)) :=
  q_call (va_runS (As := [.int (nI q), .int of, .ref (ad 1)]) (rest := rest) S (c_L_isAllowed l D tI tZ tL h0 ad σ q of hq8) (va_cwS 3 S.2.2.2.2 hG rfl rfl rfl (by decide +kernel) hR) (y_pre hK hP) rfl rfl hsz rfl (lv_room hrm) hdg hcap) kk

set_option maxHeartbeats 4000000 in
set_option maxRecDepth 100000 in
theorem c_L_isOpen (l : Launch) (D : va_G) (tI tZ tL : ClassId) (h0 : Nat) (ad : Nat → Nat) (σ : ST) (w of a : Int32) (np : Nat) (hnp : σ.2 0 1 = nI np) (hn8 : np ≤ 8)  : Met l yL_isOpen wsL_isOpen ({ frames := 2, cells := 0, slots := 0, locals := 45 } : Room) (va_Pc ([.int w, .int of, .int a, .ref (ad 0), .ref (ad 1)] : List Value) (y_B D tI tZ tL h0 ad σ)) (q_Q (some (.int (b01 (y_opf σ.2 w of a np))))) 0 0 q_no := by
  refine q_met (cc := cL_isOpen) (maxL := 7) (ret := (some .boolean)) (by decide) rfl (Nat.le_of_ble_eq_true rfl) ?_
  intro p e s m below meth c hx hb hml hr hts hown hlocks hB ls hl
  have hown : s.vm.findClass RL = some m.cls := hown
  obtain ⟨hP, hK⟩ := hB
  have hl : lv_has ls 7 [(0, .int w), (1, .int of), (2, .int a), (3, .ref (ad 0)), (4, .ref (ad 1))] := hl
  refine lv_iconst (v := 0) hx hb dL_isOpen_0 (by decide) ?_
  refine lv_istore (lv' := [(5, .int 0), (0, .int w), (1, .int of), (2, .int a), (3, .ref (ad 0)), (4, .ref (ad 1))]) hx hb dL_isOpen_1 hl (by decide) rfl (fun ls hl => ?_)
  refine lv_iconst (v := 0) hx hb dL_isOpen_3 (by decide) ?_
  refine lv_istore (lv' := [(6, .int 0), (5, .int 0), (0, .int w), (1, .int of), (2, .int a), (3, .ref (ad 0)), (4, .ref (ad 1))]) hx hb dL_isOpen_4 hl (by decide) rfl (fun ls hl => ?_)
  have loop6 : ∀ (n k : Nat), k ≤ np → np + 1 ≤ k + n → ∀ ls, lv_has ls 7 [(0, .int w), (1, .int of), (2, .int a), (3, .ref (ad 0)), (4, .ref (ad 1)), (5, .int (b01 (y_opf σ.2 w of a k))), (6, .int (nI k))] → q_G p l e ({ frames := 2, cells := 0, slots := 0, locals := 45 } : Room) s m ([.int w, .int of, .int a, .ref (ad 0), .ref (ad 1)] : List Value).toArray below meth c (some (.int (b01 (y_opf σ.2 w of a np)))) (F0 m 6 ls []) := by
    intro n
    induction n with
    | zero => intro k h1 h2; omega
    | succ n ihk =>
      intro k hk_k hn_k   ls hl
      refine lv_iload hx hb dL_isOpen_6 (lv_at hl 6 rfl) ?_
      refine lv_aload_n hx hb dL_isOpen_8 rfl (lv_at hl 3 rfl) ?_
      refine lv_iconst (v := 1) hx hb dL_isOpen_9 (by decide) ?_
      refine lv_topc (y := nI 1) rfl ?_
      refine yr_q (j := 1) hx hb hK hP (by omega) dL_isOpen_10 ?_
      refine lv_icmp_ge (tgt := 65) hx hb dL_isOpen_11 (by decide) (fun c11 => ?_) (fun c11 => ?_)
      · have hkn : k = np := Nat.le_antisymm hk_k (ge_t hnp (by omega) (by omega) c11)
        refine lv_iload hx hb dL_isOpen_65 (lv_at hl 5 rfl) ?_
        exact q_zret hx hb hr hlocks (by rw [hkn]) dL_isOpen_67
      · have hkn : k < np := ge_f hnp (by omega) c11
        refine lv_iload hx hb dL_isOpen_14 (lv_at hl 5 rfl) ?_
        refine lv_ifne_b (tgt := 52) hx hb dL_isOpen_16 (by decide) (fun c16 => ?_) (fun c16 => ?_)
        · refine lv_iconst (v := 1) hx hb dL_isOpen_52 (by decide) ?_
          refine lv_goto (tgt := 57) hx hb dL_isOpen_53 (by decide) ?_
          refine lv_istore (lv' := [(5, .int 1), (0, .int w), (1, .int of), (2, .int a), (3, .ref (ad 0)), (4, .ref (ad 1)), (6, .int (nI k))]) hx hb dL_isOpen_57 hl (by decide) rfl (fun ls hl => ?_)
          refine lv_iinc (v := (nI k) + 1) (lv' := [(6, .int ((nI k) + 1)), (5, .int 1), (0, .int w), (1, .int of), (2, .int a), (3, .ref (ad 0)), (4, .ref (ad 1))]) hx hb dL_isOpen_59 hl (k := 6) rfl rfl (by decide) rfl (fun ls hl => ?_)
          refine lv_goto (tgt := 6) hx hb dL_isOpen_62 (by decide) ?_
          exact ihk (k + 1) (by omega) (by omega)   _ (lv_to (L := [(0, .int w), (1, .int of), (2, .int a), (3, .ref (ad 0)), (4, .ref (ad 1)), (5, .int 1), (6, .int ((nI k) + 1))]) (lv_sub hl [2, 3, 4, 5, 6, 1, 0] rfl) (lv_cr (lv_cr (lv_cr (lv_cr (lv_cr (lv_ci (by rw [y_opf, c16]; rfl) (lv_ci (nI_1 k) rfl))))))))
        · refine lv_iload_n hx hb dL_isOpen_19 rfl (lv_at hl 0 rfl) ?_
          refine lv_iload hx hb dL_isOpen_20 (lv_at hl 6 rfl) ?_
          refine k_L_has w k (by omega) ⟨hx, hb, hml, hown, hts⟩ gL_isOpen_L_has ⟨Nat.le_of_ble_eq_true rfl, Nat.le_of_ble_eq_true rfl⟩ hl.1 ⟨Nat.zero_le _, Nat.zero_le _⟩ (Nat.le_of_ble_eq_true rfl) dL_isOpen_22 ?_
          refine lv_ifeq_b (tgt := 56) hx hb dL_isOpen_25 (by decide) (fun c25 => ?_) (fun c25 => ?_)
          · refine lv_iconst (v := 0) hx hb dL_isOpen_56 (by decide) ?_
            refine lv_istore (lv' := [(5, .int 0), (0, .int w), (1, .int of), (2, .int a), (3, .ref (ad 0)), (4, .ref (ad 1)), (6, .int (nI k))]) hx hb dL_isOpen_57 hl (by decide) rfl (fun ls hl => ?_)
            refine lv_iinc (v := (nI k) + 1) (lv' := [(6, .int ((nI k) + 1)), (5, .int 0), (0, .int w), (1, .int of), (2, .int a), (3, .ref (ad 0)), (4, .ref (ad 1))]) hx hb dL_isOpen_59 hl (k := 6) rfl rfl (by decide) rfl (fun ls hl => ?_)
            refine lv_goto (tgt := 6) hx hb dL_isOpen_62 (by decide) ?_
            exact ihk (k + 1) (by omega) (by omega)   _ (lv_to (L := [(0, .int w), (1, .int of), (2, .int a), (3, .ref (ad 0)), (4, .ref (ad 1)), (5, .int 0), (6, .int ((nI k) + 1))]) (lv_sub hl [2, 3, 4, 5, 6, 1, 0] rfl) (lv_cr (lv_cr (lv_cr (lv_cr (lv_cr (lv_ci (by rw [y_opf, c16, c25]; rfl) (lv_ci (nI_1 k) rfl))))))))
          · refine lv_iload hx hb dL_isOpen_28 (lv_at hl 6 rfl) ?_
            refine lv_iload_n hx hb dL_isOpen_30 rfl (lv_at hl 1 rfl) ?_
            refine lv_aload hx hb dL_isOpen_31 (lv_at hl 4 rfl) ?_
            refine k_L_isAllowed D tI tZ tL h0 ad σ k of (by omega) ⟨hx, hb, hml, hown, hts⟩ gL_isOpen_L_isAllowed ⟨Nat.le_of_ble_eq_true rfl, Nat.le_of_ble_eq_true rfl⟩ hl.1 ⟨Nat.zero_le _, Nat.zero_le _⟩ (Nat.le_of_ble_eq_true rfl) hK hP dL_isOpen_33 ?_
            refine lv_ifeq_b (tgt := 56) hx hb dL_isOpen_36 (by decide) (fun c36 => ?_) (fun c36 => ?_)
            · refine lv_iconst (v := 0) hx hb dL_isOpen_56 (by decide) ?_
              refine lv_istore (lv' := [(5, .int 0), (0, .int w), (1, .int of), (2, .int a), (3, .ref (ad 0)), (4, .ref (ad 1)), (6, .int (nI k))]) hx hb dL_isOpen_57 hl (by decide) rfl (fun ls hl => ?_)
              refine lv_iinc (v := (nI k) + 1) (lv' := [(6, .int ((nI k) + 1)), (5, .int 0), (0, .int w), (1, .int of), (2, .int a), (3, .ref (ad 0)), (4, .ref (ad 1))]) hx hb dL_isOpen_59 hl (k := 6) rfl rfl (by decide) rfl (fun ls hl => ?_)
              refine lv_goto (tgt := 6) hx hb dL_isOpen_62 (by decide) ?_
              exact ihk (k + 1) (by omega) (by omega)   _ (lv_to (L := [(0, .int w), (1, .int of), (2, .int a), (3, .ref (ad 0)), (4, .ref (ad 1)), (5, .int 0), (6, .int ((nI k) + 1))]) (lv_sub hl [2, 3, 4, 5, 6, 1, 0] rfl) (lv_cr (lv_cr (lv_cr (lv_cr (lv_cr (lv_ci (by rw [y_opf, c16, c25, c36]; rfl) (lv_ci (nI_1 k) rfl))))))))
            · refine lv_aload_n hx hb dL_isOpen_39 rfl (lv_at hl 3 rfl) ?_
              refine lv_iconst (v := 0) hx hb dL_isOpen_40 (by decide) ?_
              refine lv_topc (y := nI 0) rfl ?_
              refine yr_q (j := 0) hx hb hK hP (by omega) dL_isOpen_41 ?_
              refine lv_iload_n hx hb dL_isOpen_42 rfl (lv_at hl 2 rfl) ?_
              refine lv_aload hx hb dL_isOpen_43 (lv_at hl 4 rfl) ?_
              refine lv_iload hx hb dL_isOpen_45 (lv_at hl 6 rfl) ?_
              refine yr_p (j := k) hx hb hK hP (by omega) dL_isOpen_47 ?_
              refine lv_iadd hx hb dL_isOpen_48 ?_
              refine lv_icmp_ge (tgt := 56) hx hb dL_isOpen_49 (by decide) (fun c49 => ?_) (fun c49 => ?_)
              · refine lv_iconst (v := 0) hx hb dL_isOpen_56 (by decide) ?_
                refine lv_istore (lv' := [(5, .int 0), (0, .int w), (1, .int of), (2, .int a), (3, .ref (ad 0)), (4, .ref (ad 1)), (6, .int (nI k))]) hx hb dL_isOpen_57 hl (by decide) rfl (fun ls hl => ?_)
                refine lv_iinc (v := (nI k) + 1) (lv' := [(6, .int ((nI k) + 1)), (5, .int 0), (0, .int w), (1, .int of), (2, .int a), (3, .ref (ad 0)), (4, .ref (ad 1))]) hx hb dL_isOpen_59 hl (k := 6) rfl rfl (by decide) rfl (fun ls hl => ?_)
                refine lv_goto (tgt := 6) hx hb dL_isOpen_62 (by decide) ?_
                exact ihk (k + 1) (by omega) (by omega)   _ (lv_to (L := [(0, .int w), (1, .int of), (2, .int a), (3, .ref (ad 0)), (4, .ref (ad 1)), (5, .int 0), (6, .int ((nI k) + 1))]) (lv_sub hl [2, 3, 4, 5, 6, 1, 0] rfl) (lv_cr (lv_cr (lv_cr (lv_cr (lv_cr (lv_ci (by rw [y_opf, c16, c25, c36, decide_eq_f (Int32.not_lt.mpr c49)]; rfl) (lv_ci (nI_1 k) rfl))))))))
              · refine lv_iconst (v := 1) hx hb dL_isOpen_52 (by decide) ?_
                refine lv_goto (tgt := 57) hx hb dL_isOpen_53 (by decide) ?_
                refine lv_istore (lv' := [(5, .int 1), (0, .int w), (1, .int of), (2, .int a), (3, .ref (ad 0)), (4, .ref (ad 1)), (6, .int (nI k))]) hx hb dL_isOpen_57 hl (by decide) rfl (fun ls hl => ?_)
                refine lv_iinc (v := (nI k) + 1) (lv' := [(6, .int ((nI k) + 1)), (5, .int 1), (0, .int w), (1, .int of), (2, .int a), (3, .ref (ad 0)), (4, .ref (ad 1))]) hx hb dL_isOpen_59 hl (k := 6) rfl rfl (by decide) rfl (fun ls hl => ?_)
                refine lv_goto (tgt := 6) hx hb dL_isOpen_62 (by decide) ?_
                exact ihk (k + 1) (by omega) (by omega)   _ (lv_to (L := [(0, .int w), (1, .int of), (2, .int a), (3, .ref (ad 0)), (4, .ref (ad 1)), (5, .int 1), (6, .int ((nI k) + 1))]) (lv_sub hl [2, 3, 4, 5, 6, 1, 0] rfl) (lv_cr (lv_cr (lv_cr (lv_cr (lv_cr (lv_ci (by rw [y_opf, c16, c25, c36, decide_eq_true (Int32.not_le.mp c49)]; rfl) (lv_ci (nI_1 k) rfl))))))))
  exact loop6 (np + 1) 0 (by omega) (by omega)   _ (lv_to (L := [(0, .int w), (1, .int of), (2, .int a), (3, .ref (ad 0)), (4, .ref (ad 1)), (5, .int 0), (6, .int 0)]) (lv_sub hl [2, 3, 4, 5, 6, 1, 0] rfl) (lv_cr (lv_cr (lv_cr (lv_cr (lv_cr (lv_ci (rfl) (lv_ci (rfl) rfl))))))))
theorem k_L_isOpen {p : Program} {l : Launch} {e : Env} {R : Room} {s : State} {m : MethodId} {args : Array Value} {below : List Frame} {meth : Method} {c : Code} {H : Heap} {locs : List Loc} {cells slots : Nat} {Q : State → Prop} {cc : ByteArray} {pc : Nat} {ls : Array Slot} {rest : List Value} {Ts : List Cond} (D : va_G) (tI tZ tL : ClassId) (h0 : Nat) (ad : Nat → Nat) (σ : ST) (w of a : Int32) (np : Nat) (hnp : σ.2 0 1 = nI np) (hn8 : np ≤ 8)  {own : String} {idx nL : Nat} (S : CallFix p m c cc nL s args Ts own) (hG : GoodIn Ts (va_wsS own idx yL_isOpen wsL_isOpen)) (hR : ({ frames := 2, cells := 0, slots := 0, locals := 45 } : Room).frames + 1 ≤ R.frames ∧ 8 + (7 + 11) + ({ frames := 2, cells := 0, slots := 0, locals := 45 } : Room).locals ≤ R.locals) (hsz : ls.size = nL) (hcap : cells ≤ R.cells ∧ slots ≤ R.slots) (hrm : (rest.map fun v => v.category).sum ≤ 8) (hK : va_K D vwCl (kTY tI tZ tL) s) (hP : va_P D vwCl (y_W tI tZ h0 ad σ) H) (hdg : decode cc pc = .ok (.invokestatic idx, 3)) (kk : W p l e R s m args below meth c H locs cells slots Q (F0 m (pc + 3) ls (.int (b01 (y_opf σ.2 w of a np)) :: rest))) : W p l e R s m args below meth c H locs cells slots Q (F0 m pc ls (.ref (ad 1) :: .ref (ad 0) :: .int a :: .int of :: .int w :: rest)) :=
  q_call (va_runS (As := [.int w, .int of, .int a, .ref (ad 0), .ref (ad 1)]) (rest := rest) S (c_L_isOpen l D tI tZ tL h0 ad σ w of a np hnp hn8) (va_cwS 5 S.2.2.2.2 hG rfl rfl rfl (by decide +kernel) hR) (y_pre hK hP) rfl rfl hsz rfl (lv_room hrm) hdg hcap) kk

set_option maxHeartbeats 4000000 in
set_option maxRecDepth 100000 in
theorem c_L_size (l : Launch) (set : Int32) : Met l yL_size wsL_size ({ frames := 0, cells := 0, slots := 0, locals := 0 } : Room) (va_Pc ([.int set] : List Value) (fun _ => True)) (q_Q (some (.int (nI (ct (bt set) 32))))) 0 0 q_no := by
  refine q_met (cc := cL_size) (maxL := 3) (ret := (some .int)) (by decide) rfl (Nat.le_of_ble_eq_true rfl) ?_
  intro p e s m below meth c hx hb hml hr hts hown hlocks hB ls hl
  have hown : s.vm.findClass RL = some m.cls := hown
  have hl : lv_has ls 3 [(0, .int set)] := hl
  have hct := ct_le (bt set) 32
  refine lv_iconst (v := 0) hx hb dL_size_0 (by decide) ?_
  refine lv_istore_n (lv' := [(1, .int 0), (0, .int set)]) hx hb dL_size_1 rfl hl (by decide) rfl (fun ls hl => ?_)
  refine lv_iload_n hx hb dL_size_2 rfl (lv_at hl 1 rfl) ?_
  refine lv_istore_n (lv' := [(2, .int set), (1, .int 0), (0, .int set)]) hx hb dL_size_3 rfl hl (by decide) rfl (fun ls hl => ?_)
  have loop4 : ∀ (k : Nat), k ≤ 32 → ∀ (v : Int32) (left : Int32), (hc : ct (bt left) 32 = k) → (hv : v + nI k = nI (ct (bt set) 32)) → ∀ ls, lv_has ls 3 [(1, .int v), (2, .int left)] → q_G p l e ({ frames := 0, cells := 0, slots := 0, locals := 0 } : Room) s m ([.int set] : List Value).toArray below meth c (some (.int (nI (ct (bt set) 32)))) (F0 m 4 ls []) := by
    intro k
    induction k with
    | zero =>
      intro hk_k v left hc hv ls hl
      refine lv_iload_n hx hb dL_size_4 rfl (lv_at hl 1 rfl) ?_
      refine lv_if_eq (tgt := 20) hx hb dL_size_5 (by decide) (fun c5 => ?_) (fun c5 => absurd (y_sz_0 left hc) c5)
      refine lv_iload_n hx hb dL_size_20 rfl (lv_at hl 0 rfl) ?_
      exact q_iret hx hb hr hlocks (by rw [← hv]; exact (Int32.add_zero v).symm) dL_size_21
    | succ k ihk =>
      intro hk_k v left hc hv ls hl
      have hl : lv_has ls 3 [(1, .int v), (2, .int left)] := (lv_sub hl [0, 1] rfl)
      refine lv_iload_n hx hb dL_size_4 rfl (lv_at hl 1 rfl) ?_
      refine lv_if_eq (tgt := 20) hx hb dL_size_5 (by decide) (fun c5 => absurd c5 (y_sz_n left hc)) (fun c5 => ?_)
      refine lv_iinc (v := v + 1) (lv' := [(1, .int (v + 1)), (2, .int left)]) hx hb dL_size_8 hl (k := 0) rfl rfl (by decide) rfl (fun ls hl => ?_)
      refine lv_iload_n hx hb dL_size_11 rfl (lv_at hl 1 rfl) ?_
      refine lv_iload_n hx hb dL_size_12 rfl (lv_at hl 1 rfl) ?_
      refine lv_iconst (v := 1) hx hb dL_size_13 (by decide) ?_
      refine lv_isub hx hb dL_size_14 ?_
      refine lv_iand hx hb dL_size_15 ?_
      refine lv_istore_n (lv' := [(2, .int (left &&& (left - 1))), (1, .int (v + 1))]) hx hb dL_size_16 rfl hl (by decide) rfl (fun ls hl => ?_)
      refine lv_goto (tgt := 4) hx hb dL_size_17 (by decide) ?_
      exact ihk (by omega) (v + 1) (left &&& (left - 1)) (by have := y_sz_s left c5; omega) (by rw [← hv, ← nI_1 k, Int32.add_assoc, Int32.add_comm 1]) _ (lv_sub hl [1, 0] rfl)
  exact loop4 (ct (bt set) 32) (by omega) 0 set (rfl) (by rw [show (0 : Int32) = nI 0 from rfl, nI_add, Nat.zero_add]) _ (lv_sub hl [1, 0] rfl)
theorem k_L_size {p : Program} {l : Launch} {e : Env} {R : Room} {s : State} {m : MethodId} {args : Array Value} {below : List Frame} {meth : Method} {c : Code} {H : Heap} {locs : List Loc} {cells slots : Nat} {Q : State → Prop} {cc : ByteArray} {pc : Nat} {ls : Array Slot} {rest : List Value} {Ts : List Cond} (set : Int32) {own : String} {idx nL : Nat} (S : CallFix p m c cc nL s args Ts own) (hG : GoodIn Ts (va_wsS own idx yL_size wsL_size)) (hR : ({ frames := 0, cells := 0, slots := 0, locals := 0 } : Room).frames + 1 ≤ R.frames ∧ 8 + (3 + 11) + ({ frames := 0, cells := 0, slots := 0, locals := 0 } : Room).locals ≤ R.locals) (hsz : ls.size = nL) (hcap : cells ≤ R.cells ∧ slots ≤ R.slots) (hrm : (rest.map fun v => v.category).sum ≤ 8) (hdg : decode cc pc = .ok (.invokestatic idx, 3)) (kk : W p l e R s m args below meth c H locs cells slots Q (F0 m (pc + 3) ls (.int (nI (ct (bt set) 32)) :: rest))) : W p l e R s m args below meth c H locs cells slots Q (F0 m pc ls (.int set :: rest)) :=
  q_call (va_runS (As := [.int set]) (rest := rest) S (c_L_size l set) (va_cwS 1 S.2.2.2.2 hG rfl rfl rfl (by decide +kernel) hR) ⟨ty_blind (fun _ _ _ _ h => h), fun U _ _ => ⟨rfl, trivial⟩⟩ rfl rfl hsz rfl (lv_room hrm) hdg hcap) kk

set_option maxHeartbeats 4000000 in
set_option maxRecDepth 100000 in
theorem c_L_held (l : Launch) (D : va_G) (tI tZ tL : ClassId) (h0 : Nat) (ad : Nat → Nat) (σ : ST)  : Met l yL_held wsL_held ({ frames := 0, cells := 0, slots := 0, locals := 0 } : Room) (va_Pc ([.ref (ad 1)] : List Value) (y_B D tI tZ tL h0 ad σ)) (q_Q (some (.int (y_held σ.2)))) 0 0 q_no := by
  refine q_met (cc := cL_held) (maxL := 1) (ret := (some .int)) (by decide) rfl (Nat.le_of_ble_eq_true rfl) ?_
  intro p e s m below meth c hx hb hml hr hts hown hlocks hB ls hl
  have hown : s.vm.findClass RL = some m.cls := hown
  obtain ⟨hP, hK⟩ := hB
  have hl : lv_has ls 1 [(0, .ref (ad 1))] := hl
  refine lv_aload_n hx hb dL_held_0 rfl (lv_at hl 0 rfl) ?_
  refine lv_bipush (v := 22) hx hb dL_held_1 (by decide) ?_
  refine lv_topc (y := nI 22) rfl ?_
  refine yr_p (j := 22) hx hb hK hP (by omega) dL_held_3 ?_
  refine lv_aload_n hx hb dL_held_4 rfl (lv_at hl 0 rfl) ?_
  refine lv_bipush (v := 23) hx hb dL_held_5 (by decide) ?_
  refine lv_topc (y := nI 23) rfl ?_
  refine yr_p (j := 23) hx hb hK hP (by omega) dL_held_7 ?_
  refine lv_ior hx hb dL_held_8 ?_
  refine lv_aload_n hx hb dL_held_9 rfl (lv_at hl 0 rfl) ?_
  refine lv_bipush (v := 24) hx hb dL_held_10 (by decide) ?_
  refine lv_topc (y := nI 24) rfl ?_
  refine yr_p (j := 24) hx hb hK hP (by omega) dL_held_12 ?_
  refine lv_ior hx hb dL_held_13 ?_
  refine lv_aload_n hx hb dL_held_14 rfl (lv_at hl 0 rfl) ?_
  refine lv_bipush (v := 25) hx hb dL_held_15 (by decide) ?_
  refine lv_topc (y := nI 25) rfl ?_
  refine yr_p (j := 25) hx hb hK hP (by omega) dL_held_17 ?_
  refine lv_ior hx hb dL_held_18 ?_
  refine lv_aload_n hx hb dL_held_19 rfl (lv_at hl 0 rfl) ?_
  refine lv_bipush (v := 26) hx hb dL_held_20 (by decide) ?_
  refine lv_topc (y := nI 26) rfl ?_
  refine yr_p (j := 26) hx hb hK hP (by omega) dL_held_22 ?_
  refine lv_ior hx hb dL_held_23 ?_
  refine lv_aload_n hx hb dL_held_24 rfl (lv_at hl 0 rfl) ?_
  refine lv_bipush (v := 27) hx hb dL_held_25 (by decide) ?_
  refine lv_topc (y := nI 27) rfl ?_
  refine yr_p (j := 27) hx hb hK hP (by omega) dL_held_27 ?_
  refine lv_ior hx hb dL_held_28 ?_
  exact q_iret hx hb hr hlocks (rfl) dL_held_29
theorem k_L_held {p : Program} {l : Launch} {e : Env} {R : Room} {s : State} {m : MethodId} {args : Array Value} {below : List Frame} {meth : Method} {c : Code} {H : Heap} {locs : List Loc} {cells slots : Nat} {Q : State → Prop} {cc : ByteArray} {pc : Nat} {ls : Array Slot} {rest : List Value} {Ts : List Cond} (D : va_G) (tI tZ tL : ClassId) (h0 : Nat) (ad : Nat → Nat) (σ : ST)  {own : String} {idx nL : Nat} (S : CallFix p m c cc nL s args Ts own) (hG : GoodIn Ts (va_wsS own idx yL_held wsL_held)) (hR : ({ frames := 0, cells := 0, slots := 0, locals := 0 } : Room).frames + 1 ≤ R.frames ∧ 8 + (1 + 11) + ({ frames := 0, cells := 0, slots := 0, locals := 0 } : Room).locals ≤ R.locals) (hsz : ls.size = nL) (hcap : cells ≤ R.cells ∧ slots ≤ R.slots) (hrm : (rest.map fun v => v.category).sum ≤ 8) (hK : va_K D vwCl (kTY tI tZ tL) s) (hP : va_P D vwCl (y_W tI tZ h0 ad σ) H) (hdg : decode cc pc = .ok (.invokestatic idx, 3)) (kk : W p l e R s m args below meth c H locs cells slots Q (F0 m (pc + 3) ls (.int (y_held σ.2) :: rest))) : W p l e R s m args below meth c H locs cells slots Q (F0 m pc ls (.ref (ad 1) :: rest)) :=
  q_call (va_runS (As := [.ref (ad 1)]) (rest := rest) S (c_L_held l D tI tZ tL h0 ad σ ) (va_cwS 1 S.2.2.2.2 hG rfl rfl rfl (by decide +kernel) hR) (y_pre hK hP) rfl rfl hsz rfl (lv_room hrm) hdg hcap) kk

set_option maxHeartbeats 4000000 in
set_option maxRecDepth 100000 in
theorem c_L_kept (l : Launch) (D : va_G) (tI tZ tL : ClassId) (h0 : Nat) (ad : Nat → Nat) (σ : ST) (r : Nat) (nr : Nat) (hnr : σ.2 0 2 = nI nr) (hn30 : nr ≤ 30) (hrn : r < nr) : Met l yL_kept wsL_kept ({ frames := 1, cells := 0, slots := 0, locals := 21 } : Room) (va_Pc ([.int (nI r), .ref (ad 0), .ref (ad 1), .ref (ad 3), .ref (ad 6)] : List Value) (y_B D tI tZ tL h0 ad σ)) (q_Q (some (.int (y_kept σ.2 nr r)))) 0 0 q_no := by
  refine q_met (cc := cL_kept) (maxL := 7) (ret := (some .int)) (by decide) rfl (Nat.le_of_ble_eq_true rfl) ?_
  intro p e s m below meth c hx hb hml hr hts hown hlocks hB ls hl
  have hown : s.vm.findClass RL = some m.cls := hown
  obtain ⟨hP, hK⟩ := hB
  have hl : lv_has ls 7 [(0, .int (nI r)), (1, .ref (ad 0)), (2, .ref (ad 1)), (3, .ref (ad 3)), (4, .ref (ad 6))] := hl
  refine lv_aload hx hb dL_kept_0 (lv_at hl 4 rfl) ?_
  refine lv_iload_n hx hb dL_kept_2 rfl (lv_at hl 0 rfl) ?_
  refine yr_t (j := r) hx hb hK hP (by omega) dL_kept_3 ?_
  refine lv_iconst (v := 2) hx hb dL_kept_4 (by decide) ?_
  refine lv_icmp_ne (tgt := 12) hx hb dL_kept_5 (by decide) (fun c5 => ?_) (fun c5 => ?_)
  · refine lv_aload hx hb dL_kept_12 (lv_at hl 4 rfl) ?_
    refine lv_iload_n hx hb dL_kept_14 rfl (lv_at hl 0 rfl) ?_
    refine yr_t (j := r) hx hb hK hP (by omega) dL_kept_15 ?_
    refine lv_if_ne (tgt := 23) hx hb dL_kept_16 (by decide) (fun c16 => ?_) (fun c16 => ?_)
    · refine lv_aload_n hx hb dL_kept_23 rfl (lv_at hl 2 rfl) ?_
      refine k_L_held D tI tZ tL h0 ad σ  ⟨hx, hb, hml, hown, hts⟩ gL_kept_L_held ⟨Nat.le_of_ble_eq_true rfl, Nat.le_of_ble_eq_true rfl⟩ hl.1 ⟨Nat.zero_le _, Nat.zero_le _⟩ (Nat.le_of_ble_eq_true rfl) hK hP dL_kept_24 ?_
      refine lv_iload_n hx hb dL_kept_27 rfl (lv_at hl 0 rfl) ?_
      refine k_L_has (y_held σ.2) r (by omega) ⟨hx, hb, hml, hown, hts⟩ gL_kept_L_has ⟨Nat.le_of_ble_eq_true rfl, Nat.le_of_ble_eq_true rfl⟩ hl.1 ⟨Nat.zero_le _, Nat.zero_le _⟩ (Nat.le_of_ble_eq_true rfl) dL_kept_28 ?_
      refine lv_ifeq_b (tgt := 38) hx hb dL_kept_31 (by decide) (fun c31 => ?_) (fun c31 => ?_)
      · refine lv_iconst (v := 0) hx hb dL_kept_38 (by decide) ?_
        refine lv_istore (lv' := [(5, .int 0), (0, .int (nI r)), (1, .ref (ad 0)), (2, .ref (ad 1)), (3, .ref (ad 3)), (4, .ref (ad 6))]) hx hb dL_kept_39 hl (by decide) rfl (fun ls hl => ?_)
        refine lv_iconst (v := 0) hx hb dL_kept_41 (by decide) ?_
        refine lv_istore (lv' := [(6, .int 0), (5, .int 0), (0, .int (nI r)), (1, .ref (ad 0)), (2, .ref (ad 1)), (3, .ref (ad 3)), (4, .ref (ad 6))]) hx hb dL_kept_42 hl (by decide) rfl (fun ls hl => ?_)
        have loop44 : ∀ (n k : Nat), k ≤ nr → nr + 1 ≤ k + n → ∀ ls, lv_has ls 7 [(0, .int (nI r)), (1, .ref (ad 0)), (3, .ref (ad 3)), (4, .ref (ad 6)), (5, .int (y_kpf σ.2 r k)), (6, .int (nI k))] → q_G p l e ({ frames := 1, cells := 0, slots := 0, locals := 21 } : Room) s m ([.int (nI r), .ref (ad 0), .ref (ad 1), .ref (ad 3), .ref (ad 6)] : List Value).toArray below meth c (some (.int (y_kept σ.2 nr r))) (F0 m 44 ls []) := by
          intro n
          induction n with
          | zero => intro k h1 h2; omega
          | succ n ihk =>
            intro k hk_k hn_k   ls hl
            refine lv_iload hx hb dL_kept_44 (lv_at hl 5 rfl) ?_
            refine lv_aload_n hx hb dL_kept_46 rfl (lv_at hl 1 rfl) ?_
            refine lv_iconst (v := 2) hx hb dL_kept_47 (by decide) ?_
            refine lv_topc (y := nI 2) rfl ?_
            refine yr_q (j := 2) hx hb hK hP (by omega) dL_kept_48 ?_
            refine lv_icmp_ge (tgt := 91) hx hb dL_kept_49 (by decide) (fun c49 => ?_) (fun c49 => ?_)
            · have hkn : k = nr := Nat.le_antisymm hk_k (ge_t hnr (by omega) (by omega) c49)
              refine lv_iload hx hb dL_kept_91 (lv_at hl 4 rfl) ?_
              exact q_iret hx hb hr hlocks (by rw [hkn]; rfl) dL_kept_93
            · have hkn : k < nr := ge_f hnr (by omega) c49
              refine lv_iload hx hb dL_kept_52 (lv_at hl 4 rfl) ?_
              refine lv_if_ne (tgt := 81) hx hb dL_kept_54 (by decide) (fun c54 => ?_) (fun c54 => ?_)
              · refine lv_iload hx hb dL_kept_81 (lv_at hl 4 rfl) ?_
                refine lv_istore (lv' := [(5, .int (y_kpf σ.2 r k)), (0, .int (nI r)), (1, .ref (ad 0)), (3, .ref (ad 3)), (4, .ref (ad 6)), (6, .int (nI k))]) hx hb dL_kept_83 hl (by decide) rfl (fun ls hl => ?_)
                refine lv_iinc (v := (nI k) + 1) (lv' := [(6, .int ((nI k) + 1)), (5, .int (y_kpf σ.2 r k)), (0, .int (nI r)), (1, .ref (ad 0)), (3, .ref (ad 3)), (4, .ref (ad 6))]) hx hb dL_kept_85 hl (k := 5) rfl rfl (by decide) rfl (fun ls hl => ?_)
                refine lv_goto (tgt := 44) hx hb dL_kept_88 (by decide) ?_
                exact ihk (k + 1) (by omega) (by omega)   _ (lv_to (L := [(0, .int (nI r)), (1, .ref (ad 0)), (3, .ref (ad 3)), (4, .ref (ad 6)), (5, .int (y_kpf σ.2 r k)), (6, .int ((nI k) + 1))]) (lv_sub hl [2, 3, 4, 5, 1, 0] rfl) (lv_cr (lv_cr (lv_cr (lv_cr (lv_ci (by rw [y_kpf, if_neg (fun h => c54 h.1)]) (lv_ci (nI_1 k) rfl)))))))
              · refine lv_aload_n hx hb dL_kept_57 rfl (lv_at hl 2 rfl) ?_
                refine lv_iload_n hx hb dL_kept_58 rfl (lv_at hl 0 rfl) ?_
                refine yr_l (j := r) hx hb hK hP (by omega) dL_kept_59 ?_
                refine lv_iload hx hb dL_kept_60 (lv_at hl 5 rfl) ?_
                refine k_L_has (σ.2 3 r) k (by omega) ⟨hx, hb, hml, hown, hts⟩ gL_kept_L_has ⟨Nat.le_of_ble_eq_true rfl, Nat.le_of_ble_eq_true rfl⟩ hl.1 ⟨Nat.zero_le _, Nat.zero_le _⟩ (Nat.le_of_ble_eq_true rfl) dL_kept_62 ?_
                refine lv_ifeq_b (tgt := 81) hx hb dL_kept_65 (by decide) (fun c65 => ?_) (fun c65 => ?_)
                · refine lv_iload hx hb dL_kept_81 (lv_at hl 4 rfl) ?_
                  refine lv_istore (lv' := [(5, .int (y_kpf σ.2 r k)), (0, .int (nI r)), (1, .ref (ad 0)), (3, .ref (ad 3)), (4, .ref (ad 6)), (6, .int (nI k))]) hx hb dL_kept_83 hl (by decide) rfl (fun ls hl => ?_)
                  refine lv_iinc (v := (nI k) + 1) (lv' := [(6, .int ((nI k) + 1)), (5, .int (y_kpf σ.2 r k)), (0, .int (nI r)), (1, .ref (ad 0)), (3, .ref (ad 3)), (4, .ref (ad 6))]) hx hb dL_kept_85 hl (k := 5) rfl rfl (by decide) rfl (fun ls hl => ?_)
                  refine lv_goto (tgt := 44) hx hb dL_kept_88 (by decide) ?_
                  exact ihk (k + 1) (by omega) (by omega)   _ (lv_to (L := [(0, .int (nI r)), (1, .ref (ad 0)), (3, .ref (ad 3)), (4, .ref (ad 6)), (5, .int (y_kpf σ.2 r k)), (6, .int ((nI k) + 1))]) (lv_sub hl [2, 3, 4, 5, 1, 0] rfl) (lv_cr (lv_cr (lv_cr (lv_cr (lv_ci (by rw [y_kpf, if_neg (fun h => by rw [c65] at h; cases h.2.1)]) (lv_ci (nI_1 k) rfl)))))))
                · refine lv_aload hx hb dL_kept_68 (lv_at hl 3 rfl) ?_
                  refine lv_iload hx hb dL_kept_70 (lv_at hl 5 rfl) ?_
                  refine yr_t (j := k) hx hb hK hP (by omega) dL_kept_72 ?_
                  refine lv_iconst (v := 2) hx hb dL_kept_73 (by decide) ?_
                  refine lv_icmp_ge (tgt := 81) hx hb dL_kept_74 (by decide) (fun c74 => ?_) (fun c74 => ?_)
                  · refine lv_iload hx hb dL_kept_81 (lv_at hl 4 rfl) ?_
                    refine lv_istore (lv' := [(5, .int (y_kpf σ.2 r k)), (0, .int (nI r)), (1, .ref (ad 0)), (3, .ref (ad 3)), (4, .ref (ad 6)), (6, .int (nI k))]) hx hb dL_kept_83 hl (by decide) rfl (fun ls hl => ?_)
                    refine lv_iinc (v := (nI k) + 1) (lv' := [(6, .int ((nI k) + 1)), (5, .int (y_kpf σ.2 r k)), (0, .int (nI r)), (1, .ref (ad 0)), (3, .ref (ad 3)), (4, .ref (ad 6))]) hx hb dL_kept_85 hl (k := 5) rfl rfl (by decide) rfl (fun ls hl => ?_)
                    refine lv_goto (tgt := 44) hx hb dL_kept_88 (by decide) ?_
                    exact ihk (k + 1) (by omega) (by omega)   _ (lv_to (L := [(0, .int (nI r)), (1, .ref (ad 0)), (3, .ref (ad 3)), (4, .ref (ad 6)), (5, .int (y_kpf σ.2 r k)), (6, .int ((nI k) + 1))]) (lv_sub hl [2, 3, 4, 5, 1, 0] rfl) (lv_cr (lv_cr (lv_cr (lv_cr (lv_ci (by rw [y_kpf, if_neg (fun h => absurd h.2.2 (Int32.not_lt.mpr c74))]) (lv_ci (nI_1 k) rfl)))))))
                  · refine lv_iconst (v := 4) hx hb dL_kept_77 (by decide) ?_
                    refine lv_goto (tgt := 83) hx hb dL_kept_78 (by decide) ?_
                    refine lv_istore (lv' := [(5, .int 4), (0, .int (nI r)), (1, .ref (ad 0)), (3, .ref (ad 3)), (4, .ref (ad 6)), (6, .int (nI k))]) hx hb dL_kept_83 hl (by decide) rfl (fun ls hl => ?_)
                    refine lv_iinc (v := (nI k) + 1) (lv' := [(6, .int ((nI k) + 1)), (5, .int 4), (0, .int (nI r)), (1, .ref (ad 0)), (3, .ref (ad 3)), (4, .ref (ad 6))]) hx hb dL_kept_85 hl (k := 5) rfl rfl (by decide) rfl (fun ls hl => ?_)
                    refine lv_goto (tgt := 44) hx hb dL_kept_88 (by decide) ?_
                    exact ihk (k + 1) (by omega) (by omega)   _ (lv_to (L := [(0, .int (nI r)), (1, .ref (ad 0)), (3, .ref (ad 3)), (4, .ref (ad 6)), (5, .int 4), (6, .int ((nI k) + 1))]) (lv_sub hl [2, 3, 4, 5, 1, 0] rfl) (lv_cr (lv_cr (lv_cr (lv_cr (lv_ci (by rw [y_kpf, if_pos ⟨c54, c65, Int32.not_le.mp c74⟩]) (lv_ci (nI_1 k) rfl)))))))
        exact loop44 (nr + 1) 0 (by omega) (by omega)   _ (lv_to (L := [(0, .int (nI r)), (1, .ref (ad 0)), (3, .ref (ad 3)), (4, .ref (ad 6)), (5, .int 0), (6, .int 0)]) (lv_sub hl [2, 3, 5, 6, 1, 0] rfl) (lv_cr (lv_cr (lv_cr (lv_cr (lv_ci (by rw [y_kpf, y_k0, if_neg c5, if_neg c16, if_neg (by rw [c31]; decide)]) (lv_ci (rfl) rfl)))))))
      · refine lv_iconst (v := 3) hx hb dL_kept_34 (by decide) ?_
        refine lv_goto (tgt := 39) hx hb dL_kept_35 (by decide) ?_
        refine lv_istore (lv' := [(5, .int 3), (0, .int (nI r)), (1, .ref (ad 0)), (2, .ref (ad 1)), (3, .ref (ad 3)), (4, .ref (ad 6))]) hx hb dL_kept_39 hl (by decide) rfl (fun ls hl => ?_)
        refine lv_iconst (v := 0) hx hb dL_kept_41 (by decide) ?_
        refine lv_istore (lv' := [(6, .int 0), (5, .int 3), (0, .int (nI r)), (1, .ref (ad 0)), (2, .ref (ad 1)), (3, .ref (ad 3)), (4, .ref (ad 6))]) hx hb dL_kept_42 hl (by decide) rfl (fun ls hl => ?_)
        have loop44 : ∀ (n k : Nat), k ≤ nr → nr + 1 ≤ k + n → ∀ ls, lv_has ls 7 [(0, .int (nI r)), (1, .ref (ad 0)), (3, .ref (ad 3)), (4, .ref (ad 6)), (5, .int (y_kpf σ.2 r k)), (6, .int (nI k))] → q_G p l e ({ frames := 1, cells := 0, slots := 0, locals := 21 } : Room) s m ([.int (nI r), .ref (ad 0), .ref (ad 1), .ref (ad 3), .ref (ad 6)] : List Value).toArray below meth c (some (.int (y_kept σ.2 nr r))) (F0 m 44 ls []) := by
          intro n
          induction n with
          | zero => intro k h1 h2; omega
          | succ n ihk =>
            intro k hk_k hn_k   ls hl
            refine lv_iload hx hb dL_kept_44 (lv_at hl 5 rfl) ?_
            refine lv_aload_n hx hb dL_kept_46 rfl (lv_at hl 1 rfl) ?_
            refine lv_iconst (v := 2) hx hb dL_kept_47 (by decide) ?_
            refine lv_topc (y := nI 2) rfl ?_
            refine yr_q (j := 2) hx hb hK hP (by omega) dL_kept_48 ?_
            refine lv_icmp_ge (tgt := 91) hx hb dL_kept_49 (by decide) (fun c49 => ?_) (fun c49 => ?_)
            · have hkn : k = nr := Nat.le_antisymm hk_k (ge_t hnr (by omega) (by omega) c49)
              refine lv_iload hx hb dL_kept_91 (lv_at hl 4 rfl) ?_
              exact q_iret hx hb hr hlocks (by rw [hkn]; rfl) dL_kept_93
            · have hkn : k < nr := ge_f hnr (by omega) c49
              refine lv_iload hx hb dL_kept_52 (lv_at hl 4 rfl) ?_
              refine lv_if_ne (tgt := 81) hx hb dL_kept_54 (by decide) (fun c54 => ?_) (fun c54 => ?_)
              · refine lv_iload hx hb dL_kept_81 (lv_at hl 4 rfl) ?_
                refine lv_istore (lv' := [(5, .int (y_kpf σ.2 r k)), (0, .int (nI r)), (1, .ref (ad 0)), (3, .ref (ad 3)), (4, .ref (ad 6)), (6, .int (nI k))]) hx hb dL_kept_83 hl (by decide) rfl (fun ls hl => ?_)
                refine lv_iinc (v := (nI k) + 1) (lv' := [(6, .int ((nI k) + 1)), (5, .int (y_kpf σ.2 r k)), (0, .int (nI r)), (1, .ref (ad 0)), (3, .ref (ad 3)), (4, .ref (ad 6))]) hx hb dL_kept_85 hl (k := 5) rfl rfl (by decide) rfl (fun ls hl => ?_)
                refine lv_goto (tgt := 44) hx hb dL_kept_88 (by decide) ?_
                exact ihk (k + 1) (by omega) (by omega)   _ (lv_to (L := [(0, .int (nI r)), (1, .ref (ad 0)), (3, .ref (ad 3)), (4, .ref (ad 6)), (5, .int (y_kpf σ.2 r k)), (6, .int ((nI k) + 1))]) (lv_sub hl [2, 3, 4, 5, 1, 0] rfl) (lv_cr (lv_cr (lv_cr (lv_cr (lv_ci (by rw [y_kpf, if_neg (fun h => c54 h.1)]) (lv_ci (nI_1 k) rfl)))))))
              · refine lv_aload_n hx hb dL_kept_57 rfl (lv_at hl 2 rfl) ?_
                refine lv_iload_n hx hb dL_kept_58 rfl (lv_at hl 0 rfl) ?_
                refine yr_l (j := r) hx hb hK hP (by omega) dL_kept_59 ?_
                refine lv_iload hx hb dL_kept_60 (lv_at hl 5 rfl) ?_
                refine k_L_has (σ.2 3 r) k (by omega) ⟨hx, hb, hml, hown, hts⟩ gL_kept_L_has ⟨Nat.le_of_ble_eq_true rfl, Nat.le_of_ble_eq_true rfl⟩ hl.1 ⟨Nat.zero_le _, Nat.zero_le _⟩ (Nat.le_of_ble_eq_true rfl) dL_kept_62 ?_
                refine lv_ifeq_b (tgt := 81) hx hb dL_kept_65 (by decide) (fun c65 => ?_) (fun c65 => ?_)
                · refine lv_iload hx hb dL_kept_81 (lv_at hl 4 rfl) ?_
                  refine lv_istore (lv' := [(5, .int (y_kpf σ.2 r k)), (0, .int (nI r)), (1, .ref (ad 0)), (3, .ref (ad 3)), (4, .ref (ad 6)), (6, .int (nI k))]) hx hb dL_kept_83 hl (by decide) rfl (fun ls hl => ?_)
                  refine lv_iinc (v := (nI k) + 1) (lv' := [(6, .int ((nI k) + 1)), (5, .int (y_kpf σ.2 r k)), (0, .int (nI r)), (1, .ref (ad 0)), (3, .ref (ad 3)), (4, .ref (ad 6))]) hx hb dL_kept_85 hl (k := 5) rfl rfl (by decide) rfl (fun ls hl => ?_)
                  refine lv_goto (tgt := 44) hx hb dL_kept_88 (by decide) ?_
                  exact ihk (k + 1) (by omega) (by omega)   _ (lv_to (L := [(0, .int (nI r)), (1, .ref (ad 0)), (3, .ref (ad 3)), (4, .ref (ad 6)), (5, .int (y_kpf σ.2 r k)), (6, .int ((nI k) + 1))]) (lv_sub hl [2, 3, 4, 5, 1, 0] rfl) (lv_cr (lv_cr (lv_cr (lv_cr (lv_ci (by rw [y_kpf, if_neg (fun h => by rw [c65] at h; cases h.2.1)]) (lv_ci (nI_1 k) rfl)))))))
                · refine lv_aload hx hb dL_kept_68 (lv_at hl 3 rfl) ?_
                  refine lv_iload hx hb dL_kept_70 (lv_at hl 5 rfl) ?_
                  refine yr_t (j := k) hx hb hK hP (by omega) dL_kept_72 ?_
                  refine lv_iconst (v := 2) hx hb dL_kept_73 (by decide) ?_
                  refine lv_icmp_ge (tgt := 81) hx hb dL_kept_74 (by decide) (fun c74 => ?_) (fun c74 => ?_)
                  · refine lv_iload hx hb dL_kept_81 (lv_at hl 4 rfl) ?_
                    refine lv_istore (lv' := [(5, .int (y_kpf σ.2 r k)), (0, .int (nI r)), (1, .ref (ad 0)), (3, .ref (ad 3)), (4, .ref (ad 6)), (6, .int (nI k))]) hx hb dL_kept_83 hl (by decide) rfl (fun ls hl => ?_)
                    refine lv_iinc (v := (nI k) + 1) (lv' := [(6, .int ((nI k) + 1)), (5, .int (y_kpf σ.2 r k)), (0, .int (nI r)), (1, .ref (ad 0)), (3, .ref (ad 3)), (4, .ref (ad 6))]) hx hb dL_kept_85 hl (k := 5) rfl rfl (by decide) rfl (fun ls hl => ?_)
                    refine lv_goto (tgt := 44) hx hb dL_kept_88 (by decide) ?_
                    exact ihk (k + 1) (by omega) (by omega)   _ (lv_to (L := [(0, .int (nI r)), (1, .ref (ad 0)), (3, .ref (ad 3)), (4, .ref (ad 6)), (5, .int (y_kpf σ.2 r k)), (6, .int ((nI k) + 1))]) (lv_sub hl [2, 3, 4, 5, 1, 0] rfl) (lv_cr (lv_cr (lv_cr (lv_cr (lv_ci (by rw [y_kpf, if_neg (fun h => absurd h.2.2 (Int32.not_lt.mpr c74))]) (lv_ci (nI_1 k) rfl)))))))
                  · refine lv_iconst (v := 4) hx hb dL_kept_77 (by decide) ?_
                    refine lv_goto (tgt := 83) hx hb dL_kept_78 (by decide) ?_
                    refine lv_istore (lv' := [(5, .int 4), (0, .int (nI r)), (1, .ref (ad 0)), (3, .ref (ad 3)), (4, .ref (ad 6)), (6, .int (nI k))]) hx hb dL_kept_83 hl (by decide) rfl (fun ls hl => ?_)
                    refine lv_iinc (v := (nI k) + 1) (lv' := [(6, .int ((nI k) + 1)), (5, .int 4), (0, .int (nI r)), (1, .ref (ad 0)), (3, .ref (ad 3)), (4, .ref (ad 6))]) hx hb dL_kept_85 hl (k := 5) rfl rfl (by decide) rfl (fun ls hl => ?_)
                    refine lv_goto (tgt := 44) hx hb dL_kept_88 (by decide) ?_
                    exact ihk (k + 1) (by omega) (by omega)   _ (lv_to (L := [(0, .int (nI r)), (1, .ref (ad 0)), (3, .ref (ad 3)), (4, .ref (ad 6)), (5, .int 4), (6, .int ((nI k) + 1))]) (lv_sub hl [2, 3, 4, 5, 1, 0] rfl) (lv_cr (lv_cr (lv_cr (lv_cr (lv_ci (by rw [y_kpf, if_pos ⟨c54, c65, Int32.not_le.mp c74⟩]) (lv_ci (nI_1 k) rfl)))))))
        exact loop44 (nr + 1) 0 (by omega) (by omega)   _ (lv_to (L := [(0, .int (nI r)), (1, .ref (ad 0)), (3, .ref (ad 3)), (4, .ref (ad 6)), (5, .int 3), (6, .int 0)]) (lv_sub hl [2, 3, 5, 6, 1, 0] rfl) (lv_cr (lv_cr (lv_cr (lv_cr (lv_ci (by rw [y_kpf, y_k0, if_neg c5, if_neg c16, if_pos c31]) (lv_ci (rfl) rfl)))))))
    · refine lv_iconst (v := 2) hx hb dL_kept_19 (by decide) ?_
      refine lv_goto (tgt := 39) hx hb dL_kept_20 (by decide) ?_
      refine lv_istore (lv' := [(5, .int 2), (0, .int (nI r)), (1, .ref (ad 0)), (2, .ref (ad 1)), (3, .ref (ad 3)), (4, .ref (ad 6))]) hx hb dL_kept_39 hl (by decide) rfl (fun ls hl => ?_)
      refine lv_iconst (v := 0) hx hb dL_kept_41 (by decide) ?_
      refine lv_istore (lv' := [(6, .int 0), (5, .int 2), (0, .int (nI r)), (1, .ref (ad 0)), (2, .ref (ad 1)), (3, .ref (ad 3)), (4, .ref (ad 6))]) hx hb dL_kept_42 hl (by decide) rfl (fun ls hl => ?_)
      have loop44 : ∀ (n k : Nat), k ≤ nr → nr + 1 ≤ k + n → ∀ ls, lv_has ls 7 [(0, .int (nI r)), (1, .ref (ad 0)), (3, .ref (ad 3)), (4, .ref (ad 6)), (5, .int (y_kpf σ.2 r k)), (6, .int (nI k))] → q_G p l e ({ frames := 1, cells := 0, slots := 0, locals := 21 } : Room) s m ([.int (nI r), .ref (ad 0), .ref (ad 1), .ref (ad 3), .ref (ad 6)] : List Value).toArray below meth c (some (.int (y_kept σ.2 nr r))) (F0 m 44 ls []) := by
        intro n
        induction n with
        | zero => intro k h1 h2; omega
        | succ n ihk =>
          intro k hk_k hn_k   ls hl
          refine lv_iload hx hb dL_kept_44 (lv_at hl 5 rfl) ?_
          refine lv_aload_n hx hb dL_kept_46 rfl (lv_at hl 1 rfl) ?_
          refine lv_iconst (v := 2) hx hb dL_kept_47 (by decide) ?_
          refine lv_topc (y := nI 2) rfl ?_
          refine yr_q (j := 2) hx hb hK hP (by omega) dL_kept_48 ?_
          refine lv_icmp_ge (tgt := 91) hx hb dL_kept_49 (by decide) (fun c49 => ?_) (fun c49 => ?_)
          · have hkn : k = nr := Nat.le_antisymm hk_k (ge_t hnr (by omega) (by omega) c49)
            refine lv_iload hx hb dL_kept_91 (lv_at hl 4 rfl) ?_
            exact q_iret hx hb hr hlocks (by rw [hkn]; rfl) dL_kept_93
          · have hkn : k < nr := ge_f hnr (by omega) c49
            refine lv_iload hx hb dL_kept_52 (lv_at hl 4 rfl) ?_
            refine lv_if_ne (tgt := 81) hx hb dL_kept_54 (by decide) (fun c54 => ?_) (fun c54 => ?_)
            · refine lv_iload hx hb dL_kept_81 (lv_at hl 4 rfl) ?_
              refine lv_istore (lv' := [(5, .int (y_kpf σ.2 r k)), (0, .int (nI r)), (1, .ref (ad 0)), (3, .ref (ad 3)), (4, .ref (ad 6)), (6, .int (nI k))]) hx hb dL_kept_83 hl (by decide) rfl (fun ls hl => ?_)
              refine lv_iinc (v := (nI k) + 1) (lv' := [(6, .int ((nI k) + 1)), (5, .int (y_kpf σ.2 r k)), (0, .int (nI r)), (1, .ref (ad 0)), (3, .ref (ad 3)), (4, .ref (ad 6))]) hx hb dL_kept_85 hl (k := 5) rfl rfl (by decide) rfl (fun ls hl => ?_)
              refine lv_goto (tgt := 44) hx hb dL_kept_88 (by decide) ?_
              exact ihk (k + 1) (by omega) (by omega)   _ (lv_to (L := [(0, .int (nI r)), (1, .ref (ad 0)), (3, .ref (ad 3)), (4, .ref (ad 6)), (5, .int (y_kpf σ.2 r k)), (6, .int ((nI k) + 1))]) (lv_sub hl [2, 3, 4, 5, 1, 0] rfl) (lv_cr (lv_cr (lv_cr (lv_cr (lv_ci (by rw [y_kpf, if_neg (fun h => c54 h.1)]) (lv_ci (nI_1 k) rfl)))))))
            · refine lv_aload_n hx hb dL_kept_57 rfl (lv_at hl 2 rfl) ?_
              refine lv_iload_n hx hb dL_kept_58 rfl (lv_at hl 0 rfl) ?_
              refine yr_l (j := r) hx hb hK hP (by omega) dL_kept_59 ?_
              refine lv_iload hx hb dL_kept_60 (lv_at hl 5 rfl) ?_
              refine k_L_has (σ.2 3 r) k (by omega) ⟨hx, hb, hml, hown, hts⟩ gL_kept_L_has ⟨Nat.le_of_ble_eq_true rfl, Nat.le_of_ble_eq_true rfl⟩ hl.1 ⟨Nat.zero_le _, Nat.zero_le _⟩ (Nat.le_of_ble_eq_true rfl) dL_kept_62 ?_
              refine lv_ifeq_b (tgt := 81) hx hb dL_kept_65 (by decide) (fun c65 => ?_) (fun c65 => ?_)
              · refine lv_iload hx hb dL_kept_81 (lv_at hl 4 rfl) ?_
                refine lv_istore (lv' := [(5, .int (y_kpf σ.2 r k)), (0, .int (nI r)), (1, .ref (ad 0)), (3, .ref (ad 3)), (4, .ref (ad 6)), (6, .int (nI k))]) hx hb dL_kept_83 hl (by decide) rfl (fun ls hl => ?_)
                refine lv_iinc (v := (nI k) + 1) (lv' := [(6, .int ((nI k) + 1)), (5, .int (y_kpf σ.2 r k)), (0, .int (nI r)), (1, .ref (ad 0)), (3, .ref (ad 3)), (4, .ref (ad 6))]) hx hb dL_kept_85 hl (k := 5) rfl rfl (by decide) rfl (fun ls hl => ?_)
                refine lv_goto (tgt := 44) hx hb dL_kept_88 (by decide) ?_
                exact ihk (k + 1) (by omega) (by omega)   _ (lv_to (L := [(0, .int (nI r)), (1, .ref (ad 0)), (3, .ref (ad 3)), (4, .ref (ad 6)), (5, .int (y_kpf σ.2 r k)), (6, .int ((nI k) + 1))]) (lv_sub hl [2, 3, 4, 5, 1, 0] rfl) (lv_cr (lv_cr (lv_cr (lv_cr (lv_ci (by rw [y_kpf, if_neg (fun h => by rw [c65] at h; cases h.2.1)]) (lv_ci (nI_1 k) rfl)))))))
              · refine lv_aload hx hb dL_kept_68 (lv_at hl 3 rfl) ?_
                refine lv_iload hx hb dL_kept_70 (lv_at hl 5 rfl) ?_
                refine yr_t (j := k) hx hb hK hP (by omega) dL_kept_72 ?_
                refine lv_iconst (v := 2) hx hb dL_kept_73 (by decide) ?_
                refine lv_icmp_ge (tgt := 81) hx hb dL_kept_74 (by decide) (fun c74 => ?_) (fun c74 => ?_)
                · refine lv_iload hx hb dL_kept_81 (lv_at hl 4 rfl) ?_
                  refine lv_istore (lv' := [(5, .int (y_kpf σ.2 r k)), (0, .int (nI r)), (1, .ref (ad 0)), (3, .ref (ad 3)), (4, .ref (ad 6)), (6, .int (nI k))]) hx hb dL_kept_83 hl (by decide) rfl (fun ls hl => ?_)
                  refine lv_iinc (v := (nI k) + 1) (lv' := [(6, .int ((nI k) + 1)), (5, .int (y_kpf σ.2 r k)), (0, .int (nI r)), (1, .ref (ad 0)), (3, .ref (ad 3)), (4, .ref (ad 6))]) hx hb dL_kept_85 hl (k := 5) rfl rfl (by decide) rfl (fun ls hl => ?_)
                  refine lv_goto (tgt := 44) hx hb dL_kept_88 (by decide) ?_
                  exact ihk (k + 1) (by omega) (by omega)   _ (lv_to (L := [(0, .int (nI r)), (1, .ref (ad 0)), (3, .ref (ad 3)), (4, .ref (ad 6)), (5, .int (y_kpf σ.2 r k)), (6, .int ((nI k) + 1))]) (lv_sub hl [2, 3, 4, 5, 1, 0] rfl) (lv_cr (lv_cr (lv_cr (lv_cr (lv_ci (by rw [y_kpf, if_neg (fun h => absurd h.2.2 (Int32.not_lt.mpr c74))]) (lv_ci (nI_1 k) rfl)))))))
                · refine lv_iconst (v := 4) hx hb dL_kept_77 (by decide) ?_
                  refine lv_goto (tgt := 83) hx hb dL_kept_78 (by decide) ?_
                  refine lv_istore (lv' := [(5, .int 4), (0, .int (nI r)), (1, .ref (ad 0)), (3, .ref (ad 3)), (4, .ref (ad 6)), (6, .int (nI k))]) hx hb dL_kept_83 hl (by decide) rfl (fun ls hl => ?_)
                  refine lv_iinc (v := (nI k) + 1) (lv' := [(6, .int ((nI k) + 1)), (5, .int 4), (0, .int (nI r)), (1, .ref (ad 0)), (3, .ref (ad 3)), (4, .ref (ad 6))]) hx hb dL_kept_85 hl (k := 5) rfl rfl (by decide) rfl (fun ls hl => ?_)
                  refine lv_goto (tgt := 44) hx hb dL_kept_88 (by decide) ?_
                  exact ihk (k + 1) (by omega) (by omega)   _ (lv_to (L := [(0, .int (nI r)), (1, .ref (ad 0)), (3, .ref (ad 3)), (4, .ref (ad 6)), (5, .int 4), (6, .int ((nI k) + 1))]) (lv_sub hl [2, 3, 4, 5, 1, 0] rfl) (lv_cr (lv_cr (lv_cr (lv_cr (lv_ci (by rw [y_kpf, if_pos ⟨c54, c65, Int32.not_le.mp c74⟩]) (lv_ci (nI_1 k) rfl)))))))
      exact loop44 (nr + 1) 0 (by omega) (by omega)   _ (lv_to (L := [(0, .int (nI r)), (1, .ref (ad 0)), (3, .ref (ad 3)), (4, .ref (ad 6)), (5, .int 2), (6, .int 0)]) (lv_sub hl [2, 3, 5, 6, 1, 0] rfl) (lv_cr (lv_cr (lv_cr (lv_cr (lv_ci (by rw [y_kpf, y_k0, if_neg c5, if_pos c16]) (lv_ci (rfl) rfl)))))))
  · refine lv_iconst (v := 1) hx hb dL_kept_8 (by decide) ?_
    refine lv_goto (tgt := 39) hx hb dL_kept_9 (by decide) ?_
    refine lv_istore (lv' := [(5, .int 1), (0, .int (nI r)), (1, .ref (ad 0)), (2, .ref (ad 1)), (3, .ref (ad 3)), (4, .ref (ad 6))]) hx hb dL_kept_39 hl (by decide) rfl (fun ls hl => ?_)
    refine lv_iconst (v := 0) hx hb dL_kept_41 (by decide) ?_
    refine lv_istore (lv' := [(6, .int 0), (5, .int 1), (0, .int (nI r)), (1, .ref (ad 0)), (2, .ref (ad 1)), (3, .ref (ad 3)), (4, .ref (ad 6))]) hx hb dL_kept_42 hl (by decide) rfl (fun ls hl => ?_)
    have loop44 : ∀ (n k : Nat), k ≤ nr → nr + 1 ≤ k + n → ∀ ls, lv_has ls 7 [(0, .int (nI r)), (1, .ref (ad 0)), (3, .ref (ad 3)), (4, .ref (ad 6)), (5, .int (y_kpf σ.2 r k)), (6, .int (nI k))] → q_G p l e ({ frames := 1, cells := 0, slots := 0, locals := 21 } : Room) s m ([.int (nI r), .ref (ad 0), .ref (ad 1), .ref (ad 3), .ref (ad 6)] : List Value).toArray below meth c (some (.int (y_kept σ.2 nr r))) (F0 m 44 ls []) := by
      intro n
      induction n with
      | zero => intro k h1 h2; omega
      | succ n ihk =>
        intro k hk_k hn_k   ls hl
        refine lv_iload hx hb dL_kept_44 (lv_at hl 5 rfl) ?_
        refine lv_aload_n hx hb dL_kept_46 rfl (lv_at hl 1 rfl) ?_
        refine lv_iconst (v := 2) hx hb dL_kept_47 (by decide) ?_
        refine lv_topc (y := nI 2) rfl ?_
        refine yr_q (j := 2) hx hb hK hP (by omega) dL_kept_48 ?_
        refine lv_icmp_ge (tgt := 91) hx hb dL_kept_49 (by decide) (fun c49 => ?_) (fun c49 => ?_)
        · have hkn : k = nr := Nat.le_antisymm hk_k (ge_t hnr (by omega) (by omega) c49)
          refine lv_iload hx hb dL_kept_91 (lv_at hl 4 rfl) ?_
          exact q_iret hx hb hr hlocks (by rw [hkn]; rfl) dL_kept_93
        · have hkn : k < nr := ge_f hnr (by omega) c49
          refine lv_iload hx hb dL_kept_52 (lv_at hl 4 rfl) ?_
          refine lv_if_ne (tgt := 81) hx hb dL_kept_54 (by decide) (fun c54 => ?_) (fun c54 => ?_)
          · refine lv_iload hx hb dL_kept_81 (lv_at hl 4 rfl) ?_
            refine lv_istore (lv' := [(5, .int (y_kpf σ.2 r k)), (0, .int (nI r)), (1, .ref (ad 0)), (3, .ref (ad 3)), (4, .ref (ad 6)), (6, .int (nI k))]) hx hb dL_kept_83 hl (by decide) rfl (fun ls hl => ?_)
            refine lv_iinc (v := (nI k) + 1) (lv' := [(6, .int ((nI k) + 1)), (5, .int (y_kpf σ.2 r k)), (0, .int (nI r)), (1, .ref (ad 0)), (3, .ref (ad 3)), (4, .ref (ad 6))]) hx hb dL_kept_85 hl (k := 5) rfl rfl (by decide) rfl (fun ls hl => ?_)
            refine lv_goto (tgt := 44) hx hb dL_kept_88 (by decide) ?_
            exact ihk (k + 1) (by omega) (by omega)   _ (lv_to (L := [(0, .int (nI r)), (1, .ref (ad 0)), (3, .ref (ad 3)), (4, .ref (ad 6)), (5, .int (y_kpf σ.2 r k)), (6, .int ((nI k) + 1))]) (lv_sub hl [2, 3, 4, 5, 1, 0] rfl) (lv_cr (lv_cr (lv_cr (lv_cr (lv_ci (by rw [y_kpf, if_neg (fun h => c54 h.1)]) (lv_ci (nI_1 k) rfl)))))))
          · refine lv_aload_n hx hb dL_kept_57 rfl (lv_at hl 2 rfl) ?_
            refine lv_iload_n hx hb dL_kept_58 rfl (lv_at hl 0 rfl) ?_
            refine yr_l (j := r) hx hb hK hP (by omega) dL_kept_59 ?_
            refine lv_iload hx hb dL_kept_60 (lv_at hl 5 rfl) ?_
            refine k_L_has (σ.2 3 r) k (by omega) ⟨hx, hb, hml, hown, hts⟩ gL_kept_L_has ⟨Nat.le_of_ble_eq_true rfl, Nat.le_of_ble_eq_true rfl⟩ hl.1 ⟨Nat.zero_le _, Nat.zero_le _⟩ (Nat.le_of_ble_eq_true rfl) dL_kept_62 ?_
            refine lv_ifeq_b (tgt := 81) hx hb dL_kept_65 (by decide) (fun c65 => ?_) (fun c65 => ?_)
            · refine lv_iload hx hb dL_kept_81 (lv_at hl 4 rfl) ?_
              refine lv_istore (lv' := [(5, .int (y_kpf σ.2 r k)), (0, .int (nI r)), (1, .ref (ad 0)), (3, .ref (ad 3)), (4, .ref (ad 6)), (6, .int (nI k))]) hx hb dL_kept_83 hl (by decide) rfl (fun ls hl => ?_)
              refine lv_iinc (v := (nI k) + 1) (lv' := [(6, .int ((nI k) + 1)), (5, .int (y_kpf σ.2 r k)), (0, .int (nI r)), (1, .ref (ad 0)), (3, .ref (ad 3)), (4, .ref (ad 6))]) hx hb dL_kept_85 hl (k := 5) rfl rfl (by decide) rfl (fun ls hl => ?_)
              refine lv_goto (tgt := 44) hx hb dL_kept_88 (by decide) ?_
              exact ihk (k + 1) (by omega) (by omega)   _ (lv_to (L := [(0, .int (nI r)), (1, .ref (ad 0)), (3, .ref (ad 3)), (4, .ref (ad 6)), (5, .int (y_kpf σ.2 r k)), (6, .int ((nI k) + 1))]) (lv_sub hl [2, 3, 4, 5, 1, 0] rfl) (lv_cr (lv_cr (lv_cr (lv_cr (lv_ci (by rw [y_kpf, if_neg (fun h => by rw [c65] at h; cases h.2.1)]) (lv_ci (nI_1 k) rfl)))))))
            · refine lv_aload hx hb dL_kept_68 (lv_at hl 3 rfl) ?_
              refine lv_iload hx hb dL_kept_70 (lv_at hl 5 rfl) ?_
              refine yr_t (j := k) hx hb hK hP (by omega) dL_kept_72 ?_
              refine lv_iconst (v := 2) hx hb dL_kept_73 (by decide) ?_
              refine lv_icmp_ge (tgt := 81) hx hb dL_kept_74 (by decide) (fun c74 => ?_) (fun c74 => ?_)
              · refine lv_iload hx hb dL_kept_81 (lv_at hl 4 rfl) ?_
                refine lv_istore (lv' := [(5, .int (y_kpf σ.2 r k)), (0, .int (nI r)), (1, .ref (ad 0)), (3, .ref (ad 3)), (4, .ref (ad 6)), (6, .int (nI k))]) hx hb dL_kept_83 hl (by decide) rfl (fun ls hl => ?_)
                refine lv_iinc (v := (nI k) + 1) (lv' := [(6, .int ((nI k) + 1)), (5, .int (y_kpf σ.2 r k)), (0, .int (nI r)), (1, .ref (ad 0)), (3, .ref (ad 3)), (4, .ref (ad 6))]) hx hb dL_kept_85 hl (k := 5) rfl rfl (by decide) rfl (fun ls hl => ?_)
                refine lv_goto (tgt := 44) hx hb dL_kept_88 (by decide) ?_
                exact ihk (k + 1) (by omega) (by omega)   _ (lv_to (L := [(0, .int (nI r)), (1, .ref (ad 0)), (3, .ref (ad 3)), (4, .ref (ad 6)), (5, .int (y_kpf σ.2 r k)), (6, .int ((nI k) + 1))]) (lv_sub hl [2, 3, 4, 5, 1, 0] rfl) (lv_cr (lv_cr (lv_cr (lv_cr (lv_ci (by rw [y_kpf, if_neg (fun h => absurd h.2.2 (Int32.not_lt.mpr c74))]) (lv_ci (nI_1 k) rfl)))))))
              · refine lv_iconst (v := 4) hx hb dL_kept_77 (by decide) ?_
                refine lv_goto (tgt := 83) hx hb dL_kept_78 (by decide) ?_
                refine lv_istore (lv' := [(5, .int 4), (0, .int (nI r)), (1, .ref (ad 0)), (3, .ref (ad 3)), (4, .ref (ad 6)), (6, .int (nI k))]) hx hb dL_kept_83 hl (by decide) rfl (fun ls hl => ?_)
                refine lv_iinc (v := (nI k) + 1) (lv' := [(6, .int ((nI k) + 1)), (5, .int 4), (0, .int (nI r)), (1, .ref (ad 0)), (3, .ref (ad 3)), (4, .ref (ad 6))]) hx hb dL_kept_85 hl (k := 5) rfl rfl (by decide) rfl (fun ls hl => ?_)
                refine lv_goto (tgt := 44) hx hb dL_kept_88 (by decide) ?_
                exact ihk (k + 1) (by omega) (by omega)   _ (lv_to (L := [(0, .int (nI r)), (1, .ref (ad 0)), (3, .ref (ad 3)), (4, .ref (ad 6)), (5, .int 4), (6, .int ((nI k) + 1))]) (lv_sub hl [2, 3, 4, 5, 1, 0] rfl) (lv_cr (lv_cr (lv_cr (lv_cr (lv_ci (by rw [y_kpf, if_pos ⟨c54, c65, Int32.not_le.mp c74⟩]) (lv_ci (nI_1 k) rfl)))))))
    exact loop44 (nr + 1) 0 (by omega) (by omega)   _ (lv_to (L := [(0, .int (nI r)), (1, .ref (ad 0)), (3, .ref (ad 3)), (4, .ref (ad 6)), (5, .int 1), (6, .int 0)]) (lv_sub hl [2, 3, 5, 6, 1, 0] rfl) (lv_cr (lv_cr (lv_cr (lv_cr (lv_ci (by rw [y_kpf, y_k0, if_pos c5]) (lv_ci (rfl) rfl)))))))
theorem k_L_kept {p : Program} {l : Launch} {e : Env} {R : Room} {s : State} {m : MethodId} {args : Array Value} {below : List Frame} {meth : Method} {c : Code} {H : Heap} {locs : List Loc} {cells slots : Nat} {Q : State → Prop} {cc : ByteArray} {pc : Nat} {ls : Array Slot} {rest : List Value} {Ts : List Cond} (D : va_G) (tI tZ tL : ClassId) (h0 : Nat) (ad : Nat → Nat) (σ : ST) (r : Nat) (nr : Nat) (hnr : σ.2 0 2 = nI nr) (hn30 : nr ≤ 30) (hrn : r < nr) {own : String} {idx nL : Nat} (S : CallFix p m c cc nL s args Ts own) (hG : GoodIn Ts (va_wsS own idx yL_kept wsL_kept)) (hR : ({ frames := 1, cells := 0, slots := 0, locals := 21 } : Room).frames + 1 ≤ R.frames ∧ 8 + (7 + 11) + ({ frames := 1, cells := 0, slots := 0, locals := 21 } : Room).locals ≤ R.locals) (hsz : ls.size = nL) (hcap : cells ≤ R.cells ∧ slots ≤ R.slots) (hrm : (rest.map fun v => v.category).sum ≤ 8) (hK : va_K D vwCl (kTY tI tZ tL) s) (hP : va_P D vwCl (y_W tI tZ h0 ad σ) H) (hdg : decode cc pc = .ok (.invokestatic idx, 3)) (kk : W p l e R s m args below meth c H locs cells slots Q (F0 m (pc + 3) ls (.int (y_kept σ.2 nr r) :: rest))) : W p l e R s m args below meth c H locs cells slots Q (F0 m pc ls (.ref (ad 6) :: .ref (ad 3) :: .ref (ad 1) :: .ref (ad 0) :: .int (nI r) :: rest)) :=
  q_call (va_runS (As := [.int (nI r), .ref (ad 0), .ref (ad 1), .ref (ad 3), .ref (ad 6)]) (rest := rest) S (c_L_kept l D tI tZ tL h0 ad σ r nr hnr hn30 hrn) (va_cwS 5 S.2.2.2.2 hG rfl rfl rfl (by decide +kernel) hR) (y_pre hK hP) rfl rfl hsz rfl (lv_room hrm) hdg hcap) kk

set_option maxHeartbeats 4000000 in
set_option maxRecDepth 100000 in
theorem c_L_reason (l : Launch) (D : va_G) (tI tZ tL : ClassId) (h0 : Nat) (ad : Nat → Nat) (σ : ST) (r q : Nat) (hr30 : r < 30) (hq8 : q < 8) : Met l yL_reason wsL_reason ({ frames := 2, cells := 0, slots := 0, locals := 45 } : Room) (va_Pc ([.int (nI r), .int (nI q), .ref (ad 0), .ref (ad 1), .ref (ad 2), .ref (ad 4), .ref (ad 5), .ref (ad 6)] : List Value) (y_B D tI tZ tL h0 ad σ)) (q_Q (some (.int (y_rsn σ.2 r q)))) 0 0 q_no := by
  refine q_met (cc := cL_reason) (maxL := 8) (ret := (some .int)) (by decide) rfl (Nat.le_of_ble_eq_true rfl) ?_
  intro p e s m below meth c hx hb hml hr hts hown hlocks hB ls hl
  have hown : s.vm.findClass RL = some m.cls := hown
  obtain ⟨hP, hK⟩ := hB
  have hl : lv_has ls 8 [(0, .int (nI r)), (1, .int (nI q)), (2, .ref (ad 0)), (3, .ref (ad 1)), (4, .ref (ad 2)), (5, .ref (ad 4)), (6, .ref (ad 5)), (7, .ref (ad 6))] := hl
  refine lv_aload hx hb dL_reason_0 (lv_at hl 7 rfl) ?_
  refine lv_iload_n hx hb dL_reason_2 rfl (lv_at hl 0 rfl) ?_
  refine yr_t (j := r) hx hb hK hP (by omega) dL_reason_3 ?_
  refine lv_iconst (v := 2) hx hb dL_reason_4 (by decide) ?_
  refine lv_icmp_ne (tgt := 12) hx hb dL_reason_5 (by decide) (fun c5 => ?_) (fun c5 => ?_)
  · refine lv_aload hx hb dL_reason_12 (lv_at hl 7 rfl) ?_
    refine lv_iload_n hx hb dL_reason_14 rfl (lv_at hl 0 rfl) ?_
    refine yr_t (j := r) hx hb hK hP (by omega) dL_reason_15 ?_
    refine lv_iconst (v := 1) hx hb dL_reason_16 (by decide) ?_
    refine lv_icmp_ne (tgt := 24) hx hb dL_reason_17 (by decide) (fun c17 => ?_) (fun c17 => ?_)
    · refine lv_aload hx hb dL_reason_24 (lv_at hl 5 rfl) ?_
      refine lv_iload_n hx hb dL_reason_26 rfl (lv_at hl 0 rfl) ?_
      refine yr_g (j := r) hx hb hK hP (by omega) dL_reason_27 ?_
      refine lv_iload_n hx hb dL_reason_28 rfl (lv_at hl 1 rfl) ?_
      refine k_L_has (σ.2 4 r) q (by omega) ⟨hx, hb, hml, hown, hts⟩ gL_reason_L_has ⟨Nat.le_of_ble_eq_true rfl, Nat.le_of_ble_eq_true rfl⟩ hl.1 ⟨Nat.zero_le _, Nat.zero_le _⟩ (Nat.le_of_ble_eq_true rfl) dL_reason_29 ?_
      refine lv_ifne_b (tgt := 39) hx hb dL_reason_32 (by decide) (fun c32 => ?_) (fun c32 => ?_)
      · refine lv_iload_n hx hb dL_reason_39 rfl (lv_at hl 1 rfl) ?_
        refine lv_aload hx hb dL_reason_40 (lv_at hl 4 rfl) ?_
        refine lv_iload_n hx hb dL_reason_42 rfl (lv_at hl 0 rfl) ?_
        refine yr_r (j := r) hx hb hK hP (by omega) dL_reason_43 ?_
        refine lv_aload_n hx hb dL_reason_44 rfl (lv_at hl 3 rfl) ?_
        refine k_L_isAllowed D tI tZ tL h0 ad σ q (σ.2 2 r) hq8 ⟨hx, hb, hml, hown, hts⟩ gL_reason_L_isAllowed ⟨Nat.le_of_ble_eq_true rfl, Nat.le_of_ble_eq_true rfl⟩ hl.1 ⟨Nat.zero_le _, Nat.zero_le _⟩ (Nat.le_of_ble_eq_true rfl) hK hP dL_reason_45 ?_
        refine lv_ifne_b (tgt := 55) hx hb dL_reason_48 (by decide) (fun c48 => ?_) (fun c48 => ?_)
        · refine lv_aload_n hx hb dL_reason_55 rfl (lv_at hl 2 rfl) ?_
          refine lv_iconst (v := 0) hx hb dL_reason_56 (by decide) ?_
          refine lv_topc (y := nI 0) rfl ?_
          refine yr_q (j := 0) hx hb hK hP (by omega) dL_reason_57 ?_
          refine lv_aload hx hb dL_reason_58 (lv_at hl 6 rfl) ?_
          refine lv_iload_n hx hb dL_reason_60 rfl (lv_at hl 0 rfl) ?_
          refine yr_a (j := r) hx hb hK hP (by omega) dL_reason_61 ?_
          refine lv_aload_n hx hb dL_reason_62 rfl (lv_at hl 3 rfl) ?_
          refine lv_iload_n hx hb dL_reason_63 rfl (lv_at hl 1 rfl) ?_
          refine yr_p (j := q) hx hb hK hP (by omega) dL_reason_64 ?_
          refine lv_iadd hx hb dL_reason_65 ?_
          refine lv_icmp_lt (tgt := 73) hx hb dL_reason_66 (by decide) (fun c66 => ?_) (fun c66 => ?_)
          · refine lv_iconst (v := 0) hx hb dL_reason_73 (by decide) ?_
            exact q_iret hx hb hr hlocks (by rw [y_rsn, if_neg c5, if_neg c17, if_neg (by rw [c32]; decide), if_neg (by rw [c48]; decide), if_pos c66]) dL_reason_74
          · refine lv_iconst (v := 5) hx hb dL_reason_69 (by decide) ?_
            refine lv_goto (tgt := 74) hx hb dL_reason_70 (by decide) ?_
            exact q_iret hx hb hr hlocks (by rw [y_rsn, if_neg c5, if_neg c17, if_neg (by rw [c32]; decide), if_neg (by rw [c48]; decide), if_neg c66]) dL_reason_74
        · refine lv_iconst (v := 4) hx hb dL_reason_51 (by decide) ?_
          refine lv_goto (tgt := 74) hx hb dL_reason_52 (by decide) ?_
          exact q_iret hx hb hr hlocks (by rw [y_rsn, if_neg c5, if_neg c17, if_neg (by rw [c32]; decide), if_pos c48]) dL_reason_74
      · refine lv_iconst (v := 3) hx hb dL_reason_35 (by decide) ?_
        refine lv_goto (tgt := 74) hx hb dL_reason_36 (by decide) ?_
        exact q_iret hx hb hr hlocks (by rw [y_rsn, if_neg c5, if_neg c17, if_pos c32]) dL_reason_74
    · refine lv_iconst (v := 2) hx hb dL_reason_20 (by decide) ?_
      refine lv_goto (tgt := 74) hx hb dL_reason_21 (by decide) ?_
      exact q_iret hx hb hr hlocks (by rw [y_rsn, if_neg c5, if_pos c17]) dL_reason_74
  · refine lv_iconst (v := 1) hx hb dL_reason_8 (by decide) ?_
    refine lv_goto (tgt := 74) hx hb dL_reason_9 (by decide) ?_
    exact q_iret hx hb hr hlocks (by rw [y_rsn, if_pos c5]) dL_reason_74
theorem k_L_reason {p : Program} {l : Launch} {e : Env} {R : Room} {s : State} {m : MethodId} {args : Array Value} {below : List Frame} {meth : Method} {c : Code} {H : Heap} {locs : List Loc} {cells slots : Nat} {Q : State → Prop} {cc : ByteArray} {pc : Nat} {ls : Array Slot} {rest : List Value} {Ts : List Cond} (D : va_G) (tI tZ tL : ClassId) (h0 : Nat) (ad : Nat → Nat) (σ : ST) (r q : Nat) (hr30 : r < 30) (hq8 : q < 8) {own : String} {idx nL : Nat} (S : CallFix p m c cc nL s args Ts own) (hG : GoodIn Ts (va_wsS own idx yL_reason wsL_reason)) (hR : ({ frames := 2, cells := 0, slots := 0, locals := 45 } : Room).frames + 1 ≤ R.frames ∧ 8 + (8 + 11) + ({ frames := 2, cells := 0, slots := 0, locals := 45 } : Room).locals ≤ R.locals) (hsz : ls.size = nL) (hcap : cells ≤ R.cells ∧ slots ≤ R.slots) (hrm : (rest.map fun v => v.category).sum ≤ 8) (hK : va_K D vwCl (kTY tI tZ tL) s) (hP : va_P D vwCl (y_W tI tZ h0 ad σ) H) (hdg : decode cc pc = .ok (.invokestatic idx, 3)) (kk : W p l e R s m args below meth c H locs cells slots Q (F0 m (pc + 3) ls (.int (y_rsn σ.2 r q) :: rest))) : W p l e R s m args below meth c H locs cells slots Q (F0 m pc ls (.ref (ad 6) :: .ref (ad 5) :: .ref (ad 4) :: .ref (ad 2) :: .ref (ad 1) :: .ref (ad 0) :: .int (nI q) :: .int (nI r) :: rest)) :=
  q_call (va_runS (As := [.int (nI r), .int (nI q), .ref (ad 0), .ref (ad 1), .ref (ad 2), .ref (ad 4), .ref (ad 5), .ref (ad 6)]) (rest := rest) S (c_L_reason l D tI tZ tL h0 ad σ r q hr30 hq8) (va_cwS 8 S.2.2.2.2 hG rfl rfl rfl (by decide +kernel) hR) (y_pre hK hP) rfl rfl hsz rfl (lv_room hrm) hdg hcap) kk

