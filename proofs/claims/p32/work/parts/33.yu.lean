set_option maxHeartbeats 4000000 in
set_option maxRecDepth 100000 in
theorem c_L_lay_r (l : Launch) (D : va_G) (tI tZ tL : ClassId) (h0 : Nat) (ad : Nat → Nat) (σ : ST) (sub w : Int32) (nr : Nat) (hnr : σ.2 0 2 = nI nr) (hr30 : nr < 30) (hn : (y_L h0 ad).Nodup) : Met l yL_lay wsL_lay ({ frames := 0, cells := 0, slots := 0, locals := 0 } : Room) (va_Pc ([.int sub, .int w, .int (-1), .ref (ad 0), .ref (ad 2), .ref (ad 3), .ref (ad 4), .ref (ad 5), .ref (ad 6)] : List Value) (y_B D tI tZ tL h0 ad σ)) (u_Q (some (.int (nI nr))) (y_P D tI tZ h0 ad (y_layR σ nr sub w)) (y_A h0 ad)) 0 0 (y_A h0 ad) := by
  refine u_met (cc := cL_lay) (maxL := 11) (ret := (some .int)) (by decide) rfl (Nat.le_of_ble_eq_true rfl) ?_
  intro p e s m below meth c hx hb hml hr hts hown hlocks hB hS ls hl
  have hD : ∀ σ : ST, va_D (y_A h0 ad) (y_W tI tZ h0 ad σ) := fun σ => y_D σ hn (fun _ h => h)
  have hown : s.vm.findClass RL = some m.cls := hown
  obtain ⟨hP, hK⟩ := hB
  have hl : lv_has ls 11 [(0, .int sub), (1, .int w), (2, .int (-1)), (3, .ref (ad 0)), (4, .ref (ad 2)), (5, .ref (ad 3)), (6, .ref (ad 4)), (7, .ref (ad 5)), (8, .ref (ad 6))] := hl
  have key : ∀ (H : Heap) (locs : List Loc), va_P D vwCl (y_W tI tZ h0 ad σ) H → va_S (y_A h0 ad) s.heap H locs → ∀ ls, lv_has ls 11 [(0, .int sub), (1, .int w), (2, .int (-1)), (3, .ref (ad 0)), (4, .ref (ad 2)), (5, .ref (ad 3)), (6, .ref (ad 4)), (7, .ref (ad 5)), (8, .ref (ad 6))] → u_G p l e ({ frames := 0, cells := 0, slots := 0, locals := 0 } : Room) s m ([.int sub, .int w, .int (-1), .ref (ad 0), .ref (ad 2), .ref (ad 3), .ref (ad 4), .ref (ad 5), .ref (ad 6)] : List Value).toArray below meth c H locs (some (.int (nI nr))) (y_P D tI tZ h0 ad (y_layR σ nr sub w)) (y_A h0 ad) (F0 m 0 ls []) := by
    intro H locs hP hS ls hl
    refine lv_aload_n hx hb dL_lay_0 rfl (lv_at hl 3 rfl) ?_
    refine lv_iconst (v := 2) hx hb dL_lay_1 (by decide) ?_
    refine lv_topc (y := nI 2) rfl ?_
    refine yr_q (j := 2) hx hb hK hP (by omega) dL_lay_2 ?_
    refine lv_topc (y := nI nr) (hnr) ?_
    refine lv_istore (lv' := [(9, .int (nI nr)), (0, .int sub), (1, .int w), (2, .int (-1)), (3, .ref (ad 0)), (4, .ref (ad 2)), (5, .ref (ad 3)), (6, .ref (ad 4)), (7, .ref (ad 5)), (8, .ref (ad 6))]) hx hb dL_lay_3 hl (by decide) rfl (fun ls hl => ?_)
    refine lv_aload hx hb dL_lay_5 (lv_at hl 5 rfl) ?_
    refine lv_iload hx hb dL_lay_7 (lv_at hl 0 rfl) ?_
    refine lv_iload_n hx hb dL_lay_9 rfl (lv_at hl 1 rfl) ?_
    refine yw_r (j := nr) hx hb hK hP (hD _) hS (by omega) dL_lay_10 (fun H locs hP hS => ?_)
    refine lv_aload hx hb dL_lay_11 (lv_at hl 7 rfl) ?_
    refine lv_iload hx hb dL_lay_13 (lv_at hl 0 rfl) ?_
    refine lv_iload_n hx hb dL_lay_15 rfl (lv_at hl 2 rfl) ?_
    refine yw_g (j := nr) hx hb hK hP (hD _) hS (by omega) dL_lay_16 (fun H locs hP hS => ?_)
    refine lv_aload hx hb dL_lay_17 (lv_at hl 8 rfl) ?_
    refine lv_iload hx hb dL_lay_19 (lv_at hl 0 rfl) ?_
    refine lv_aload_n hx hb dL_lay_21 rfl (lv_at hl 4 rfl) ?_
    refine lv_iconst (v := 0) hx hb dL_lay_22 (by decide) ?_
    refine lv_topc (y := nI 0) rfl ?_
    refine yr_q (j := 0) hx hb hK hP (by omega) dL_lay_23 ?_
    refine yw_a (j := nr) hx hb hK hP (hD _) hS (by omega) dL_lay_24 (fun H locs hP hS => ?_)
    refine lv_aload hx hb dL_lay_25 (lv_at hl 9 rfl) ?_
    refine lv_bipush (v := 30) hx hb dL_lay_27 (by decide) ?_
    refine lv_iload hx hb dL_lay_29 (lv_at hl 0 rfl) ?_
    refine lv_iadd hx hb dL_lay_31 ?_
    refine lv_topc (y := nI (30 + nr)) (y_ad 30 nr) ?_
    refine lv_iload_n hx hb dL_lay_32 rfl (lv_at hl 3 rfl) ?_
    refine lv_if_ge (tgt := 40) hx hb dL_lay_33 (by decide) (fun c33 => absurd c33 (by decide)) (fun c33 => ?_)
    refine lv_iconst (v := 1) hx hb dL_lay_36 (by decide) ?_
    refine lv_goto (tgt := 41) hx hb dL_lay_37 (by decide) ?_
    refine yw_t (j := 30 + nr) hx hb hK hP (hD _) hS (by omega) dL_lay_41 (fun H locs hP hS => ?_)
    refine lv_iconst (v := 0) hx hb dL_lay_42 (by decide) ?_
    refine lv_istore (lv' := [(10, .int 0), (9, .int (nI nr)), (0, .int sub), (1, .int w), (2, .int (-1)), (3, .ref (ad 0)), (4, .ref (ad 2)), (5, .ref (ad 3)), (6, .ref (ad 4)), (7, .ref (ad 5)), (8, .ref (ad 6))]) hx hb dL_lay_43 hl (by decide) rfl (fun ls hl => ?_)
    refine lv_iload hx hb dL_lay_45 (lv_at hl 0 rfl) ?_
    refine lv_iload hx hb dL_lay_47 (lv_at hl 1 rfl) ?_
    refine lv_icmp_ge (tgt := 96) hx hb dL_lay_49 (by decide) (fun c49 => ?_) (fun c49 => ?_)
    · refine lv_aload_n hx hb dL_lay_96 rfl (lv_at hl 5 rfl) ?_
      refine lv_iconst (v := 2) hx hb dL_lay_97 (by decide) ?_
      refine lv_topc (y := nI 2) rfl ?_
      refine lv_dup2_11 hx hb dL_lay_98 rfl rfl ?_
      refine yr_q (j := 2) hx hb hK hP (by omega) dL_lay_99 ?_
      refine lv_iconst (v := 1) hx hb dL_lay_100 (by decide) ?_
      refine lv_iadd hx hb dL_lay_101 ?_
      refine yw_q (j := 2) hx hb hK hP (hD _) hS (by omega) dL_lay_102 (fun H locs hP hS => ?_)
      refine lv_iload hx hb dL_lay_103 (lv_at hl 1 rfl) ?_
      exact u_iret hx hb hr hlocks hS (by unfold y_layR; rw [← nI_1, ← hnr]; exact hP) (rfl) dL_lay_105
    · refine lv_iload_n hx hb dL_lay_52 rfl (lv_at hl 4 rfl) ?_
      refine lv_if_lt (tgt := 96) hx hb dL_lay_53 (by decide) (fun c53 => ?_) (fun c53 => absurd (by decide) c53)
      refine lv_aload_n hx hb dL_lay_96 rfl (lv_at hl 5 rfl) ?_
      refine lv_iconst (v := 2) hx hb dL_lay_97 (by decide) ?_
      refine lv_topc (y := nI 2) rfl ?_
      refine lv_dup2_11 hx hb dL_lay_98 rfl rfl ?_
      refine yr_q (j := 2) hx hb hK hP (by omega) dL_lay_99 ?_
      refine lv_iconst (v := 1) hx hb dL_lay_100 (by decide) ?_
      refine lv_iadd hx hb dL_lay_101 ?_
      refine yw_q (j := 2) hx hb hK hP (hD _) hS (by omega) dL_lay_102 (fun H locs hP hS => ?_)
      refine lv_iload hx hb dL_lay_103 (lv_at hl 1 rfl) ?_
      exact u_iret hx hb hr hlocks hS (by unfold y_layR; rw [← nI_1, ← hnr]; exact hP) (rfl) dL_lay_105
  exact key _ _ hP hS ls hl
theorem k_L_lay_r {p : Program} {l : Launch} {e : Env} {R : Room} {s : State} {m : MethodId} {args : Array Value} {below : List Frame} {meth : Method} {c : Code} {H : Heap} {locs : List Loc} {cells slots : Nat} {Q : State → Prop} {cc : ByteArray} {pc : Nat} {ls : Array Slot} {rest : List Value} {Ts : List Cond} (D : va_G) (tI tZ tL : ClassId) (h0 : Nat) (ad : Nat → Nat) (σ : ST) (sub w : Int32) (nr : Nat) (hnr : σ.2 0 2 = nI nr) (hr30 : nr < 30) {A0 : Nat → Prop} {H0 : Heap} {own : String} {idx nL : Nat} (S : CallFix p m c cc nL s args Ts own) (hG : GoodIn Ts (va_wsS own idx yL_lay wsL_lay)) (hR : ({ frames := 0, cells := 0, slots := 0, locals := 0 } : Room).frames + 1 ≤ R.frames ∧ 8 + (11 + 11) + ({ frames := 0, cells := 0, slots := 0, locals := 0 } : Room).locals ≤ R.locals) (hsz : ls.size = nL) (hcap : cells ≤ R.cells ∧ slots ≤ R.slots) (hrm : (rest.map fun v => v.category).sum ≤ 8) (hn : (y_L h0 ad).Nodup) (hK : va_K D vwCl (kTY tI tZ tL) s) (hP : va_P D vwCl (y_W tI tZ h0 ad σ) H) (hS : va_S A0 H0 H locs) (hA : ∀ q, y_A h0 ad q → A0 q) (hdg : decode cc pc = .ok (.invokestatic idx, 3)) (kk : ∀ (H1 : Heap) (locs1 : List Loc), va_P D vwCl (y_W tI tZ h0 ad (y_layR σ nr sub w)) H1 → H.size ≤ H1.size → (∀ q : Nat, q < H.size → ¬ y_A h0 ad q → H1[q]? = H[q]?) → va_S A0 H0 H1 locs1 → W p l e R s m args below meth c H1 locs1 cells slots Q (F0 m (pc + 3) ls (.int (nI nr) :: rest))) : W p l e R s m args below meth c H locs cells slots Q (F0 m pc ls (.ref (ad 6) :: .ref (ad 5) :: .ref (ad 4) :: .ref (ad 3) :: .ref (ad 2) :: .ref (ad 0) :: .int (-1) :: .int w :: .int sub :: rest)) :=
  u_call (va_runS (As := [.int sub, .int w, .int (-1), .ref (ad 0), .ref (ad 2), .ref (ad 3), .ref (ad 4), .ref (ad 5), .ref (ad 6)]) (rest := rest) S (c_L_lay_r l D tI tZ tL h0 ad σ sub w nr hnr hr30 hn) (va_cwS 9 S.2.2.2.2 hG rfl rfl rfl (by decide +kernel) hR) (y_pre hK hP) rfl rfl hsz rfl (lv_room hrm) hdg hcap) hS hA hA kk

set_option maxHeartbeats 4000000 in
set_option maxRecDepth 100000 in
theorem c_L_lay_d (l : Launch) (D : va_G) (tI tZ tL : ClassId) (h0 : Nat) (ad : Nat → Nat) (σ : ST) (sub w : Int32) (sr : Nat) (hsr : sr < 30) (nr : Nat) (hnr : σ.2 0 2 = nI nr) (hr30 : nr < 30) (hn : (y_L h0 ad).Nodup) : Met l yL_lay wsL_lay ({ frames := 1, cells := 0, slots := 0, locals := 21 } : Room) (va_Pc ([.int sub, .int w, .int (nI sr), .ref (ad 0), .ref (ad 2), .ref (ad 3), .ref (ad 4), .ref (ad 5), .ref (ad 6)] : List Value) (y_B D tI tZ tL h0 ad σ)) (u_Q (some (.int (nI nr))) (y_P D tI tZ h0 ad (y_layD σ nr sub w sr)) (y_A h0 ad)) 0 0 (y_A h0 ad) := by
  refine u_met (cc := cL_lay) (maxL := 11) (ret := (some .int)) (by decide) rfl (Nat.le_of_ble_eq_true rfl) ?_
  intro p e s m below meth c hx hb hml hr hts hown hlocks hB hS ls hl
  have hD : ∀ σ : ST, va_D (y_A h0 ad) (y_W tI tZ h0 ad σ) := fun σ => y_D σ hn (fun _ h => h)
  have hown : s.vm.findClass RL = some m.cls := hown
  obtain ⟨hP, hK⟩ := hB
  have hl : lv_has ls 11 [(0, .int sub), (1, .int w), (2, .int (nI sr)), (3, .ref (ad 0)), (4, .ref (ad 2)), (5, .ref (ad 3)), (6, .ref (ad 4)), (7, .ref (ad 5)), (8, .ref (ad 6))] := hl
  have key : ∀ (H : Heap) (locs : List Loc), va_P D vwCl (y_W tI tZ h0 ad σ) H → va_S (y_A h0 ad) s.heap H locs → ∀ ls, lv_has ls 11 [(0, .int sub), (1, .int w), (2, .int (nI sr)), (3, .ref (ad 0)), (4, .ref (ad 2)), (5, .ref (ad 3)), (6, .ref (ad 4)), (7, .ref (ad 5)), (8, .ref (ad 6))] → u_G p l e ({ frames := 1, cells := 0, slots := 0, locals := 21 } : Room) s m ([.int sub, .int w, .int (nI sr), .ref (ad 0), .ref (ad 2), .ref (ad 3), .ref (ad 4), .ref (ad 5), .ref (ad 6)] : List Value).toArray below meth c H locs (some (.int (nI nr))) (y_P D tI tZ h0 ad (y_layD σ nr sub w sr)) (y_A h0 ad) (F0 m 0 ls []) := by
    intro H locs hP hS ls hl
    refine lv_aload_n hx hb dL_lay_0 rfl (lv_at hl 3 rfl) ?_
    refine lv_iconst (v := 2) hx hb dL_lay_1 (by decide) ?_
    refine lv_topc (y := nI 2) rfl ?_
    refine yr_q (j := 2) hx hb hK hP (by omega) dL_lay_2 ?_
    refine lv_topc (y := nI nr) (hnr) ?_
    refine lv_istore (lv' := [(9, .int (nI nr)), (0, .int sub), (1, .int w), (2, .int (nI sr)), (3, .ref (ad 0)), (4, .ref (ad 2)), (5, .ref (ad 3)), (6, .ref (ad 4)), (7, .ref (ad 5)), (8, .ref (ad 6))]) hx hb dL_lay_3 hl (by decide) rfl (fun ls hl => ?_)
    refine lv_aload hx hb dL_lay_5 (lv_at hl 5 rfl) ?_
    refine lv_iload hx hb dL_lay_7 (lv_at hl 0 rfl) ?_
    refine lv_iload_n hx hb dL_lay_9 rfl (lv_at hl 1 rfl) ?_
    refine yw_r (j := nr) hx hb hK hP (hD _) hS (by omega) dL_lay_10 (fun H locs hP hS => ?_)
    refine lv_aload hx hb dL_lay_11 (lv_at hl 7 rfl) ?_
    refine lv_iload hx hb dL_lay_13 (lv_at hl 0 rfl) ?_
    refine lv_iload_n hx hb dL_lay_15 rfl (lv_at hl 2 rfl) ?_
    refine yw_g (j := nr) hx hb hK hP (hD _) hS (by omega) dL_lay_16 (fun H locs hP hS => ?_)
    refine lv_aload hx hb dL_lay_17 (lv_at hl 8 rfl) ?_
    refine lv_iload hx hb dL_lay_19 (lv_at hl 0 rfl) ?_
    refine lv_aload_n hx hb dL_lay_21 rfl (lv_at hl 4 rfl) ?_
    refine lv_iconst (v := 0) hx hb dL_lay_22 (by decide) ?_
    refine lv_topc (y := nI 0) rfl ?_
    refine yr_q (j := 0) hx hb hK hP (by omega) dL_lay_23 ?_
    refine yw_a (j := nr) hx hb hK hP (hD _) hS (by omega) dL_lay_24 (fun H locs hP hS => ?_)
    refine lv_aload hx hb dL_lay_25 (lv_at hl 9 rfl) ?_
    refine lv_bipush (v := 30) hx hb dL_lay_27 (by decide) ?_
    refine lv_iload hx hb dL_lay_29 (lv_at hl 0 rfl) ?_
    refine lv_iadd hx hb dL_lay_31 ?_
    refine lv_topc (y := nI (30 + nr)) (y_ad 30 nr) ?_
    refine lv_iload_n hx hb dL_lay_32 rfl (lv_at hl 3 rfl) ?_
    refine lv_if_ge (tgt := 40) hx hb dL_lay_33 (by decide) (fun c33 => ?_) (fun c33 => absurd (nI_pos' (by omega)) c33)
    refine lv_iconst (v := 0) hx hb dL_lay_40 (by decide) ?_
    refine yw_t (j := 30 + nr) hx hb hK hP (hD _) hS (by omega) dL_lay_41 (fun H locs hP hS => ?_)
    refine lv_iconst (v := 0) hx hb dL_lay_42 (by decide) ?_
    refine lv_istore (lv' := [(10, .int 0), (9, .int (nI nr)), (0, .int sub), (1, .int w), (2, .int (nI sr)), (3, .ref (ad 0)), (4, .ref (ad 2)), (5, .ref (ad 3)), (6, .ref (ad 4)), (7, .ref (ad 5)), (8, .ref (ad 6))]) hx hb dL_lay_43 hl (by decide) rfl (fun ls hl => ?_)
    have loop45 : ∀ (n k : Nat), k ≤ nr → nr + 1 ≤ k + n → ∀ (H : Heap) (locs : List Loc), va_P D vwCl (y_W tI tZ h0 ad (y_orS (y_layB σ nr sub w) 3 (fun i => decide (i = sr) || bt (σ.2 3 i) sr) (bI nr) k)) H → va_S (y_A h0 ad) s.heap H locs → ∀ ls, lv_has ls 11 [(2, .int (nI sr)), (3, .ref (ad 0)), (5, .ref (ad 3)), (9, .int (nI nr)), (10, .int (nI k))] → u_G p l e ({ frames := 1, cells := 0, slots := 0, locals := 21 } : Room) s m ([.int sub, .int w, .int (nI sr), .ref (ad 0), .ref (ad 2), .ref (ad 3), .ref (ad 4), .ref (ad 5), .ref (ad 6)] : List Value).toArray below meth c H locs (some (.int (nI nr))) (y_P D tI tZ h0 ad (y_layD σ nr sub w sr)) (y_A h0 ad) (F0 m 45 ls []) := by
      intro n
      induction n with
      | zero => intro k h1 h2; omega
      | succ n ihk =>
        intro k hk_k hn_k   H locs hP hS ls hl
        refine lv_iload hx hb dL_lay_45 (lv_at hl 4 rfl) ?_
        refine lv_iload hx hb dL_lay_47 (lv_at hl 3 rfl) ?_
        refine lv_icmp_ge (tgt := 96) hx hb dL_lay_49 (by decide) (fun c49 => ?_) (fun c49 => ?_)
        · have hkn : k = nr := Nat.le_antisymm hk_k (ge_t (n := nr) rfl (by omega) (by omega) c49)
          refine lv_aload_n hx hb dL_lay_96 rfl (lv_at hl 1 rfl) ?_
          refine lv_iconst (v := 2) hx hb dL_lay_97 (by decide) ?_
          refine lv_topc (y := nI 2) rfl ?_
          refine lv_dup2_11 hx hb dL_lay_98 rfl rfl ?_
          refine yr_q (j := 2) hx hb hK hP (by omega) dL_lay_99 ?_
          refine lv_iconst (v := 1) hx hb dL_lay_100 (by decide) ?_
          refine lv_iadd hx hb dL_lay_101 ?_
          refine yw_q (j := 2) hx hb hK hP (hD _) hS (by omega) dL_lay_102 (fun H locs hP hS => ?_)
          refine lv_iload hx hb dL_lay_103 (lv_at hl 3 rfl) ?_
          exact u_iret hx hb hr hlocks hS (by unfold y_layD; rw [hkn] at hP; rw [← nI_1, ← hnr]; exact hP) (rfl) dL_lay_105
        · have hkn : k < nr := ge_f (n := nr) rfl (by omega) c49
          refine lv_iload_n hx hb dL_lay_52 rfl (lv_at hl 0 rfl) ?_
          refine lv_if_lt (tgt := 96) hx hb dL_lay_53 (by decide) (fun c53 => absurd c53 (nI_pos (by omega))) (fun c53 => ?_)
          refine lv_aload hx hb dL_lay_56 (lv_at hl 2 rfl) ?_
          refine lv_iload hx hb dL_lay_58 (lv_at hl 4 rfl) ?_
          refine lv_dup2_11 hx hb dL_lay_60 rfl rfl ?_
          refine yr_l (j := k) hx hb hK hP (by omega) dL_lay_61 ?_
          refine lv_topc (y := σ.2 3 k) (y_or_at) ?_
          refine lv_iload hx hb dL_lay_62 (lv_at hl 4 rfl) ?_
          refine lv_iload_n hx hb dL_lay_64 rfl (lv_at hl 0 rfl) ?_
          refine lv_icmp_eq (tgt := 80) hx hb dL_lay_65 (by decide) (fun c65 => ?_) (fun c65 => ?_)
          · refine lv_iconst (v := 1) hx hb dL_lay_80 (by decide) ?_
            refine lv_iload hx hb dL_lay_81 (lv_at hl 3 rfl) ?_
            refine lv_ishl hx hb dL_lay_83 ?_
            refine lv_goto (tgt := 88) hx hb dL_lay_84 (by decide) ?_
            refine lv_ior hx hb dL_lay_88 ?_
            refine yw_l (j := k) hx hb hK hP (hD _) hS (by omega) dL_lay_89 (fun H locs hP hS => ?_)
            refine lv_iinc (v := (nI k) + 1) (lv' := [(10, .int ((nI k) + 1)), (2, .int (nI sr)), (3, .ref (ad 0)), (5, .ref (ad 3)), (9, .int (nI nr))]) hx hb dL_lay_90 hl (k := 4) rfl rfl (by decide) rfl (fun ls hl => ?_)
            refine lv_goto (tgt := 45) hx hb dL_lay_93 (by decide) ?_
            exact ihk (k + 1) (by omega) (by omega)   _ _ (by rw [← y_or_t (by show (decide (k = sr) || _) = true; rw [decide_eq_true ((nI_eq (by omega) (by omega)).mp c65)]; rfl)]; exact hP) hS _ (lv_to (L := [(2, .int (nI sr)), (3, .ref (ad 0)), (5, .ref (ad 3)), (9, .int (nI nr)), (10, .int ((nI k) + 1))]) (lv_sub hl [1, 2, 3, 4, 0] rfl) (lv_cr (lv_cr (lv_cr (lv_cr (lv_ci (nI_1 k) rfl))))))
          · refine lv_aload hx hb dL_lay_68 (lv_at hl 2 rfl) ?_
            refine lv_iload hx hb dL_lay_70 (lv_at hl 4 rfl) ?_
            refine yr_l (j := k) hx hb hK hP (by omega) dL_lay_72 ?_
            refine lv_topc (y := σ.2 3 k) (y_or_at) ?_
            refine lv_iload_n hx hb dL_lay_73 rfl (lv_at hl 0 rfl) ?_
            refine k_L_has (σ.2 3 k) sr (by omega) ⟨hx, hb, hml, hown, hts⟩ gL_lay_L_has ⟨Nat.le_of_ble_eq_true rfl, Nat.le_of_ble_eq_true rfl⟩ hl.1 ⟨Nat.zero_le _, Nat.zero_le _⟩ (Nat.le_of_ble_eq_true rfl) dL_lay_74 ?_
            refine lv_ifeq_b (tgt := 87) hx hb dL_lay_77 (by decide) (fun c77 => ?_) (fun c77 => ?_)
            · refine lv_iconst (v := 0) hx hb dL_lay_87 (by decide) ?_
              refine lv_ior hx hb dL_lay_88 ?_
              refine yw_l (j := k) hx hb hK hP (hD _) hS (by omega) dL_lay_89 (fun H locs hP hS => ?_)
              refine lv_iinc (v := (nI k) + 1) (lv' := [(10, .int ((nI k) + 1)), (2, .int (nI sr)), (3, .ref (ad 0)), (5, .ref (ad 3)), (9, .int (nI nr))]) hx hb dL_lay_90 hl (k := 4) rfl rfl (by decide) rfl (fun ls hl => ?_)
              refine lv_goto (tgt := 45) hx hb dL_lay_93 (by decide) ?_
              exact ihk (k + 1) (by omega) (by omega)   _ _ (by rw [← y_or_f (by show (decide (k = sr) || bt (σ.2 3 k) sr) = false; rw [decide_eq_f (fun e => c65 (by rw [e])), c77]; rfl)]; exact hP) hS _ (lv_to (L := [(2, .int (nI sr)), (3, .ref (ad 0)), (5, .ref (ad 3)), (9, .int (nI nr)), (10, .int ((nI k) + 1))]) (lv_sub hl [1, 2, 3, 4, 0] rfl) (lv_cr (lv_cr (lv_cr (lv_cr (lv_ci (nI_1 k) rfl))))))
            · refine lv_iconst (v := 1) hx hb dL_lay_80 (by decide) ?_
              refine lv_iload hx hb dL_lay_81 (lv_at hl 3 rfl) ?_
              refine lv_ishl hx hb dL_lay_83 ?_
              refine lv_goto (tgt := 88) hx hb dL_lay_84 (by decide) ?_
              refine lv_ior hx hb dL_lay_88 ?_
              refine yw_l (j := k) hx hb hK hP (hD _) hS (by omega) dL_lay_89 (fun H locs hP hS => ?_)
              refine lv_iinc (v := (nI k) + 1) (lv' := [(10, .int ((nI k) + 1)), (2, .int (nI sr)), (3, .ref (ad 0)), (5, .ref (ad 3)), (9, .int (nI nr))]) hx hb dL_lay_90 hl (k := 4) rfl rfl (by decide) rfl (fun ls hl => ?_)
              refine lv_goto (tgt := 45) hx hb dL_lay_93 (by decide) ?_
              exact ihk (k + 1) (by omega) (by omega)   _ _ (by rw [← y_or_t (by show (decide (k = sr) || bt (σ.2 3 k) sr) = true; rw [c77, Bool.or_true])]; exact hP) hS _ (lv_to (L := [(2, .int (nI sr)), (3, .ref (ad 0)), (5, .ref (ad 3)), (9, .int (nI nr)), (10, .int ((nI k) + 1))]) (lv_sub hl [1, 2, 3, 4, 0] rfl) (lv_cr (lv_cr (lv_cr (lv_cr (lv_ci (nI_1 k) rfl))))))
    exact loop45 (nr + 1) 0 (by omega) (by omega)   _ _ (by rw [y_or_0]; exact hP) hS _ (lv_to (L := [(2, .int (nI sr)), (3, .ref (ad 0)), (5, .ref (ad 3)), (9, .int (nI nr)), (10, .int 0)]) (lv_sub hl [4, 5, 7, 1, 0] rfl) (lv_cr (lv_cr (lv_cr (lv_cr (lv_ci (rfl) rfl))))))
  exact key _ _ hP hS ls hl
theorem k_L_lay_d {p : Program} {l : Launch} {e : Env} {R : Room} {s : State} {m : MethodId} {args : Array Value} {below : List Frame} {meth : Method} {c : Code} {H : Heap} {locs : List Loc} {cells slots : Nat} {Q : State → Prop} {cc : ByteArray} {pc : Nat} {ls : Array Slot} {rest : List Value} {Ts : List Cond} (D : va_G) (tI tZ tL : ClassId) (h0 : Nat) (ad : Nat → Nat) (σ : ST) (sub w : Int32) (sr : Nat) (hsr : sr < 30) (nr : Nat) (hnr : σ.2 0 2 = nI nr) (hr30 : nr < 30) {A0 : Nat → Prop} {H0 : Heap} {own : String} {idx nL : Nat} (S : CallFix p m c cc nL s args Ts own) (hG : GoodIn Ts (va_wsS own idx yL_lay wsL_lay)) (hR : ({ frames := 1, cells := 0, slots := 0, locals := 21 } : Room).frames + 1 ≤ R.frames ∧ 8 + (11 + 11) + ({ frames := 1, cells := 0, slots := 0, locals := 21 } : Room).locals ≤ R.locals) (hsz : ls.size = nL) (hcap : cells ≤ R.cells ∧ slots ≤ R.slots) (hrm : (rest.map fun v => v.category).sum ≤ 8) (hn : (y_L h0 ad).Nodup) (hK : va_K D vwCl (kTY tI tZ tL) s) (hP : va_P D vwCl (y_W tI tZ h0 ad σ) H) (hS : va_S A0 H0 H locs) (hA : ∀ q, y_A h0 ad q → A0 q) (hdg : decode cc pc = .ok (.invokestatic idx, 3)) (kk : ∀ (H1 : Heap) (locs1 : List Loc), va_P D vwCl (y_W tI tZ h0 ad (y_layD σ nr sub w sr)) H1 → H.size ≤ H1.size → (∀ q : Nat, q < H.size → ¬ y_A h0 ad q → H1[q]? = H[q]?) → va_S A0 H0 H1 locs1 → W p l e R s m args below meth c H1 locs1 cells slots Q (F0 m (pc + 3) ls (.int (nI nr) :: rest))) : W p l e R s m args below meth c H locs cells slots Q (F0 m pc ls (.ref (ad 6) :: .ref (ad 5) :: .ref (ad 4) :: .ref (ad 3) :: .ref (ad 2) :: .ref (ad 0) :: .int (nI sr) :: .int w :: .int sub :: rest)) :=
  u_call (va_runS (As := [.int sub, .int w, .int (nI sr), .ref (ad 0), .ref (ad 2), .ref (ad 3), .ref (ad 4), .ref (ad 5), .ref (ad 6)]) (rest := rest) S (c_L_lay_d l D tI tZ tL h0 ad σ sub w sr hsr nr hnr hr30 hn) (va_cwS 9 S.2.2.2.2 hG rfl rfl rfl (by decide +kernel) hR) (y_pre hK hP) rfl rfl hsz rfl (lv_room hrm) hdg hcap) hS hA hA kk

set_option maxHeartbeats 4000000 in
set_option maxRecDepth 100000 in
theorem c_L_asks_p (l : Launch) (D : va_G) (tI tZ tL : ClassId) (h0 : Nat) (ad : Nat → Nat) (σ : ST) (r : Nat) (nr : Nat) (hnr : σ.2 0 2 = nI nr) (hn30 : nr ≤ 30) (hrn : r < nr) (hpr : σ.2 6 r = 0) (hlr : bt (σ.2 3 r) r = false) (hn : (y_L h0 ad).Nodup) : Met l yL_asks wsL_asks ({ frames := 1, cells := 0, slots := 0, locals := 21 } : Room) (va_Pc ([.int (nI r), .ref (ad 0), .ref (ad 3), .ref (ad 6)] : List Value) (y_B D tI tZ tL h0 ad σ)) (u_Q (some (.int (m_cn (σ.2 6) (σ.2 3 r ||| bI r) nr))) (y_P D tI tZ h0 ad (y_stS σ (σ.2 3 r ||| bI r) nr)) (y_A h0 ad)) 0 0 (y_A h0 ad) := by
  refine u_met (cc := cL_asks) (maxL := 6) (ret := (some .int)) (by decide) rfl (Nat.le_of_ble_eq_true rfl) ?_
  intro p e s m below meth c hx hb hml hr hts hown hlocks hB hS ls hl
  have hD : ∀ σ : ST, va_D (y_A h0 ad) (y_W tI tZ h0 ad σ) := fun σ => y_D σ hn (fun _ h => h)
  have hown : s.vm.findClass RL = some m.cls := hown
  obtain ⟨hP, hK⟩ := hB
  have hl : lv_has ls 6 [(0, .int (nI r)), (1, .ref (ad 0)), (2, .ref (ad 3)), (3, .ref (ad 6))] := hl
  have key : ∀ (H : Heap) (locs : List Loc), va_P D vwCl (y_W tI tZ h0 ad σ) H → va_S (y_A h0 ad) s.heap H locs → ∀ ls, lv_has ls 6 [(0, .int (nI r)), (1, .ref (ad 0)), (2, .ref (ad 3)), (3, .ref (ad 6))] → u_G p l e ({ frames := 1, cells := 0, slots := 0, locals := 21 } : Room) s m ([.int (nI r), .ref (ad 0), .ref (ad 3), .ref (ad 6)] : List Value).toArray below meth c H locs (some (.int (m_cn (σ.2 6) (σ.2 3 r ||| bI r) nr))) (y_P D tI tZ h0 ad (y_stS σ (σ.2 3 r ||| bI r) nr)) (y_A h0 ad) (F0 m 0 ls []) := by
    intro H locs hP hS ls hl
    refine lv_iconst (v := 0) hx hb dL_asks_0 (by decide) ?_
    refine lv_istore (lv' := [(4, .int 0), (0, .int (nI r)), (1, .ref (ad 0)), (2, .ref (ad 3)), (3, .ref (ad 6))]) hx hb dL_asks_1 hl (by decide) rfl (fun ls hl => ?_)
    refine lv_iconst (v := 0) hx hb dL_asks_3 (by decide) ?_
    refine lv_istore (lv' := [(5, .int 0), (4, .int 0), (0, .int (nI r)), (1, .ref (ad 0)), (2, .ref (ad 3)), (3, .ref (ad 6))]) hx hb dL_asks_4 hl (by decide) rfl (fun ls hl => ?_)
    have loop6 : ∀ (n k : Nat), k ≤ nr → nr + 1 ≤ k + n → ∀ (H : Heap) (locs : List Loc), va_P D vwCl (y_W tI tZ h0 ad (y_stS σ (σ.2 3 r) k)) H → va_S (y_A h0 ad) s.heap H locs → ∀ ls, lv_has ls 6 [(0, .int (nI r)), (1, .ref (ad 0)), (2, .ref (ad 3)), (3, .ref (ad 6)), (4, .int (m_cn (σ.2 6) (σ.2 3 r) k)), (5, .int (nI k))] → u_G p l e ({ frames := 1, cells := 0, slots := 0, locals := 21 } : Room) s m ([.int (nI r), .ref (ad 0), .ref (ad 3), .ref (ad 6)] : List Value).toArray below meth c H locs (some (.int (m_cn (σ.2 6) (σ.2 3 r ||| bI r) nr))) (y_P D tI tZ h0 ad (y_stS σ (σ.2 3 r ||| bI r) nr)) (y_A h0 ad) (F0 m 6 ls []) := by
      intro n
      induction n with
      | zero => intro k h1 h2; omega
      | succ n ihk =>
        intro k hk_k hn_k   H locs hP hS ls hl
        refine lv_iload hx hb dL_asks_6 (lv_at hl 5 rfl) ?_
        refine lv_aload_n hx hb dL_asks_8 rfl (lv_at hl 1 rfl) ?_
        refine lv_iconst (v := 2) hx hb dL_asks_9 (by decide) ?_
        refine lv_topc (y := nI 2) rfl ?_
        refine yr_q (j := 2) hx hb hK hP (by omega) dL_asks_10 ?_
        refine lv_icmp_ge (tgt := 58) hx hb dL_asks_11 (by decide) (fun c11 => ?_) (fun c11 => ?_)
        · have hkn : k = nr := Nat.le_antisymm hk_k (ge_t hnr (by omega) (by omega) c11)
          refine lv_iload hx hb dL_asks_58 (lv_at hl 4 rfl) ?_
          refine lv_aload_n hx hb dL_asks_60 rfl (lv_at hl 3 rfl) ?_
          refine lv_iload_n hx hb dL_asks_61 rfl (lv_at hl 0 rfl) ?_
          refine yr_t (j := r) hx hb hK hP (by omega) dL_asks_62 ?_
          refine lv_topc (y := σ.2 6 r) (y_st_z hlr) ?_
          refine lv_if_ne (tgt := 70) hx hb dL_asks_63 (by decide) (fun c63 => absurd hpr c63) (fun c63 => ?_)
          refine lv_iconst (v := 1) hx hb dL_asks_66 (by decide) ?_
          refine lv_goto (tgt := 71) hx hb dL_asks_67 (by decide) ?_
          refine lv_iadd hx hb dL_asks_71 ?_
          refine lv_istore (lv' := [(4, .int ((m_cn (σ.2 6) (σ.2 3 r) k) + 1)), (0, .int (nI r)), (1, .ref (ad 0)), (2, .ref (ad 3)), (3, .ref (ad 6)), (5, .int (nI k))]) hx hb dL_asks_72 hl (by decide) rfl (fun ls hl => ?_)
          refine lv_aload_n hx hb dL_asks_74 rfl (lv_at hl 4 rfl) ?_
          refine lv_iload_n hx hb dL_asks_75 rfl (lv_at hl 1 rfl) ?_
          refine lv_aload_n hx hb dL_asks_76 rfl (lv_at hl 4 rfl) ?_
          refine lv_iload_n hx hb dL_asks_77 rfl (lv_at hl 1 rfl) ?_
          refine yr_t (j := r) hx hb hK hP (by omega) dL_asks_78 ?_
          refine lv_topc (y := σ.2 6 r) (y_st_z hlr) ?_
          refine lv_if_ne (tgt := 86) hx hb dL_asks_79 (by decide) (fun c79 => absurd hpr c79) (fun c79 => ?_)
          refine lv_iconst (v := 1) hx hb dL_asks_82 (by decide) ?_
          refine lv_goto (tgt := 89) hx hb dL_asks_83 (by decide) ?_
          refine yw_t (j := r) hx hb hK hP (hD _) hS (by omega) dL_asks_89 (fun H locs hP hS => ?_)
          refine lv_iload hx hb dL_asks_90 (lv_at hl 0 rfl) ?_
          exact u_iret hx hb hr hlocks hS (by rw [hkn] at hP; rw [← y_st_self hrn (by omega) hpr hlr]; exact hP) (by rw [hkn, y_cn_self (by omega) hpr hlr nr (by omega), if_pos hrn]) dL_asks_92
        · have hkn : k < nr := ge_f hnr (by omega) c11
          refine lv_aload_n hx hb dL_asks_14 rfl (lv_at hl 3 rfl) ?_
          refine lv_iload_n hx hb dL_asks_15 rfl (lv_at hl 0 rfl) ?_
          refine yr_t (j := r) hx hb hK hP (by omega) dL_asks_16 ?_
          refine lv_topc (y := σ.2 6 r) (y_st_z hlr) ?_
          refine lv_if_ne (tgt := 58) hx hb dL_asks_17 (by decide) (fun c17 => absurd hpr c17) (fun c17 => ?_)
          refine lv_iload hx hb dL_asks_20 (lv_at hl 5 rfl) ?_
          refine lv_iload_n hx hb dL_asks_22 rfl (lv_at hl 0 rfl) ?_
          refine lv_icmp_eq (tgt := 52) hx hb dL_asks_23 (by decide) (fun c23 => ?_) (fun c23 => ?_)
          · refine lv_iinc (v := (nI k) + 1) (lv' := [(5, .int ((nI k) + 1)), (0, .int (nI r)), (1, .ref (ad 0)), (2, .ref (ad 3)), (3, .ref (ad 6)), (4, .int (m_cn (σ.2 6) (σ.2 3 r) k))]) hx hb dL_asks_52 hl (k := 5) rfl rfl (by decide) rfl (fun ls hl => ?_)
            refine lv_goto (tgt := 6) hx hb dL_asks_55 (by decide) ?_
            exact ihk (k + 1) (by omega) (by omega)   _ _ (by rw [← y_st_f (fun h => by rw [(nI_eq (by omega) (by omega)).mp c23, hlr] at h; cases h.1)]; exact hP) hS _ (lv_to (L := [(0, .int (nI r)), (1, .ref (ad 0)), (2, .ref (ad 3)), (3, .ref (ad 6)), (4, .int (m_cn (σ.2 6) (σ.2 3 r) k)), (5, .int ((nI k) + 1))]) (lv_sub hl [1, 2, 3, 4, 5, 0] rfl) (lv_cr (lv_cr (lv_cr (lv_cr (lv_ci (by rw [m_cn, if_neg (fun h => by rw [(nI_eq (by omega) (by omega)).mp c23, hlr] at h; cases h.1)]) (lv_ci (nI_1 k) rfl)))))))
          · refine lv_aload_n hx hb dL_asks_26 rfl (lv_at hl 2 rfl) ?_
            refine lv_iload_n hx hb dL_asks_27 rfl (lv_at hl 0 rfl) ?_
            refine yr_l (j := r) hx hb hK hP (by omega) dL_asks_28 ?_
            refine lv_topc (y := σ.2 3 r) (rfl) ?_
            refine lv_iload hx hb dL_asks_29 (lv_at hl 5 rfl) ?_
            refine k_L_has (σ.2 3 r) k (by omega) ⟨hx, hb, hml, hown, hts⟩ gL_asks_L_has ⟨Nat.le_of_ble_eq_true rfl, Nat.le_of_ble_eq_true rfl⟩ hl.1 ⟨Nat.zero_le _, Nat.zero_le _⟩ (Nat.le_of_ble_eq_true rfl) dL_asks_31 ?_
            refine lv_ifeq_b (tgt := 52) hx hb dL_asks_34 (by decide) (fun c34 => ?_) (fun c34 => ?_)
            · refine lv_iinc (v := (nI k) + 1) (lv' := [(5, .int ((nI k) + 1)), (0, .int (nI r)), (1, .ref (ad 0)), (2, .ref (ad 3)), (3, .ref (ad 6)), (4, .int (m_cn (σ.2 6) (σ.2 3 r) k))]) hx hb dL_asks_52 hl (k := 5) rfl rfl (by decide) rfl (fun ls hl => ?_)
              refine lv_goto (tgt := 6) hx hb dL_asks_55 (by decide) ?_
              exact ihk (k + 1) (by omega) (by omega)   _ _ (by rw [← y_st_f (fun h => by rw [c34] at h; cases h.1)]; exact hP) hS _ (lv_to (L := [(0, .int (nI r)), (1, .ref (ad 0)), (2, .ref (ad 3)), (3, .ref (ad 6)), (4, .int (m_cn (σ.2 6) (σ.2 3 r) k)), (5, .int ((nI k) + 1))]) (lv_sub hl [1, 2, 3, 4, 5, 0] rfl) (lv_cr (lv_cr (lv_cr (lv_cr (lv_ci (by rw [m_cn, if_neg (fun h => by rw [c34] at h; cases h.1)]) (lv_ci (nI_1 k) rfl)))))))
            · refine lv_aload_n hx hb dL_asks_37 rfl (lv_at hl 3 rfl) ?_
              refine lv_iload hx hb dL_asks_38 (lv_at hl 5 rfl) ?_
              refine yr_t (j := k) hx hb hK hP (by omega) dL_asks_40 ?_
              refine lv_topc (y := σ.2 6 k) (y_st_at) ?_
              refine lv_if_ne (tgt := 52) hx hb dL_asks_41 (by decide) (fun c41 => ?_) (fun c41 => ?_)
              · refine lv_iinc (v := (nI k) + 1) (lv' := [(5, .int ((nI k) + 1)), (0, .int (nI r)), (1, .ref (ad 0)), (2, .ref (ad 3)), (3, .ref (ad 6)), (4, .int (m_cn (σ.2 6) (σ.2 3 r) k))]) hx hb dL_asks_52 hl (k := 5) rfl rfl (by decide) rfl (fun ls hl => ?_)
                refine lv_goto (tgt := 6) hx hb dL_asks_55 (by decide) ?_
                exact ihk (k + 1) (by omega) (by omega)   _ _ (by rw [← y_st_f (fun h => c41 h.2)]; exact hP) hS _ (lv_to (L := [(0, .int (nI r)), (1, .ref (ad 0)), (2, .ref (ad 3)), (3, .ref (ad 6)), (4, .int (m_cn (σ.2 6) (σ.2 3 r) k)), (5, .int ((nI k) + 1))]) (lv_sub hl [1, 2, 3, 4, 5, 0] rfl) (lv_cr (lv_cr (lv_cr (lv_cr (lv_ci (by rw [m_cn, if_neg (fun h => c41 h.2)]) (lv_ci (nI_1 k) rfl)))))))
              · refine lv_aload_n hx hb dL_asks_44 rfl (lv_at hl 3 rfl) ?_
                refine lv_iload hx hb dL_asks_45 (lv_at hl 5 rfl) ?_
                refine lv_iconst (v := 1) hx hb dL_asks_47 (by decide) ?_
                refine yw_t (j := k) hx hb hK hP (hD _) hS (by omega) dL_asks_48 (fun H locs hP hS => ?_)
                refine lv_iinc (v := (m_cn (σ.2 6) (σ.2 3 r) k) + 1) (lv' := [(4, .int ((m_cn (σ.2 6) (σ.2 3 r) k) + 1)), (0, .int (nI r)), (1, .ref (ad 0)), (2, .ref (ad 3)), (3, .ref (ad 6)), (5, .int (nI k))]) hx hb dL_asks_49 hl (k := 4) rfl rfl (by decide) rfl (fun ls hl => ?_)
                refine lv_iinc (v := (nI k) + 1) (lv' := [(5, .int ((nI k) + 1)), (4, .int ((m_cn (σ.2 6) (σ.2 3 r) k) + 1)), (0, .int (nI r)), (1, .ref (ad 0)), (2, .ref (ad 3)), (3, .ref (ad 6))]) hx hb dL_asks_52 hl (k := 5) rfl rfl (by decide) rfl (fun ls hl => ?_)
                refine lv_goto (tgt := 6) hx hb dL_asks_55 (by decide) ?_
                exact ihk (k + 1) (by omega) (by omega)   _ _ (by rw [← y_st_t c34 c41]; exact hP) hS _ (lv_to (L := [(0, .int (nI r)), (1, .ref (ad 0)), (2, .ref (ad 3)), (3, .ref (ad 6)), (4, .int ((m_cn (σ.2 6) (σ.2 3 r) k) + 1)), (5, .int ((nI k) + 1))]) (lv_sub hl [2, 3, 4, 5, 1, 0] rfl) (lv_cr (lv_cr (lv_cr (lv_cr (lv_ci (by rw [m_cn, if_pos ⟨c34, c41⟩]) (lv_ci (nI_1 k) rfl)))))))
    exact loop6 (nr + 1) 0 (by omega) (by omega)   _ _ (by rw [y_st_0]; exact hP) hS _ (lv_to (L := [(0, .int (nI r)), (1, .ref (ad 0)), (2, .ref (ad 3)), (3, .ref (ad 6)), (4, .int 0), (5, .int 0)]) (lv_sub hl [2, 3, 4, 5, 1, 0] rfl) (lv_cr (lv_cr (lv_cr (lv_cr (lv_ci (rfl) (lv_ci (rfl) rfl)))))))
  exact key _ _ hP hS ls hl
theorem k_L_asks_p {p : Program} {l : Launch} {e : Env} {R : Room} {s : State} {m : MethodId} {args : Array Value} {below : List Frame} {meth : Method} {c : Code} {H : Heap} {locs : List Loc} {cells slots : Nat} {Q : State → Prop} {cc : ByteArray} {pc : Nat} {ls : Array Slot} {rest : List Value} {Ts : List Cond} (D : va_G) (tI tZ tL : ClassId) (h0 : Nat) (ad : Nat → Nat) (σ : ST) (r : Nat) (nr : Nat) (hnr : σ.2 0 2 = nI nr) (hn30 : nr ≤ 30) (hrn : r < nr) (hpr : σ.2 6 r = 0) (hlr : bt (σ.2 3 r) r = false) {A0 : Nat → Prop} {H0 : Heap} {own : String} {idx nL : Nat} (S : CallFix p m c cc nL s args Ts own) (hG : GoodIn Ts (va_wsS own idx yL_asks wsL_asks)) (hR : ({ frames := 1, cells := 0, slots := 0, locals := 21 } : Room).frames + 1 ≤ R.frames ∧ 8 + (6 + 11) + ({ frames := 1, cells := 0, slots := 0, locals := 21 } : Room).locals ≤ R.locals) (hsz : ls.size = nL) (hcap : cells ≤ R.cells ∧ slots ≤ R.slots) (hrm : (rest.map fun v => v.category).sum ≤ 8) (hn : (y_L h0 ad).Nodup) (hK : va_K D vwCl (kTY tI tZ tL) s) (hP : va_P D vwCl (y_W tI tZ h0 ad σ) H) (hS : va_S A0 H0 H locs) (hA : ∀ q, y_A h0 ad q → A0 q) (hdg : decode cc pc = .ok (.invokestatic idx, 3)) (kk : ∀ (H1 : Heap) (locs1 : List Loc), va_P D vwCl (y_W tI tZ h0 ad (y_stS σ (σ.2 3 r ||| bI r) nr)) H1 → H.size ≤ H1.size → (∀ q : Nat, q < H.size → ¬ y_A h0 ad q → H1[q]? = H[q]?) → va_S A0 H0 H1 locs1 → W p l e R s m args below meth c H1 locs1 cells slots Q (F0 m (pc + 3) ls (.int (m_cn (σ.2 6) (σ.2 3 r ||| bI r) nr) :: rest))) : W p l e R s m args below meth c H locs cells slots Q (F0 m pc ls (.ref (ad 6) :: .ref (ad 3) :: .ref (ad 0) :: .int (nI r) :: rest)) :=
  u_call (va_runS (As := [.int (nI r), .ref (ad 0), .ref (ad 3), .ref (ad 6)]) (rest := rest) S (c_L_asks_p l D tI tZ tL h0 ad σ r nr hnr hn30 hrn hpr hlr hn) (va_cwS 4 S.2.2.2.2 hG rfl rfl rfl (by decide +kernel) hR) (y_pre hK hP) rfl rfl hsz rfl (lv_room hrm) hdg hcap) hS hA hA kk

set_option maxHeartbeats 4000000 in
set_option maxRecDepth 100000 in
theorem c_L_asks_n (l : Launch) (D : va_G) (tI tZ tL : ClassId) (h0 : Nat) (ad : Nat → Nat) (σ : ST) (r : Nat) (nr : Nat) (hnr : σ.2 0 2 = nI nr) (hn30 : nr ≤ 30) (hrn : r < nr) (hpr : ¬ σ.2 6 r = 0) (hn : (y_L h0 ad).Nodup) : Met l yL_asks wsL_asks ({ frames := 0, cells := 0, slots := 0, locals := 0 } : Room) (va_Pc ([.int (nI r), .ref (ad 0), .ref (ad 3), .ref (ad 6)] : List Value) (y_B D tI tZ tL h0 ad σ)) (u_Q (some (.int 0)) (y_P D tI tZ h0 ad σ) (y_A h0 ad)) 0 0 (y_A h0 ad) := by
  refine u_met (cc := cL_asks) (maxL := 6) (ret := (some .int)) (by decide) rfl (Nat.le_of_ble_eq_true rfl) ?_
  intro p e s m below meth c hx hb hml hr hts hown hlocks hB hS ls hl
  have hD : ∀ σ : ST, va_D (y_A h0 ad) (y_W tI tZ h0 ad σ) := fun σ => y_D σ hn (fun _ h => h)
  have hown : s.vm.findClass RL = some m.cls := hown
  obtain ⟨hP, hK⟩ := hB
  have hl : lv_has ls 6 [(0, .int (nI r)), (1, .ref (ad 0)), (2, .ref (ad 3)), (3, .ref (ad 6))] := hl
  have key : ∀ (H : Heap) (locs : List Loc), va_P D vwCl (y_W tI tZ h0 ad σ) H → va_S (y_A h0 ad) s.heap H locs → ∀ ls, lv_has ls 6 [(0, .int (nI r)), (1, .ref (ad 0)), (2, .ref (ad 3)), (3, .ref (ad 6))] → u_G p l e ({ frames := 0, cells := 0, slots := 0, locals := 0 } : Room) s m ([.int (nI r), .ref (ad 0), .ref (ad 3), .ref (ad 6)] : List Value).toArray below meth c H locs (some (.int 0)) (y_P D tI tZ h0 ad σ) (y_A h0 ad) (F0 m 0 ls []) := by
    intro H locs hP hS ls hl
    refine lv_iconst (v := 0) hx hb dL_asks_0 (by decide) ?_
    refine lv_istore (lv' := [(4, .int 0), (0, .int (nI r)), (1, .ref (ad 0)), (2, .ref (ad 3)), (3, .ref (ad 6))]) hx hb dL_asks_1 hl (by decide) rfl (fun ls hl => ?_)
    refine lv_iconst (v := 0) hx hb dL_asks_3 (by decide) ?_
    refine lv_istore (lv' := [(5, .int 0), (4, .int 0), (0, .int (nI r)), (1, .ref (ad 0)), (2, .ref (ad 3)), (3, .ref (ad 6))]) hx hb dL_asks_4 hl (by decide) rfl (fun ls hl => ?_)
    refine lv_iload hx hb dL_asks_6 (lv_at hl 0 rfl) ?_
    refine lv_aload_n hx hb dL_asks_8 rfl (lv_at hl 3 rfl) ?_
    refine lv_iconst (v := 2) hx hb dL_asks_9 (by decide) ?_
    refine lv_topc (y := nI 2) rfl ?_
    refine yr_q (j := 2) hx hb hK hP (by omega) dL_asks_10 ?_
    refine lv_icmp_ge (tgt := 58) hx hb dL_asks_11 (by decide) (fun c11 => absurd (ge_t (k := 0) hnr (by omega) (by omega) c11) (by omega)) (fun c11 => ?_)
    refine lv_aload_n hx hb dL_asks_14 rfl (lv_at hl 5 rfl) ?_
    refine lv_iload_n hx hb dL_asks_15 rfl (lv_at hl 2 rfl) ?_
    refine yr_t (j := r) hx hb hK hP (by omega) dL_asks_16 ?_
    refine lv_if_ne (tgt := 58) hx hb dL_asks_17 (by decide) (fun c17 => ?_) (fun c17 => absurd c17 hpr)
    refine lv_iload hx hb dL_asks_58 (lv_at hl 1 rfl) ?_
    refine lv_aload_n hx hb dL_asks_60 rfl (lv_at hl 5 rfl) ?_
    refine lv_iload_n hx hb dL_asks_61 rfl (lv_at hl 2 rfl) ?_
    refine yr_t (j := r) hx hb hK hP (by omega) dL_asks_62 ?_
    refine lv_if_ne (tgt := 70) hx hb dL_asks_63 (by decide) (fun c63 => ?_) (fun c63 => absurd c63 hpr)
    refine lv_iconst (v := 0) hx hb dL_asks_70 (by decide) ?_
    refine lv_iadd hx hb dL_asks_71 ?_
    refine lv_istore (lv' := [(4, .int (0 + 0)), (5, .int 0), (0, .int (nI r)), (1, .ref (ad 0)), (2, .ref (ad 3)), (3, .ref (ad 6))]) hx hb dL_asks_72 hl (by decide) rfl (fun ls hl => ?_)
    refine lv_aload_n hx hb dL_asks_74 rfl (lv_at hl 5 rfl) ?_
    refine lv_iload_n hx hb dL_asks_75 rfl (lv_at hl 2 rfl) ?_
    refine lv_aload_n hx hb dL_asks_76 rfl (lv_at hl 5 rfl) ?_
    refine lv_iload_n hx hb dL_asks_77 rfl (lv_at hl 2 rfl) ?_
    refine yr_t (j := r) hx hb hK hP (by omega) dL_asks_78 ?_
    refine lv_if_ne (tgt := 86) hx hb dL_asks_79 (by decide) (fun c79 => ?_) (fun c79 => absurd c79 hpr)
    refine lv_aload_n hx hb dL_asks_86 rfl (lv_at hl 5 rfl) ?_
    refine lv_iload_n hx hb dL_asks_87 rfl (lv_at hl 2 rfl) ?_
    refine yr_t (j := r) hx hb hK hP (by omega) dL_asks_88 ?_
    refine yw_t (j := r) hx hb hK hP (hD _) hS (by omega) dL_asks_89 (fun H locs hP hS => ?_)
    refine lv_iload hx hb dL_asks_90 (lv_at hl 0 rfl) ?_
    exact u_iret hx hb hr hlocks hS (by have h9 := hP; rw [s_put_id] at h9; exact h9) (rfl) dL_asks_92
  exact key _ _ hP hS ls hl
theorem k_L_asks_n {p : Program} {l : Launch} {e : Env} {R : Room} {s : State} {m : MethodId} {args : Array Value} {below : List Frame} {meth : Method} {c : Code} {H : Heap} {locs : List Loc} {cells slots : Nat} {Q : State → Prop} {cc : ByteArray} {pc : Nat} {ls : Array Slot} {rest : List Value} {Ts : List Cond} (D : va_G) (tI tZ tL : ClassId) (h0 : Nat) (ad : Nat → Nat) (σ : ST) (r : Nat) (nr : Nat) (hnr : σ.2 0 2 = nI nr) (hn30 : nr ≤ 30) (hrn : r < nr) (hpr : ¬ σ.2 6 r = 0) {A0 : Nat → Prop} {H0 : Heap} {own : String} {idx nL : Nat} (S : CallFix p m c cc nL s args Ts own) (hG : GoodIn Ts (va_wsS own idx yL_asks wsL_asks)) (hR : ({ frames := 0, cells := 0, slots := 0, locals := 0 } : Room).frames + 1 ≤ R.frames ∧ 8 + (6 + 11) + ({ frames := 0, cells := 0, slots := 0, locals := 0 } : Room).locals ≤ R.locals) (hsz : ls.size = nL) (hcap : cells ≤ R.cells ∧ slots ≤ R.slots) (hrm : (rest.map fun v => v.category).sum ≤ 8) (hn : (y_L h0 ad).Nodup) (hK : va_K D vwCl (kTY tI tZ tL) s) (hP : va_P D vwCl (y_W tI tZ h0 ad σ) H) (hS : va_S A0 H0 H locs) (hA : ∀ q, y_A h0 ad q → A0 q) (hdg : decode cc pc = .ok (.invokestatic idx, 3)) (kk : ∀ (H1 : Heap) (locs1 : List Loc), va_P D vwCl (y_W tI tZ h0 ad σ) H1 → H.size ≤ H1.size → (∀ q : Nat, q < H.size → ¬ y_A h0 ad q → H1[q]? = H[q]?) → va_S A0 H0 H1 locs1 → W p l e R s m args below meth c H1 locs1 cells slots Q (F0 m (pc + 3) ls (.int 0 :: rest))) : W p l e R s m args below meth c H locs cells slots Q (F0 m pc ls (.ref (ad 6) :: .ref (ad 3) :: .ref (ad 0) :: .int (nI r) :: rest)) :=
  u_call (va_runS (As := [.int (nI r), .ref (ad 0), .ref (ad 3), .ref (ad 6)]) (rest := rest) S (c_L_asks_n l D tI tZ tL h0 ad σ r nr hnr hn30 hrn hpr hn) (va_cwS 4 S.2.2.2.2 hG rfl rfl rfl (by decide +kernel) hR) (y_pre hK hP) rfl rfl hsz rfl (lv_room hrm) hdg hcap) hS hA hA kk

set_option maxHeartbeats 4000000 in
set_option maxRecDepth 100000 in
theorem c_L_passes (l : Launch) (D : va_G) (tI tZ tL : ClassId) (h0 : Nat) (ad : Nat → Nat) (σ : ST) (nd : Nat) (hnd : nd ≤ 1000) (np : Nat) (hnp : σ.2 0 1 = nI np) (hn8 : np ≤ 8) (nr : Nat) (hnr : σ.2 0 2 = nI nr) (hn30 : nr ≤ 30) (hsl : ∀ i, i < nr → bt (σ.2 3 i) i = false) (hn : (y_L h0 ad).Nodup) : Met l yL_passes wsL_passes ({ frames := 3, cells := 0, slots := 0, locals := 71 } : Room) (va_Pc ([.int (nI nd), .ref (ad 0), .ref (ad 1), .ref (ad 2), .ref (ad 3), .ref (ad 4), .ref (ad 5), .ref (ad 6), .ref (ad 8)] : List Value) (y_B D tI tZ tL h0 ad σ)) (u_Q (some (.int (y_dyc nr np σ nd))) (y_P D tI tZ h0 ad (y_dys nr np σ nd)) (y_A h0 ad)) 0 0 (y_A h0 ad) := by
  refine u_met (cc := cL_passes) (maxL := 12) (ret := (some .int)) (by decide) rfl (Nat.le_of_ble_eq_true rfl) ?_
  intro p e s m below meth c hx hb hml hr hts hown hlocks hB hS ls hl
  have hD : ∀ σ : ST, va_D (y_A h0 ad) (y_W tI tZ h0 ad σ) := fun σ => y_D σ hn (fun _ h => h)
  have hown : s.vm.findClass RL = some m.cls := hown
  obtain ⟨hP, hK⟩ := hB
  have hl : lv_has ls 12 [(0, .int (nI nd)), (1, .ref (ad 0)), (2, .ref (ad 1)), (3, .ref (ad 2)), (4, .ref (ad 3)), (5, .ref (ad 4)), (6, .ref (ad 5)), (7, .ref (ad 6)), (8, .ref (ad 8))] := hl
  have key : ∀ (H : Heap) (locs : List Loc), va_P D vwCl (y_W tI tZ h0 ad σ) H → va_S (y_A h0 ad) s.heap H locs → ∀ ls, lv_has ls 12 [(0, .int (nI nd)), (1, .ref (ad 0)), (2, .ref (ad 1)), (3, .ref (ad 2)), (4, .ref (ad 3)), (5, .ref (ad 4)), (6, .ref (ad 5)), (7, .ref (ad 6)), (8, .ref (ad 8))] → u_G p l e ({ frames := 3, cells := 0, slots := 0, locals := 71 } : Room) s m ([.int (nI nd), .ref (ad 0), .ref (ad 1), .ref (ad 2), .ref (ad 3), .ref (ad 4), .ref (ad 5), .ref (ad 6), .ref (ad 8)] : List Value).toArray below meth c H locs (some (.int (y_dyc nr np σ nd))) (y_P D tI tZ h0 ad (y_dys nr np σ nd)) (y_A h0 ad) (F0 m 0 ls []) := by
    intro H locs hP hS ls hl
    refine lv_iconst (v := 0) hx hb dL_passes_0 (by decide) ?_
    refine lv_istore (lv' := [(9, .int 0), (0, .int (nI nd)), (1, .ref (ad 0)), (2, .ref (ad 1)), (3, .ref (ad 2)), (4, .ref (ad 3)), (5, .ref (ad 4)), (6, .ref (ad 5)), (7, .ref (ad 6)), (8, .ref (ad 8))]) hx hb dL_passes_1 hl (by decide) rfl (fun ls hl => ?_)
    refine lv_iconst (v := 0) hx hb dL_passes_3 (by decide) ?_
    refine lv_istore (lv' := [(10, .int 0), (9, .int 0), (0, .int (nI nd)), (1, .ref (ad 0)), (2, .ref (ad 1)), (3, .ref (ad 2)), (4, .ref (ad 3)), (5, .ref (ad 4)), (6, .ref (ad 5)), (7, .ref (ad 6)), (8, .ref (ad 8))]) hx hb dL_passes_4 hl (by decide) rfl (fun ls hl => ?_)
    have loop6 : ∀ (n w : Nat), w ≤ nd → nd + 1 ≤ w + n → ∀ (H : Heap) (locs : List Loc), va_P D vwCl (y_W tI tZ h0 ad (y_dys nr np σ w)) H → va_S (y_A h0 ad) s.heap H locs → ∀ ls, lv_has ls 12 [(0, .int (nI nd)), (1, .ref (ad 0)), (2, .ref (ad 1)), (3, .ref (ad 2)), (4, .ref (ad 3)), (5, .ref (ad 4)), (6, .ref (ad 5)), (7, .ref (ad 6)), (8, .ref (ad 8)), (9, .int (y_dyc nr np σ w)), (10, .int (nI w))] → u_G p l e ({ frames := 3, cells := 0, slots := 0, locals := 71 } : Room) s m ([.int (nI nd), .ref (ad 0), .ref (ad 1), .ref (ad 2), .ref (ad 3), .ref (ad 4), .ref (ad 5), .ref (ad 6), .ref (ad 8)] : List Value).toArray below meth c H locs (some (.int (y_dyc nr np σ nd))) (y_P D tI tZ h0 ad (y_dys nr np σ nd)) (y_A h0 ad) (F0 m 6 ls []) := by
      intro n
      induction n with
      | zero => intro w h1 h2; omega
      | succ n ihw =>
        intro w hk_w hn_w   H locs hP hS ls hl
        refine lv_iload hx hb dL_passes_6 (lv_at hl 10 rfl) ?_
        refine lv_iload_n hx hb dL_passes_8 rfl (lv_at hl 0 rfl) ?_
        refine lv_icmp_ge (tgt := 141) hx hb dL_passes_9 (by decide) (fun c9 => ?_) (fun c9 => ?_)
        · have hkw : w = nd := Nat.le_antisymm hk_w (ge_t (n := nd) rfl (by omega) (by omega) c9)
          refine lv_iload hx hb dL_passes_141 (lv_at hl 9 rfl) ?_
          exact u_iret hx hb hr hlocks hS (by rw [hkw] at hP; exact hP) (by rw [hkw]) dL_passes_143
        · have hkw : w < nd := ge_f (n := nd) rfl (by omega) c9
          refine lv_iconst (v := 0) hx hb dL_passes_12 (by decide) ?_
          refine lv_istore (lv' := [(11, .int 0), (0, .int (nI nd)), (1, .ref (ad 0)), (2, .ref (ad 1)), (3, .ref (ad 2)), (4, .ref (ad 3)), (5, .ref (ad 4)), (6, .ref (ad 5)), (7, .ref (ad 6)), (8, .ref (ad 8)), (9, .int (y_dyc nr np σ w)), (10, .int (nI w))]) hx hb dL_passes_13 hl (by decide) rfl (fun ls hl => ?_)
          have loop15 : ∀ (n k : Nat), k ≤ 48 → 48 + 1 ≤ k + n → ∀ (H : Heap) (locs : List Loc), va_P D vwCl (y_W tI tZ h0 ad (y_dS (y_dys nr np σ w) k)) H → va_S (y_A h0 ad) s.heap H locs → ∀ ls, lv_has ls 12 [(0, .int (nI nd)), (1, .ref (ad 0)), (2, .ref (ad 1)), (3, .ref (ad 2)), (4, .ref (ad 3)), (5, .ref (ad 4)), (6, .ref (ad 5)), (7, .ref (ad 6)), (8, .ref (ad 8)), (9, .int (y_dyc nr np σ w)), (10, .int (nI w)), (11, .int (nI k))] → u_G p l e ({ frames := 3, cells := 0, slots := 0, locals := 71 } : Room) s m ([.int (nI nd), .ref (ad 0), .ref (ad 1), .ref (ad 2), .ref (ad 3), .ref (ad 4), .ref (ad 5), .ref (ad 6), .ref (ad 8)] : List Value).toArray below meth c H locs (some (.int (y_dyc nr np σ nd))) (y_P D tI tZ h0 ad (y_dys nr np σ nd)) (y_A h0 ad) (F0 m 15 ls []) := by
            intro n
            induction n with
            | zero => intro k h1 h2; omega
            | succ n ihk =>
              intro k hk_k hn_k   H locs hP hS ls hl
              refine lv_iload hx hb dL_passes_15 (lv_at hl 11 rfl) ?_
              refine lv_bipush (v := 48) hx hb dL_passes_17 (by decide) ?_
              refine lv_icmp_ge (tgt := 62) hx hb dL_passes_19 (by decide) (fun c19 => ?_) (fun c19 => ?_)
              · have hkn : k = 48 := Nat.le_antisymm hk_k (ge_t (n := 48) rfl (by omega) (by omega) c19)
                refine lv_aload_n hx hb dL_passes_62 rfl (lv_at hl 1 rfl) ?_
                refine lv_iconst (v := 0) hx hb dL_passes_63 (by decide) ?_
                refine lv_topc (y := nI 0) rfl ?_
                refine lv_dup2_11 hx hb dL_passes_64 rfl rfl ?_
                refine yr_q (j := 0) hx hb hK hP (by omega) dL_passes_65 ?_
                refine lv_iconst (v := 1) hx hb dL_passes_66 (by decide) ?_
                refine lv_iadd hx hb dL_passes_67 ?_
                refine yw_q (j := 0) hx hb hK hP (hD _) hS (by omega) dL_passes_68 (fun H locs hP hS => ?_)
                refine lv_iconst (v := 0) hx hb dL_passes_69 (by decide) ?_
                refine lv_istore (lv' := [(11, .int 0), (0, .int (nI nd)), (1, .ref (ad 0)), (2, .ref (ad 1)), (3, .ref (ad 2)), (4, .ref (ad 3)), (5, .ref (ad 4)), (6, .ref (ad 5)), (7, .ref (ad 6)), (8, .ref (ad 8)), (9, .int (y_dyc nr np σ w)), (10, .int (nI w))]) hx hb dL_passes_70 hl (by decide) rfl (fun ls hl => ?_)
                have loop72 : ∀ (n i : Nat), i ≤ nr → nr + 1 ≤ i + n → ∀ (H : Heap) (locs : List Loc), va_P D vwCl (y_W tI tZ h0 ad (y_pa nr np (y_day (y_dys nr np σ w)) i)) H → va_S (y_A h0 ad) s.heap H locs → ∀ ls, lv_has ls 12 [(0, .int (nI nd)), (1, .ref (ad 0)), (2, .ref (ad 1)), (3, .ref (ad 2)), (4, .ref (ad 3)), (5, .ref (ad 4)), (6, .ref (ad 5)), (7, .ref (ad 6)), (8, .ref (ad 8)), (9, .int (y_dyc nr np σ w + y_pc nr np (y_day (y_dys nr np σ w)) i)), (10, .int (nI w)), (11, .int (nI i))] → u_G p l e ({ frames := 3, cells := 0, slots := 0, locals := 71 } : Room) s m ([.int (nI nd), .ref (ad 0), .ref (ad 1), .ref (ad 2), .ref (ad 3), .ref (ad 4), .ref (ad 5), .ref (ad 6), .ref (ad 8)] : List Value).toArray below meth c H locs (some (.int (y_dyc nr np σ nd))) (y_P D tI tZ h0 ad (y_dys nr np σ nd)) (y_A h0 ad) (F0 m 72 ls []) := by
                  intro n
                  induction n with
                  | zero => intro i h1 h2; omega
                  | succ n ihi =>
                    intro i hk_i hn_i   H locs hP hS ls hl
                    have hnri : (y_pa nr np (y_day (y_dys nr np σ w)) i).2 0 2 = nI nr := by rw [y_pa_row (by decide), y_day_q (by decide), y_dys_q (by decide)]; exact hnr
                    have hnpi : (y_pa nr np (y_day (y_dys nr np σ w)) i).2 0 1 = nI np := by rw [y_pa_row (by decide), y_day_q (by decide), y_dys_q (by decide)]; exact hnp
                    refine lv_iload hx hb dL_passes_72 (lv_at hl 11 rfl) ?_
                    refine lv_aload_n hx hb dL_passes_74 rfl (lv_at hl 1 rfl) ?_
                    refine lv_iconst (v := 2) hx hb dL_passes_75 (by decide) ?_
                    refine lv_topc (y := nI 2) rfl ?_
                    refine yr_q (j := 2) hx hb hK hP (by omega) dL_passes_76 ?_
                    refine lv_icmp_ge (tgt := 135) hx hb dL_passes_77 (by decide) (fun c77 => ?_) (fun c77 => ?_)
                    · have hkn : i = nr := Nat.le_antisymm hk_i (ge_t hnri (by omega) (by omega) c77)
                      refine lv_iinc (v := (nI w) + 1) (lv' := [(10, .int ((nI w) + 1)), (0, .int (nI nd)), (1, .ref (ad 0)), (2, .ref (ad 1)), (3, .ref (ad 2)), (4, .ref (ad 3)), (5, .ref (ad 4)), (6, .ref (ad 5)), (7, .ref (ad 6)), (8, .ref (ad 8)), (9, .int (y_dyc nr np σ w + y_pc nr np (y_day (y_dys nr np σ w)) i)), (11, .int (nI i))]) hx hb dL_passes_135 hl (k := 10) rfl rfl (by decide) rfl (fun ls hl => ?_)
                      refine lv_goto (tgt := 6) hx hb dL_passes_138 (by decide) ?_
                      exact ihw (w + 1) (by omega) (by omega)   _ _ (by rw [hkn] at hP; exact hP) hS _ (lv_to (L := [(0, .int (nI nd)), (1, .ref (ad 0)), (2, .ref (ad 1)), (3, .ref (ad 2)), (4, .ref (ad 3)), (5, .ref (ad 4)), (6, .ref (ad 5)), (7, .ref (ad 6)), (8, .ref (ad 8)), (9, .int (y_dyc nr np σ w + y_pc nr np (y_day (y_dys nr np σ w)) i)), (10, .int ((nI w) + 1))]) (lv_sub hl [1, 2, 3, 4, 5, 6, 7, 8, 9, 10, 0] rfl) (lv_cr (lv_cr (lv_cr (lv_cr (lv_cr (lv_cr (lv_cr (lv_cr (lv_cr (lv_ci (by rw [hkn]; rfl) (lv_ci (nI_1 w) rfl))))))))))))
                    · have hki : i < nr := ge_f hnri (by omega) c77
                      refine lv_iload hx hb dL_passes_80 (lv_at hl 9 rfl) ?_
                      refine lv_aload hx hb dL_passes_82 (lv_at hl 7 rfl) ?_
                      refine lv_iload hx hb dL_passes_84 (lv_at hl 11 rfl) ?_
                      refine yr_t (j := i) hx hb hK hP (by omega) dL_passes_86 ?_
                      refine lv_if_ne (tgt := 125) hx hb dL_passes_87 (by decide) (fun c87 => ?_) (fun c87 => ?_)
                      · refine lv_iconst (v := 0) hx hb dL_passes_125 (by decide) ?_
                        refine lv_iadd hx hb dL_passes_126 ?_
                        refine lv_istore (lv' := [(9, .int ((y_dyc nr np σ w + y_pc nr np (y_day (y_dys nr np σ w)) i) + 0)), (0, .int (nI nd)), (1, .ref (ad 0)), (2, .ref (ad 1)), (3, .ref (ad 2)), (4, .ref (ad 3)), (5, .ref (ad 4)), (6, .ref (ad 5)), (7, .ref (ad 6)), (8, .ref (ad 8)), (10, .int (nI w)), (11, .int (nI i))]) hx hb dL_passes_127 hl (by decide) rfl (fun ls hl => ?_)
                        refine lv_iinc (v := (nI i) + 1) (lv' := [(11, .int ((nI i) + 1)), (9, .int ((y_dyc nr np σ w + y_pc nr np (y_day (y_dys nr np σ w)) i) + 0)), (0, .int (nI nd)), (1, .ref (ad 0)), (2, .ref (ad 1)), (3, .ref (ad 2)), (4, .ref (ad 3)), (5, .ref (ad 4)), (6, .ref (ad 5)), (7, .ref (ad 6)), (8, .ref (ad 8)), (10, .int (nI w))]) hx hb dL_passes_129 hl (k := 11) rfl rfl (by decide) rfl (fun ls hl => ?_)
                        refine lv_goto (tgt := 72) hx hb dL_passes_132 (by decide) ?_
                        exact ihi (i + 1) (by omega) (by omega)   _ _ (by rw [y_pa, if_neg (fun h => c87 h.1)]; exact hP) hS _ (lv_to (L := [(0, .int (nI nd)), (1, .ref (ad 0)), (2, .ref (ad 1)), (3, .ref (ad 2)), (4, .ref (ad 3)), (5, .ref (ad 4)), (6, .ref (ad 5)), (7, .ref (ad 6)), (8, .ref (ad 8)), (9, .int ((y_dyc nr np σ w + y_pc nr np (y_day (y_dys nr np σ w)) i) + 0)), (10, .int (nI w)), (11, .int ((nI i) + 1))]) (lv_sub hl [2, 3, 4, 5, 6, 7, 8, 9, 10, 1, 11, 0] rfl) (lv_cr (lv_cr (lv_cr (lv_cr (lv_cr (lv_cr (lv_cr (lv_cr (lv_cr (lv_ci (by rw [add0, y_pc, if_neg (fun h => c87 h.1)]) (lv_cr (lv_ci (nI_1 i) rfl)))))))))))))
                      · refine lv_aload hx hb dL_passes_90 (lv_at hl 5 rfl) ?_
                        refine lv_iload hx hb dL_passes_92 (lv_at hl 11 rfl) ?_
                        refine yr_g (j := i) hx hb hK hP (by omega) dL_passes_94 ?_
                        refine lv_aload_n hx hb dL_passes_95 rfl (lv_at hl 3 rfl) ?_
                        refine lv_iload hx hb dL_passes_96 (lv_at hl 11 rfl) ?_
                        refine yr_r (j := i) hx hb hK hP (by omega) dL_passes_98 ?_
                        refine lv_aload hx hb dL_passes_99 (lv_at hl 6 rfl) ?_
                        refine lv_iload hx hb dL_passes_101 (lv_at hl 11 rfl) ?_
                        refine yr_a (j := i) hx hb hK hP (by omega) dL_passes_103 ?_
                        refine lv_aload_n hx hb dL_passes_104 rfl (lv_at hl 1 rfl) ?_
                        refine lv_aload_n hx hb dL_passes_105 rfl (lv_at hl 2 rfl) ?_
                        refine k_L_isOpen D tI tZ tL h0 ad (y_pa nr np (y_day (y_dys nr np σ w)) i) ((y_pa nr np (y_day (y_dys nr np σ w)) i).2 4 i) ((y_pa nr np (y_day (y_dys nr np σ w)) i).2 2 i) ((y_pa nr np (y_day (y_dys nr np σ w)) i).2 5 i) np (hnpi) hn8 ⟨hx, hb, hml, hown, hts⟩ gL_passes_L_isOpen ⟨Nat.le_of_ble_eq_true rfl, Nat.le_of_ble_eq_true rfl⟩ hl.1 ⟨Nat.zero_le _, Nat.zero_le _⟩ (Nat.le_of_ble_eq_true rfl) hK hP dL_passes_106 ?_
                        refine lv_ifne_b (tgt := 125) hx hb dL_passes_109 (by decide) (fun c109 => ?_) (fun c109 => ?_)
                        · refine lv_iconst (v := 0) hx hb dL_passes_125 (by decide) ?_
                          refine lv_iadd hx hb dL_passes_126 ?_
                          refine lv_istore (lv' := [(9, .int ((y_dyc nr np σ w + y_pc nr np (y_day (y_dys nr np σ w)) i) + 0)), (0, .int (nI nd)), (1, .ref (ad 0)), (2, .ref (ad 1)), (3, .ref (ad 2)), (4, .ref (ad 3)), (5, .ref (ad 4)), (6, .ref (ad 5)), (7, .ref (ad 6)), (8, .ref (ad 8)), (10, .int (nI w)), (11, .int (nI i))]) hx hb dL_passes_127 hl (by decide) rfl (fun ls hl => ?_)
                          refine lv_iinc (v := (nI i) + 1) (lv' := [(11, .int ((nI i) + 1)), (9, .int ((y_dyc nr np σ w + y_pc nr np (y_day (y_dys nr np σ w)) i) + 0)), (0, .int (nI nd)), (1, .ref (ad 0)), (2, .ref (ad 1)), (3, .ref (ad 2)), (4, .ref (ad 3)), (5, .ref (ad 4)), (6, .ref (ad 5)), (7, .ref (ad 6)), (8, .ref (ad 8)), (10, .int (nI w))]) hx hb dL_passes_129 hl (k := 11) rfl rfl (by decide) rfl (fun ls hl => ?_)
                          refine lv_goto (tgt := 72) hx hb dL_passes_132 (by decide) ?_
                          exact ihi (i + 1) (by omega) (by omega)   _ _ (by rw [y_pa, if_neg (fun h => by rw [c109] at h; cases h.2)]; exact hP) hS _ (lv_to (L := [(0, .int (nI nd)), (1, .ref (ad 0)), (2, .ref (ad 1)), (3, .ref (ad 2)), (4, .ref (ad 3)), (5, .ref (ad 4)), (6, .ref (ad 5)), (7, .ref (ad 6)), (8, .ref (ad 8)), (9, .int ((y_dyc nr np σ w + y_pc nr np (y_day (y_dys nr np σ w)) i) + 0)), (10, .int (nI w)), (11, .int ((nI i) + 1))]) (lv_sub hl [2, 3, 4, 5, 6, 7, 8, 9, 10, 1, 11, 0] rfl) (lv_cr (lv_cr (lv_cr (lv_cr (lv_cr (lv_cr (lv_cr (lv_cr (lv_cr (lv_ci (by rw [add0, y_pc, if_neg (fun h => by rw [c109] at h; cases h.2)]) (lv_cr (lv_ci (nI_1 i) rfl)))))))))))))
                        · refine lv_iload hx hb dL_passes_112 (lv_at hl 11 rfl) ?_
                          refine lv_aload_n hx hb dL_passes_114 rfl (lv_at hl 1 rfl) ?_
                          refine lv_aload hx hb dL_passes_115 (lv_at hl 4 rfl) ?_
                          refine lv_aload hx hb dL_passes_117 (lv_at hl 7 rfl) ?_
                          refine k_L_asks_p D tI tZ tL h0 ad (y_pa nr np (y_day (y_dys nr np σ w)) i) i nr (hnri) hn30 (by omega) (c87) (by rw [y_pa_row (by decide), y_day_row (by decide) (by decide), y_dys_row (by decide) (by decide) (by decide)]; exact hsl i hki) ⟨hx, hb, hml, hown, hts⟩ gL_passes_L_asks ⟨Nat.le_of_ble_eq_true rfl, Nat.le_of_ble_eq_true rfl⟩ hl.1 ⟨Nat.zero_le _, Nat.zero_le _⟩ (Nat.le_of_ble_eq_true rfl) hn hK hP hS (fun q h => h) dL_passes_119 (fun H locs hP _ _ hS => ?_)
                          refine lv_goto (tgt := 126) hx hb dL_passes_122 (by decide) ?_
                          refine lv_iadd hx hb dL_passes_126 ?_
                          refine lv_istore (lv' := [(9, .int ((y_dyc nr np σ w + y_pc nr np (y_day (y_dys nr np σ w)) i) + (m_cn ((y_pa nr np (y_day (y_dys nr np σ w)) i).2 6) ((y_pa nr np (y_day (y_dys nr np σ w)) i).2 3 i ||| bI i) nr))), (0, .int (nI nd)), (1, .ref (ad 0)), (2, .ref (ad 1)), (3, .ref (ad 2)), (4, .ref (ad 3)), (5, .ref (ad 4)), (6, .ref (ad 5)), (7, .ref (ad 6)), (8, .ref (ad 8)), (10, .int (nI w)), (11, .int (nI i))]) hx hb dL_passes_127 hl (by decide) rfl (fun ls hl => ?_)
                          refine lv_iinc (v := (nI i) + 1) (lv' := [(11, .int ((nI i) + 1)), (9, .int ((y_dyc nr np σ w + y_pc nr np (y_day (y_dys nr np σ w)) i) + (m_cn ((y_pa nr np (y_day (y_dys nr np σ w)) i).2 6) ((y_pa nr np (y_day (y_dys nr np σ w)) i).2 3 i ||| bI i) nr))), (0, .int (nI nd)), (1, .ref (ad 0)), (2, .ref (ad 1)), (3, .ref (ad 2)), (4, .ref (ad 3)), (5, .ref (ad 4)), (6, .ref (ad 5)), (7, .ref (ad 6)), (8, .ref (ad 8)), (10, .int (nI w))]) hx hb dL_passes_129 hl (k := 11) rfl rfl (by decide) rfl (fun ls hl => ?_)
                          refine lv_goto (tgt := 72) hx hb dL_passes_132 (by decide) ?_
                          exact ihi (i + 1) (by omega) (by omega)   _ _ (by rw [y_pa, if_pos ⟨c87, c109⟩]; exact hP) hS _ (lv_to (L := [(0, .int (nI nd)), (1, .ref (ad 0)), (2, .ref (ad 1)), (3, .ref (ad 2)), (4, .ref (ad 3)), (5, .ref (ad 4)), (6, .ref (ad 5)), (7, .ref (ad 6)), (8, .ref (ad 8)), (9, .int ((y_dyc nr np σ w + y_pc nr np (y_day (y_dys nr np σ w)) i) + (m_cn ((y_pa nr np (y_day (y_dys nr np σ w)) i).2 6) ((y_pa nr np (y_day (y_dys nr np σ w)) i).2 3 i ||| bI i) nr))), (10, .int (nI w)), (11, .int ((nI i) + 1))]) (lv_sub hl [2, 3, 4, 5, 6, 7, 8, 9, 10, 1, 11, 0] rfl) (lv_cr (lv_cr (lv_cr (lv_cr (lv_cr (lv_cr (lv_cr (lv_cr (lv_cr (lv_ci (by rw [y_pc, if_pos ⟨c87, c109⟩, Int32.add_assoc]) (lv_cr (lv_ci (nI_1 i) rfl)))))))))))))
                exact loop72 (nr + 1) 0 (by omega) (by omega)   _ _ (by rw [hkn] at hP; exact hP) hS _ (lv_to (L := [(0, .int (nI nd)), (1, .ref (ad 0)), (2, .ref (ad 1)), (3, .ref (ad 2)), (4, .ref (ad 3)), (5, .ref (ad 4)), (6, .ref (ad 5)), (7, .ref (ad 6)), (8, .ref (ad 8)), (9, .int (y_dyc nr np σ w)), (10, .int (nI w)), (11, .int 0)]) (lv_sub hl [1, 2, 3, 4, 5, 6, 7, 8, 9, 10, 11, 0] rfl) (lv_cr (lv_cr (lv_cr (lv_cr (lv_cr (lv_cr (lv_cr (lv_cr (lv_cr (lv_ci ((add0 _).symm) (lv_cr (lv_ci (rfl) rfl)))))))))))))
              · have hkn : k < 48 := ge_f (n := 48) rfl (by omega) c19
                refine lv_aload hx hb dL_passes_22 (lv_at hl 8 rfl) ?_
                refine lv_iload hx hb dL_passes_24 (lv_at hl 11 rfl) ?_
                refine lv_dup2_11 hx hb dL_passes_26 rfl rfl ?_
                refine yr_d (j := k) hx hb hK hP (by omega) dL_passes_27 ?_
                refine lv_topc (y := (y_dys nr np σ w).2 8 k) (y_d_at) ?_
                refine lv_aload_n hx hb dL_passes_28 rfl (lv_at hl 2 rfl) ?_
                refine lv_bipush (v := 16) hx hb dL_passes_29 (by decide) ?_
                refine lv_iload hx hb dL_passes_31 (lv_at hl 11 rfl) ?_
                refine lv_bipush (v := 8) hx hb dL_passes_33 (by decide) ?_
                refine lv_idiv hx hb dL_passes_35 (by decide) ?_
                refine lv_topc (y := nI (k / 8)) (by rw [show (8 : Int32) = nI 8 from rfl]; exact pk_div (by omega) (by decide) (by decide)) ?_
                refine lv_iadd hx hb dL_passes_36 ?_
                refine lv_topc (y := nI (16 + k / 8)) (y_ad 16 (k / 8)) ?_
                refine yr_p (j := 16 + k / 8) hx hb hK hP (by omega) dL_passes_37 ?_
                refine lv_topc (y := (y_dys nr np σ w).2 1 (16 + k / 8)) (rfl) ?_
                refine lv_iload hx hb dL_passes_38 (lv_at hl 11 rfl) ?_
                refine lv_bipush (v := 8) hx hb dL_passes_40 (by decide) ?_
                refine lv_irem hx hb dL_passes_42 (by decide) ?_
                refine lv_topc (y := nI (k % 8)) (by rw [show (8 : Int32) = nI 8 from rfl]; exact pk_rem (by omega) (by decide) (by decide)) ?_
                refine k_L_has ((y_dys nr np σ w).2 1 (16 + k / 8)) (k % 8) (by omega) ⟨hx, hb, hml, hown, hts⟩ gL_passes_L_has ⟨Nat.le_of_ble_eq_true rfl, Nat.le_of_ble_eq_true rfl⟩ hl.1 ⟨Nat.zero_le _, Nat.zero_le _⟩ (Nat.le_of_ble_eq_true rfl) dL_passes_43 ?_
                refine lv_ifeq_b (tgt := 53) hx hb dL_passes_46 (by decide) (fun c46 => ?_) (fun c46 => ?_)
                · refine lv_iconst (v := 0) hx hb dL_passes_53 (by decide) ?_
                  refine lv_iadd hx hb dL_passes_54 ?_
                  refine yw_d (j := k) hx hb hK hP (hD _) hS (by omega) dL_passes_55 (fun H locs hP hS => ?_)
                  refine lv_iinc (v := (nI k) + 1) (lv' := [(11, .int ((nI k) + 1)), (0, .int (nI nd)), (1, .ref (ad 0)), (2, .ref (ad 1)), (3, .ref (ad 2)), (4, .ref (ad 3)), (5, .ref (ad 4)), (6, .ref (ad 5)), (7, .ref (ad 6)), (8, .ref (ad 8)), (9, .int (y_dyc nr np σ w)), (10, .int (nI w))]) hx hb dL_passes_56 hl (k := 11) rfl rfl (by decide) rfl (fun ls hl => ?_)
                  refine lv_goto (tgt := 15) hx hb dL_passes_59 (by decide) ?_
                  exact ihk (k + 1) (by omega) (by omega)   _ _ (by rw [← y_d_f c46]; exact hP) hS _ (lv_to (L := [(0, .int (nI nd)), (1, .ref (ad 0)), (2, .ref (ad 1)), (3, .ref (ad 2)), (4, .ref (ad 3)), (5, .ref (ad 4)), (6, .ref (ad 5)), (7, .ref (ad 6)), (8, .ref (ad 8)), (9, .int (y_dyc nr np σ w)), (10, .int (nI w)), (11, .int ((nI k) + 1))]) (lv_sub hl [1, 2, 3, 4, 5, 6, 7, 8, 9, 10, 11, 0] rfl) (lv_cr (lv_cr (lv_cr (lv_cr (lv_cr (lv_cr (lv_cr (lv_cr (lv_cr (lv_cr (lv_cr (lv_ci (nI_1 k) rfl)))))))))))))
                · refine lv_iconst (v := 1) hx hb dL_passes_49 (by decide) ?_
                  refine lv_goto (tgt := 54) hx hb dL_passes_50 (by decide) ?_
                  refine lv_iadd hx hb dL_passes_54 ?_
                  refine yw_d (j := k) hx hb hK hP (hD _) hS (by omega) dL_passes_55 (fun H locs hP hS => ?_)
                  refine lv_iinc (v := (nI k) + 1) (lv' := [(11, .int ((nI k) + 1)), (0, .int (nI nd)), (1, .ref (ad 0)), (2, .ref (ad 1)), (3, .ref (ad 2)), (4, .ref (ad 3)), (5, .ref (ad 4)), (6, .ref (ad 5)), (7, .ref (ad 6)), (8, .ref (ad 8)), (9, .int (y_dyc nr np σ w)), (10, .int (nI w))]) hx hb dL_passes_56 hl (k := 11) rfl rfl (by decide) rfl (fun ls hl => ?_)
                  refine lv_goto (tgt := 15) hx hb dL_passes_59 (by decide) ?_
                  exact ihk (k + 1) (by omega) (by omega)   _ _ (by rw [← y_d_t c46]; exact hP) hS _ (lv_to (L := [(0, .int (nI nd)), (1, .ref (ad 0)), (2, .ref (ad 1)), (3, .ref (ad 2)), (4, .ref (ad 3)), (5, .ref (ad 4)), (6, .ref (ad 5)), (7, .ref (ad 6)), (8, .ref (ad 8)), (9, .int (y_dyc nr np σ w)), (10, .int (nI w)), (11, .int ((nI k) + 1))]) (lv_sub hl [1, 2, 3, 4, 5, 6, 7, 8, 9, 10, 11, 0] rfl) (lv_cr (lv_cr (lv_cr (lv_cr (lv_cr (lv_cr (lv_cr (lv_cr (lv_cr (lv_cr (lv_cr (lv_ci (nI_1 k) rfl)))))))))))))
          exact loop15 (48 + 1) 0 (by omega) (by omega)   _ _ (by rw [y_d_0]; exact hP) hS _ (lv_to (L := [(0, .int (nI nd)), (1, .ref (ad 0)), (2, .ref (ad 1)), (3, .ref (ad 2)), (4, .ref (ad 3)), (5, .ref (ad 4)), (6, .ref (ad 5)), (7, .ref (ad 6)), (8, .ref (ad 8)), (9, .int (y_dyc nr np σ w)), (10, .int (nI w)), (11, .int 0)]) (lv_sub hl [1, 2, 3, 4, 5, 6, 7, 8, 9, 10, 11, 0] rfl) (lv_cr (lv_cr (lv_cr (lv_cr (lv_cr (lv_cr (lv_cr (lv_cr (lv_cr (lv_cr (lv_cr (lv_ci (rfl) rfl)))))))))))))
    exact loop6 (nd + 1) 0 (by omega) (by omega)   _ _ (hP) hS _ (lv_to (L := [(0, .int (nI nd)), (1, .ref (ad 0)), (2, .ref (ad 1)), (3, .ref (ad 2)), (4, .ref (ad 3)), (5, .ref (ad 4)), (6, .ref (ad 5)), (7, .ref (ad 6)), (8, .ref (ad 8)), (9, .int 0), (10, .int 0)]) (lv_sub hl [2, 3, 4, 5, 6, 7, 8, 9, 10, 1, 0] rfl) (lv_cr (lv_cr (lv_cr (lv_cr (lv_cr (lv_cr (lv_cr (lv_cr (lv_cr (lv_ci (rfl) (lv_ci (rfl) rfl))))))))))))
  exact key _ _ hP hS ls hl
theorem k_L_passes {p : Program} {l : Launch} {e : Env} {R : Room} {s : State} {m : MethodId} {args : Array Value} {below : List Frame} {meth : Method} {c : Code} {H : Heap} {locs : List Loc} {cells slots : Nat} {Q : State → Prop} {cc : ByteArray} {pc : Nat} {ls : Array Slot} {rest : List Value} {Ts : List Cond} (D : va_G) (tI tZ tL : ClassId) (h0 : Nat) (ad : Nat → Nat) (σ : ST) (nd : Nat) (hnd : nd ≤ 1000) (np : Nat) (hnp : σ.2 0 1 = nI np) (hn8 : np ≤ 8) (nr : Nat) (hnr : σ.2 0 2 = nI nr) (hn30 : nr ≤ 30) (hsl : ∀ i, i < nr → bt (σ.2 3 i) i = false) {A0 : Nat → Prop} {H0 : Heap} {own : String} {idx nL : Nat} (S : CallFix p m c cc nL s args Ts own) (hG : GoodIn Ts (va_wsS own idx yL_passes wsL_passes)) (hR : ({ frames := 3, cells := 0, slots := 0, locals := 71 } : Room).frames + 1 ≤ R.frames ∧ 8 + (12 + 11) + ({ frames := 3, cells := 0, slots := 0, locals := 71 } : Room).locals ≤ R.locals) (hsz : ls.size = nL) (hcap : cells ≤ R.cells ∧ slots ≤ R.slots) (hrm : (rest.map fun v => v.category).sum ≤ 8) (hn : (y_L h0 ad).Nodup) (hK : va_K D vwCl (kTY tI tZ tL) s) (hP : va_P D vwCl (y_W tI tZ h0 ad σ) H) (hS : va_S A0 H0 H locs) (hA : ∀ q, y_A h0 ad q → A0 q) (hdg : decode cc pc = .ok (.invokestatic idx, 3)) (kk : ∀ (H1 : Heap) (locs1 : List Loc), va_P D vwCl (y_W tI tZ h0 ad (y_dys nr np σ nd)) H1 → H.size ≤ H1.size → (∀ q : Nat, q < H.size → ¬ y_A h0 ad q → H1[q]? = H[q]?) → va_S A0 H0 H1 locs1 → W p l e R s m args below meth c H1 locs1 cells slots Q (F0 m (pc + 3) ls (.int (y_dyc nr np σ nd) :: rest))) : W p l e R s m args below meth c H locs cells slots Q (F0 m pc ls (.ref (ad 8) :: .ref (ad 6) :: .ref (ad 5) :: .ref (ad 4) :: .ref (ad 3) :: .ref (ad 2) :: .ref (ad 1) :: .ref (ad 0) :: .int (nI nd) :: rest)) :=
  u_call (va_runS (As := [.int (nI nd), .ref (ad 0), .ref (ad 1), .ref (ad 2), .ref (ad 3), .ref (ad 4), .ref (ad 5), .ref (ad 6), .ref (ad 8)]) (rest := rest) S (c_L_passes l D tI tZ tL h0 ad σ nd hnd np hnp hn8 nr hnr hn30 hsl hn) (va_cwS 9 S.2.2.2.2 hG rfl rfl rfl (by decide +kernel) hR) (y_pre hK hP) rfl rfl hsz rfl (lv_room hrm) hdg hcap) hS hA hA kk

set_option maxHeartbeats 4000000 in
set_option maxRecDepth 100000 in
theorem c_L_erases (l : Launch) (D : va_G) (tI tZ tL : ClassId) (h0 : Nat) (ad : Nat → Nat) (σ : ST) (nr : Nat) (hnr : σ.2 0 2 = nI nr) (hn30 : nr ≤ 30)  (hn : (y_L h0 ad).Nodup) : Met l yL_erases wsL_erases ({ frames := 2, cells := 0, slots := 0, locals := 47 } : Room) (va_Pc ([.ref (ad 0), .ref (ad 1), .ref (ad 3), .ref (ad 6)] : List Value) (y_B D tI tZ tL h0 ad σ)) (u_Q (some (.int (y_erA σ.2 nr))) (y_P D tI tZ h0 ad (y_erS σ nr)) (y_A h0 ad)) 0 0 (y_A h0 ad) := by
  refine u_met (cc := cL_erases) (maxL := 5) (ret := (some .int)) (by decide) rfl (Nat.le_of_ble_eq_true rfl) ?_
  intro p e s m below meth c hx hb hml hr hts hown hlocks hB hS ls hl
  have hD : ∀ σ : ST, va_D (y_A h0 ad) (y_W tI tZ h0 ad σ) := fun σ => y_D σ hn (fun _ h => h)
  have hown : s.vm.findClass RL = some m.cls := hown
  obtain ⟨hP, hK⟩ := hB
  have hl : lv_has ls 5 [(0, .ref (ad 0)), (1, .ref (ad 1)), (2, .ref (ad 3)), (3, .ref (ad 6))] := hl
  have key : ∀ (H : Heap) (locs : List Loc), va_P D vwCl (y_W tI tZ h0 ad σ) H → va_S (y_A h0 ad) s.heap H locs → ∀ ls, lv_has ls 5 [(0, .ref (ad 0)), (1, .ref (ad 1)), (2, .ref (ad 3)), (3, .ref (ad 6))] → u_G p l e ({ frames := 2, cells := 0, slots := 0, locals := 47 } : Room) s m ([.ref (ad 0), .ref (ad 1), .ref (ad 3), .ref (ad 6)] : List Value).toArray below meth c H locs (some (.int (y_erA σ.2 nr))) (y_P D tI tZ h0 ad (y_erS σ nr)) (y_A h0 ad) (F0 m 0 ls []) := by
    intro H locs hP hS ls hl
    refine lv_aload_n hx hb dL_erases_0 rfl (lv_at hl 0 rfl) ?_
    refine lv_iconst (v := 2) hx hb dL_erases_1 (by decide) ?_
    refine lv_topc (y := nI 2) rfl ?_
    refine yr_q (j := 2) hx hb hK hP (by omega) dL_erases_2 ?_
    refine lv_iconst (v := 1) hx hb dL_erases_3 (by decide) ?_
    refine lv_isub hx hb dL_erases_4 ?_
    refine lv_istore (lv' := [(4, .int ((σ.2 0 2) - 1)), (0, .ref (ad 0)), (1, .ref (ad 1)), (2, .ref (ad 3)), (3, .ref (ad 6))]) hx hb dL_erases_5 hl (by decide) rfl (fun ls hl => ?_)
    have loop7 : ∀ (k : Nat), k ≤ nr → (hT : y_fo σ.2 nr k = y_fo σ.2 nr nr) → ∀ ls, lv_has ls 5 [(0, .ref (ad 0)), (1, .ref (ad 1)), (2, .ref (ad 3)), (3, .ref (ad 6)), (4, .int (nI k - 1))] → u_G p l e ({ frames := 2, cells := 0, slots := 0, locals := 47 } : Room) s m ([.ref (ad 0), .ref (ad 1), .ref (ad 3), .ref (ad 6)] : List Value).toArray below meth c H locs (some (.int (y_erA σ.2 nr))) (y_P D tI tZ h0 ad (y_erS σ nr)) (y_A h0 ad) (F0 m 7 ls []) := by
      intro k
      induction k with
      | zero =>
        intro hk_k  hT ls hl
        refine lv_iload hx hb dL_erases_7 (lv_at hl 4 rfl) ?_
        refine lv_if_lt (tgt := 38) hx hb dL_erases_9 (by decide) (fun c9 => ?_) (fun c9 => absurd (show nI 0 - 1 < 0 by decide) c9)
        refine lv_iconst (v := (-1)) hx hb dL_erases_38 (by decide) ?_
        exact u_iret hx hb hr hlocks hS (by unfold y_erS; rw [← hT]; exact hP) (by rw [y_erA, ← hT]; rfl) dL_erases_39
      | succ k ihk =>
        intro hk_k  hT ls hl
        have hl : lv_has ls 5 [(0, .ref (ad 0)), (1, .ref (ad 1)), (2, .ref (ad 3)), (3, .ref (ad 6)), (4, .int (nI k))] := (lv_to (L := [(0, .ref (ad 0)), (1, .ref (ad 1)), (2, .ref (ad 3)), (3, .ref (ad 6)), (4, .int (nI (k + 1) - 1))]) (lv_sub hl [0, 1, 2, 3, 4] rfl) (lv_cr (lv_cr (lv_cr (lv_cr (lv_ci (nI_pred k) rfl))))))
        refine lv_iload hx hb dL_erases_7 (lv_at hl 4 rfl) ?_
        refine lv_if_lt (tgt := 38) hx hb dL_erases_9 (by decide) (fun c9 => absurd c9 (nI_pos (by omega))) (fun c9 => ?_)
        refine lv_iload hx hb dL_erases_12 (lv_at hl 4 rfl) ?_
        refine lv_aload_n hx hb dL_erases_14 rfl (lv_at hl 0 rfl) ?_
        refine lv_aload_n hx hb dL_erases_15 rfl (lv_at hl 1 rfl) ?_
        refine lv_aload_n hx hb dL_erases_16 rfl (lv_at hl 2 rfl) ?_
        refine lv_aload_n hx hb dL_erases_17 rfl (lv_at hl 3 rfl) ?_
        refine k_L_kept D tI tZ tL h0 ad σ k nr hnr hn30 (by omega) ⟨hx, hb, hml, hown, hts⟩ gL_erases_L_kept ⟨Nat.le_of_ble_eq_true rfl, Nat.le_of_ble_eq_true rfl⟩ hl.1 ⟨Nat.zero_le _, Nat.zero_le _⟩ (Nat.le_of_ble_eq_true rfl) hK hP dL_erases_18 ?_
        refine lv_if_ne (tgt := 32) hx hb dL_erases_21 (by decide) (fun c21 => ?_) (fun c21 => ?_)
        · refine lv_iinc (v := (nI k) + (-1)) (lv' := [(4, .int ((nI k) + (-1))), (0, .ref (ad 0)), (1, .ref (ad 1)), (2, .ref (ad 3)), (3, .ref (ad 6))]) hx hb dL_erases_32 hl (k := 4) rfl rfl (by decide) rfl (fun ls hl => ?_)
          refine lv_goto (tgt := 7) hx hb dL_erases_35 (by decide) ?_
          exact ihk (by omega)  (by rw [← hT, y_fo, if_neg c21]) _ (lv_to (L := [(0, .ref (ad 0)), (1, .ref (ad 1)), (2, .ref (ad 3)), (3, .ref (ad 6)), (4, .int ((nI k) + (-1)))]) (lv_sub hl [1, 2, 3, 4, 0] rfl) (lv_cr (lv_cr (lv_cr (lv_cr (lv_ci (sub1 _) rfl))))))
        · refine lv_aload_n hx hb dL_erases_24 rfl (lv_at hl 3 rfl) ?_
          refine lv_iload hx hb dL_erases_25 (lv_at hl 4 rfl) ?_
          refine lv_iconst (v := 2) hx hb dL_erases_27 (by decide) ?_
          refine yw_t (j := k) hx hb hK hP (hD _) hS (by omega) dL_erases_28 (fun H locs hP hS => ?_)
          refine lv_iload hx hb dL_erases_29 (lv_at hl 4 rfl) ?_
          exact u_iret hx hb hr hlocks hS (by unfold y_erS; rw [← hT, y_fo, if_pos c21]; exact hP) (by rw [y_erA, ← hT, y_fo, if_pos c21]) dL_erases_31
    exact loop7 nr (by omega)  (rfl) _ (lv_to (L := [(0, .ref (ad 0)), (1, .ref (ad 1)), (2, .ref (ad 3)), (3, .ref (ad 6)), (4, .int ((σ.2 0 2) - 1))]) (lv_sub hl [1, 2, 3, 4, 0] rfl) (lv_cr (lv_cr (lv_cr (lv_cr (lv_ci (by rw [hnr]) rfl))))))
  exact key _ _ hP hS ls hl
theorem k_L_erases {p : Program} {l : Launch} {e : Env} {R : Room} {s : State} {m : MethodId} {args : Array Value} {below : List Frame} {meth : Method} {c : Code} {H : Heap} {locs : List Loc} {cells slots : Nat} {Q : State → Prop} {cc : ByteArray} {pc : Nat} {ls : Array Slot} {rest : List Value} {Ts : List Cond} (D : va_G) (tI tZ tL : ClassId) (h0 : Nat) (ad : Nat → Nat) (σ : ST) (nr : Nat) (hnr : σ.2 0 2 = nI nr) (hn30 : nr ≤ 30)  {A0 : Nat → Prop} {H0 : Heap} {own : String} {idx nL : Nat} (S : CallFix p m c cc nL s args Ts own) (hG : GoodIn Ts (va_wsS own idx yL_erases wsL_erases)) (hR : ({ frames := 2, cells := 0, slots := 0, locals := 47 } : Room).frames + 1 ≤ R.frames ∧ 8 + (5 + 11) + ({ frames := 2, cells := 0, slots := 0, locals := 47 } : Room).locals ≤ R.locals) (hsz : ls.size = nL) (hcap : cells ≤ R.cells ∧ slots ≤ R.slots) (hrm : (rest.map fun v => v.category).sum ≤ 8) (hn : (y_L h0 ad).Nodup) (hK : va_K D vwCl (kTY tI tZ tL) s) (hP : va_P D vwCl (y_W tI tZ h0 ad σ) H) (hS : va_S A0 H0 H locs) (hA : ∀ q, y_A h0 ad q → A0 q) (hdg : decode cc pc = .ok (.invokestatic idx, 3)) (kk : ∀ (H1 : Heap) (locs1 : List Loc), va_P D vwCl (y_W tI tZ h0 ad (y_erS σ nr)) H1 → H.size ≤ H1.size → (∀ q : Nat, q < H.size → ¬ y_A h0 ad q → H1[q]? = H[q]?) → va_S A0 H0 H1 locs1 → W p l e R s m args below meth c H1 locs1 cells slots Q (F0 m (pc + 3) ls (.int (y_erA σ.2 nr) :: rest))) : W p l e R s m args below meth c H locs cells slots Q (F0 m pc ls (.ref (ad 6) :: .ref (ad 3) :: .ref (ad 1) :: .ref (ad 0) :: rest)) :=
  u_call (va_runS (As := [.ref (ad 0), .ref (ad 1), .ref (ad 3), .ref (ad 6)]) (rest := rest) S (c_L_erases l D tI tZ tL h0 ad σ nr hnr hn30 hn) (va_cwS 4 S.2.2.2.2 hG rfl rfl rfl (by decide +kernel) hR) (y_pre hK hP) rfl rfl hsz rfl (lv_room hrm) hdg hcap) hS hA hA kk

set_option maxHeartbeats 4000000 in
set_option maxRecDepth 100000 in
theorem c_L_source_a (l : Launch) (D : va_G) (tI tZ tL : ClassId) (h0 : Nat) (ad : Nat → Nat) (σ : ST) (r sr : Nat) (hr31 : r ≤ 30) (hs31 : sr ≤ 30) (nr : Nat) (hnr : σ.2 0 2 = nI nr) (hn30 : nr ≤ 30) (hbad : nr ≤ r ∨ nr ≤ sr) (hn : (y_L h0 ad).Nodup) : Met l yL_source wsL_source ({ frames := 0, cells := 0, slots := 0, locals := 0 } : Room) (va_Pc ([.int (nI r), .int (nI sr), .ref (ad 7), .ref (ad 0), .ref (ad 2), .ref (ad 3), .ref (ad 6)] : List Value) (y_B D tI tZ tL h0 ad σ)) (u_Q (some (.int (-1))) (y_P D tI tZ h0 ad σ) (y_A h0 ad)) 0 0 (y_A h0 ad) := by
  refine u_met (cc := cL_source) (maxL := 8) (ret := (some .int)) (by decide) rfl (Nat.le_of_ble_eq_true rfl) ?_
  intro p e s m below meth c hx hb hml hr hts hown hlocks hB hS ls hl
  have hD : ∀ σ : ST, va_D (y_A h0 ad) (y_W tI tZ h0 ad σ) := fun σ => y_D σ hn (fun _ h => h)
  have hown : s.vm.findClass RL = some m.cls := hown
  obtain ⟨hP, hK⟩ := hB
  have hl : lv_has ls 8 [(0, .int (nI r)), (1, .int (nI sr)), (2, .ref (ad 7)), (3, .ref (ad 0)), (4, .ref (ad 2)), (5, .ref (ad 3)), (6, .ref (ad 6))] := hl
  have key : ∀ (H : Heap) (locs : List Loc), va_P D vwCl (y_W tI tZ h0 ad σ) H → va_S (y_A h0 ad) s.heap H locs → ∀ ls, lv_has ls 8 [(0, .int (nI r)), (1, .int (nI sr)), (2, .ref (ad 7)), (3, .ref (ad 0)), (4, .ref (ad 2)), (5, .ref (ad 3)), (6, .ref (ad 6))] → u_G p l e ({ frames := 0, cells := 0, slots := 0, locals := 0 } : Room) s m ([.int (nI r), .int (nI sr), .ref (ad 7), .ref (ad 0), .ref (ad 2), .ref (ad 3), .ref (ad 6)] : List Value).toArray below meth c H locs (some (.int (-1))) (y_P D tI tZ h0 ad σ) (y_A h0 ad) (F0 m 0 ls []) := by
    intro H locs hP hS ls hl
    refine lv_iload_n hx hb dL_source_0 rfl (lv_at hl 0 rfl) ?_
    refine lv_aload_n hx hb dL_source_1 rfl (lv_at hl 3 rfl) ?_
    refine lv_iconst (v := 2) hx hb dL_source_2 (by decide) ?_
    refine lv_topc (y := nI 2) rfl ?_
    refine yr_q (j := 2) hx hb hK hP (by omega) dL_source_3 ?_
    refine lv_icmp_ge (tgt := 14) hx hb dL_source_4 (by decide) (fun c4 => ?_) (fun c4 => ?_)
    · refine lv_iconst (v := (-1)) hx hb dL_source_14 (by decide) ?_
      exact u_iret hx hb hr hlocks hS (hP) (rfl) dL_source_15
    · refine lv_iload_n hx hb dL_source_7 rfl (lv_at hl 1 rfl) ?_
      refine lv_aload_n hx hb dL_source_8 rfl (lv_at hl 3 rfl) ?_
      refine lv_iconst (v := 2) hx hb dL_source_9 (by decide) ?_
      refine lv_topc (y := nI 2) rfl ?_
      refine yr_q (j := 2) hx hb hK hP (by omega) dL_source_10 ?_
      refine lv_icmp_lt (tgt := 16) hx hb dL_source_11 (by decide) (fun c11 => absurd (ge_f (k := sr) hnr (by omega) (Int32.not_le.mpr c11)) (by have := ge_f (k := r) hnr (by omega) c4; omega)) (fun c11 => ?_)
      refine lv_iconst (v := (-1)) hx hb dL_source_14 (by decide) ?_
      exact u_iret hx hb hr hlocks hS (hP) (rfl) dL_source_15
  exact key _ _ hP hS ls hl
theorem k_L_source_a {p : Program} {l : Launch} {e : Env} {R : Room} {s : State} {m : MethodId} {args : Array Value} {below : List Frame} {meth : Method} {c : Code} {H : Heap} {locs : List Loc} {cells slots : Nat} {Q : State → Prop} {cc : ByteArray} {pc : Nat} {ls : Array Slot} {rest : List Value} {Ts : List Cond} (D : va_G) (tI tZ tL : ClassId) (h0 : Nat) (ad : Nat → Nat) (σ : ST) (r sr : Nat) (hr31 : r ≤ 30) (hs31 : sr ≤ 30) (nr : Nat) (hnr : σ.2 0 2 = nI nr) (hn30 : nr ≤ 30) (hbad : nr ≤ r ∨ nr ≤ sr) {A0 : Nat → Prop} {H0 : Heap} {own : String} {idx nL : Nat} (S : CallFix p m c cc nL s args Ts own) (hG : GoodIn Ts (va_wsS own idx yL_source wsL_source)) (hR : ({ frames := 0, cells := 0, slots := 0, locals := 0 } : Room).frames + 1 ≤ R.frames ∧ 8 + (8 + 11) + ({ frames := 0, cells := 0, slots := 0, locals := 0 } : Room).locals ≤ R.locals) (hsz : ls.size = nL) (hcap : cells ≤ R.cells ∧ slots ≤ R.slots) (hrm : (rest.map fun v => v.category).sum ≤ 8) (hn : (y_L h0 ad).Nodup) (hK : va_K D vwCl (kTY tI tZ tL) s) (hP : va_P D vwCl (y_W tI tZ h0 ad σ) H) (hS : va_S A0 H0 H locs) (hA : ∀ q, y_A h0 ad q → A0 q) (hdg : decode cc pc = .ok (.invokestatic idx, 3)) (kk : ∀ (H1 : Heap) (locs1 : List Loc), va_P D vwCl (y_W tI tZ h0 ad σ) H1 → H.size ≤ H1.size → (∀ q : Nat, q < H.size → ¬ y_A h0 ad q → H1[q]? = H[q]?) → va_S A0 H0 H1 locs1 → W p l e R s m args below meth c H1 locs1 cells slots Q (F0 m (pc + 3) ls (.int (-1) :: rest))) : W p l e R s m args below meth c H locs cells slots Q (F0 m pc ls (.ref (ad 6) :: .ref (ad 3) :: .ref (ad 2) :: .ref (ad 0) :: .ref (ad 7) :: .int (nI sr) :: .int (nI r) :: rest)) :=
  u_call (va_runS (As := [.int (nI r), .int (nI sr), .ref (ad 7), .ref (ad 0), .ref (ad 2), .ref (ad 3), .ref (ad 6)]) (rest := rest) S (c_L_source_a l D tI tZ tL h0 ad σ r sr hr31 hs31 nr hnr hn30 hbad hn) (va_cwS 7 S.2.2.2.2 hG rfl rfl rfl (by decide +kernel) hR) (y_pre hK hP) rfl rfl hsz rfl (lv_room hrm) hdg hcap) hS hA hA kk

set_option maxHeartbeats 4000000 in
set_option maxRecDepth 100000 in
theorem c_L_source_b (l : Launch) (D : va_G) (tI tZ tL : ClassId) (h0 : Nat) (ad : Nat → Nat) (σ : ST) (r sr : Nat) (hr31 : r ≤ 30) (hs31 : sr ≤ 30) (nr : Nat) (hnr : σ.2 0 2 = nI nr) (hn30 : nr ≤ 30) (hrn : r < nr) (hsn : sr < nr) (hbad : r ≤ sr ∨ bt (σ.2 7 r) sr = true) (hn : (y_L h0 ad).Nodup) : Met l yL_source wsL_source ({ frames := 1, cells := 0, slots := 0, locals := 21 } : Room) (va_Pc ([.int (nI r), .int (nI sr), .ref (ad 7), .ref (ad 0), .ref (ad 2), .ref (ad 3), .ref (ad 6)] : List Value) (y_B D tI tZ tL h0 ad σ)) (u_Q (some (.int (-2))) (y_P D tI tZ h0 ad σ) (y_A h0 ad)) 0 0 (y_A h0 ad) := by
  refine u_met (cc := cL_source) (maxL := 8) (ret := (some .int)) (by decide) rfl (Nat.le_of_ble_eq_true rfl) ?_
  intro p e s m below meth c hx hb hml hr hts hown hlocks hB hS ls hl
  have hD : ∀ σ : ST, va_D (y_A h0 ad) (y_W tI tZ h0 ad σ) := fun σ => y_D σ hn (fun _ h => h)
  have hown : s.vm.findClass RL = some m.cls := hown
  obtain ⟨hP, hK⟩ := hB
  have hl : lv_has ls 8 [(0, .int (nI r)), (1, .int (nI sr)), (2, .ref (ad 7)), (3, .ref (ad 0)), (4, .ref (ad 2)), (5, .ref (ad 3)), (6, .ref (ad 6))] := hl
  have key : ∀ (H : Heap) (locs : List Loc), va_P D vwCl (y_W tI tZ h0 ad σ) H → va_S (y_A h0 ad) s.heap H locs → ∀ ls, lv_has ls 8 [(0, .int (nI r)), (1, .int (nI sr)), (2, .ref (ad 7)), (3, .ref (ad 0)), (4, .ref (ad 2)), (5, .ref (ad 3)), (6, .ref (ad 6))] → u_G p l e ({ frames := 1, cells := 0, slots := 0, locals := 21 } : Room) s m ([.int (nI r), .int (nI sr), .ref (ad 7), .ref (ad 0), .ref (ad 2), .ref (ad 3), .ref (ad 6)] : List Value).toArray below meth c H locs (some (.int (-2))) (y_P D tI tZ h0 ad σ) (y_A h0 ad) (F0 m 0 ls []) := by
    intro H locs hP hS ls hl
    refine lv_iload_n hx hb dL_source_0 rfl (lv_at hl 0 rfl) ?_
    refine lv_aload_n hx hb dL_source_1 rfl (lv_at hl 3 rfl) ?_
    refine lv_iconst (v := 2) hx hb dL_source_2 (by decide) ?_
    refine lv_topc (y := nI 2) rfl ?_
    refine yr_q (j := 2) hx hb hK hP (by omega) dL_source_3 ?_
    refine lv_icmp_ge (tgt := 14) hx hb dL_source_4 (by decide) (fun c4 => absurd (ge_t hnr (by omega) (by omega) c4) (by omega)) (fun c4 => ?_)
    refine lv_iload_n hx hb dL_source_7 rfl (lv_at hl 1 rfl) ?_
    refine lv_aload_n hx hb dL_source_8 rfl (lv_at hl 3 rfl) ?_
    refine lv_iconst (v := 2) hx hb dL_source_9 (by decide) ?_
    refine lv_topc (y := nI 2) rfl ?_
    refine yr_q (j := 2) hx hb hK hP (by omega) dL_source_10 ?_
    refine lv_icmp_lt (tgt := 16) hx hb dL_source_11 (by decide) (fun c11 => ?_) (fun c11 => absurd (show nI sr < σ.2 0 2 by rw [hnr]; exact nI_lt hsn (by omega)) c11)
    refine lv_iload_n hx hb dL_source_16 rfl (lv_at hl 1 rfl) ?_
    refine lv_iload_n hx hb dL_source_17 rfl (lv_at hl 0 rfl) ?_
    refine lv_icmp_ge (tgt := 31) hx hb dL_source_18 (by decide) (fun c18 => ?_) (fun c18 => ?_)
    · refine lv_bipush (v := (-2)) hx hb dL_source_31 (by decide) ?_
      exact u_iret hx hb hr hlocks hS (hP) (rfl) dL_source_33
    · refine lv_aload_n hx hb dL_source_21 rfl (lv_at hl 2 rfl) ?_
      refine lv_iload_n hx hb dL_source_22 rfl (lv_at hl 0 rfl) ?_
      refine yr_f (j := r) hx hb hK hP (by omega) dL_source_23 ?_
      refine lv_iload_n hx hb dL_source_24 rfl (lv_at hl 1 rfl) ?_
      refine k_L_has (σ.2 7 r) sr (by omega) ⟨hx, hb, hml, hown, hts⟩ gL_source_L_has ⟨Nat.le_of_ble_eq_true rfl, Nat.le_of_ble_eq_true rfl⟩ hl.1 ⟨Nat.zero_le _, Nat.zero_le _⟩ (Nat.le_of_ble_eq_true rfl) dL_source_25 ?_
      refine lv_ifeq_b (tgt := 34) hx hb dL_source_28 (by decide) (fun c28 => absurd c28 (by rw [hbad.resolve_left (fun h => c18 (nI_le h (by omega)))]; decide)) (fun c28 => ?_)
      refine lv_bipush (v := (-2)) hx hb dL_source_31 (by decide) ?_
      exact u_iret hx hb hr hlocks hS (hP) (rfl) dL_source_33
  exact key _ _ hP hS ls hl
theorem k_L_source_b {p : Program} {l : Launch} {e : Env} {R : Room} {s : State} {m : MethodId} {args : Array Value} {below : List Frame} {meth : Method} {c : Code} {H : Heap} {locs : List Loc} {cells slots : Nat} {Q : State → Prop} {cc : ByteArray} {pc : Nat} {ls : Array Slot} {rest : List Value} {Ts : List Cond} (D : va_G) (tI tZ tL : ClassId) (h0 : Nat) (ad : Nat → Nat) (σ : ST) (r sr : Nat) (hr31 : r ≤ 30) (hs31 : sr ≤ 30) (nr : Nat) (hnr : σ.2 0 2 = nI nr) (hn30 : nr ≤ 30) (hrn : r < nr) (hsn : sr < nr) (hbad : r ≤ sr ∨ bt (σ.2 7 r) sr = true) {A0 : Nat → Prop} {H0 : Heap} {own : String} {idx nL : Nat} (S : CallFix p m c cc nL s args Ts own) (hG : GoodIn Ts (va_wsS own idx yL_source wsL_source)) (hR : ({ frames := 1, cells := 0, slots := 0, locals := 21 } : Room).frames + 1 ≤ R.frames ∧ 8 + (8 + 11) + ({ frames := 1, cells := 0, slots := 0, locals := 21 } : Room).locals ≤ R.locals) (hsz : ls.size = nL) (hcap : cells ≤ R.cells ∧ slots ≤ R.slots) (hrm : (rest.map fun v => v.category).sum ≤ 8) (hn : (y_L h0 ad).Nodup) (hK : va_K D vwCl (kTY tI tZ tL) s) (hP : va_P D vwCl (y_W tI tZ h0 ad σ) H) (hS : va_S A0 H0 H locs) (hA : ∀ q, y_A h0 ad q → A0 q) (hdg : decode cc pc = .ok (.invokestatic idx, 3)) (kk : ∀ (H1 : Heap) (locs1 : List Loc), va_P D vwCl (y_W tI tZ h0 ad σ) H1 → H.size ≤ H1.size → (∀ q : Nat, q < H.size → ¬ y_A h0 ad q → H1[q]? = H[q]?) → va_S A0 H0 H1 locs1 → W p l e R s m args below meth c H1 locs1 cells slots Q (F0 m (pc + 3) ls (.int (-2) :: rest))) : W p l e R s m args below meth c H locs cells slots Q (F0 m pc ls (.ref (ad 6) :: .ref (ad 3) :: .ref (ad 2) :: .ref (ad 0) :: .ref (ad 7) :: .int (nI sr) :: .int (nI r) :: rest)) :=
  u_call (va_runS (As := [.int (nI r), .int (nI sr), .ref (ad 7), .ref (ad 0), .ref (ad 2), .ref (ad 3), .ref (ad 6)]) (rest := rest) S (c_L_source_b l D tI tZ tL h0 ad σ r sr hr31 hs31 nr hnr hn30 hrn hsn hbad hn) (va_cwS 7 S.2.2.2.2 hG rfl rfl rfl (by decide +kernel) hR) (y_pre hK hP) rfl rfl hsz rfl (lv_room hrm) hdg hcap) hS hA hA kk

set_option maxHeartbeats 4000000 in
set_option maxRecDepth 100000 in
theorem c_L_source_c (l : Launch) (D : va_G) (tI tZ tL : ClassId) (h0 : Nat) (ad : Nat → Nat) (σ : ST) (r sr : Nat) (hr31 : r ≤ 30) (hs31 : sr ≤ 30) (nr : Nat) (hnr : σ.2 0 2 = nI nr) (hn30 : nr ≤ 30) (hrn : r < nr) (hsn : sr < nr) (hsr : sr < r) (hso : bt (σ.2 7 r) sr = false) (hbad : σ.2 6 (30 + r) = 1 ∨ 0 < σ.2 6 r ∨ 0 < σ.2 6 sr) (hn : (y_L h0 ad).Nodup) : Met l yL_source wsL_source ({ frames := 1, cells := 0, slots := 0, locals := 21 } : Room) (va_Pc ([.int (nI r), .int (nI sr), .ref (ad 7), .ref (ad 0), .ref (ad 2), .ref (ad 3), .ref (ad 6)] : List Value) (y_B D tI tZ tL h0 ad σ)) (u_Q (some (.int (-3))) (y_P D tI tZ h0 ad σ) (y_A h0 ad)) 0 0 (y_A h0 ad) := by
  refine u_met (cc := cL_source) (maxL := 8) (ret := (some .int)) (by decide) rfl (Nat.le_of_ble_eq_true rfl) ?_
  intro p e s m below meth c hx hb hml hr hts hown hlocks hB hS ls hl
  have hD : ∀ σ : ST, va_D (y_A h0 ad) (y_W tI tZ h0 ad σ) := fun σ => y_D σ hn (fun _ h => h)
  have hown : s.vm.findClass RL = some m.cls := hown
  obtain ⟨hP, hK⟩ := hB
  have hl : lv_has ls 8 [(0, .int (nI r)), (1, .int (nI sr)), (2, .ref (ad 7)), (3, .ref (ad 0)), (4, .ref (ad 2)), (5, .ref (ad 3)), (6, .ref (ad 6))] := hl
  have key : ∀ (H : Heap) (locs : List Loc), va_P D vwCl (y_W tI tZ h0 ad σ) H → va_S (y_A h0 ad) s.heap H locs → ∀ ls, lv_has ls 8 [(0, .int (nI r)), (1, .int (nI sr)), (2, .ref (ad 7)), (3, .ref (ad 0)), (4, .ref (ad 2)), (5, .ref (ad 3)), (6, .ref (ad 6))] → u_G p l e ({ frames := 1, cells := 0, slots := 0, locals := 21 } : Room) s m ([.int (nI r), .int (nI sr), .ref (ad 7), .ref (ad 0), .ref (ad 2), .ref (ad 3), .ref (ad 6)] : List Value).toArray below meth c H locs (some (.int (-3))) (y_P D tI tZ h0 ad σ) (y_A h0 ad) (F0 m 0 ls []) := by
    intro H locs hP hS ls hl
    refine lv_iload_n hx hb dL_source_0 rfl (lv_at hl 0 rfl) ?_
    refine lv_aload_n hx hb dL_source_1 rfl (lv_at hl 3 rfl) ?_
    refine lv_iconst (v := 2) hx hb dL_source_2 (by decide) ?_
    refine lv_topc (y := nI 2) rfl ?_
    refine yr_q (j := 2) hx hb hK hP (by omega) dL_source_3 ?_
    refine lv_icmp_ge (tgt := 14) hx hb dL_source_4 (by decide) (fun c4 => absurd (ge_t hnr (by omega) (by omega) c4) (by omega)) (fun c4 => ?_)
    refine lv_iload_n hx hb dL_source_7 rfl (lv_at hl 1 rfl) ?_
    refine lv_aload_n hx hb dL_source_8 rfl (lv_at hl 3 rfl) ?_
    refine lv_iconst (v := 2) hx hb dL_source_9 (by decide) ?_
    refine lv_topc (y := nI 2) rfl ?_
    refine yr_q (j := 2) hx hb hK hP (by omega) dL_source_10 ?_
    refine lv_icmp_lt (tgt := 16) hx hb dL_source_11 (by decide) (fun c11 => ?_) (fun c11 => absurd (show nI sr < σ.2 0 2 by rw [hnr]; exact nI_lt hsn (by omega)) c11)
    refine lv_iload_n hx hb dL_source_16 rfl (lv_at hl 1 rfl) ?_
    refine lv_iload_n hx hb dL_source_17 rfl (lv_at hl 0 rfl) ?_
    refine lv_icmp_ge (tgt := 31) hx hb dL_source_18 (by decide) (fun c18 => absurd c18 (nI_ge hsr (by omega))) (fun c18 => ?_)
    refine lv_aload_n hx hb dL_source_21 rfl (lv_at hl 2 rfl) ?_
    refine lv_iload_n hx hb dL_source_22 rfl (lv_at hl 0 rfl) ?_
    refine yr_f (j := r) hx hb hK hP (by omega) dL_source_23 ?_
    refine lv_iload_n hx hb dL_source_24 rfl (lv_at hl 1 rfl) ?_
    refine k_L_has (σ.2 7 r) sr (by omega) ⟨hx, hb, hml, hown, hts⟩ gL_source_L_has ⟨Nat.le_of_ble_eq_true rfl, Nat.le_of_ble_eq_true rfl⟩ hl.1 ⟨Nat.zero_le _, Nat.zero_le _⟩ (Nat.le_of_ble_eq_true rfl) dL_source_25 ?_
    refine lv_ifeq_b (tgt := 34) hx hb dL_source_28 (by decide) (fun c28 => ?_) (fun c28 => absurd c28 (by rw [hso]; decide))
    refine lv_aload hx hb dL_source_34 (lv_at hl 6 rfl) ?_
    refine lv_bipush (v := 30) hx hb dL_source_36 (by decide) ?_
    refine lv_iload_n hx hb dL_source_38 rfl (lv_at hl 0 rfl) ?_
    refine lv_iadd hx hb dL_source_39 ?_
    refine lv_topc (y := nI (30 + r)) (y_ad 30 r) ?_
    refine yr_t (j := 30 + r) hx hb hK hP (by omega) dL_source_40 ?_
    refine lv_iconst (v := 1) hx hb dL_source_41 (by decide) ?_
    refine lv_icmp_eq (tgt := 59) hx hb dL_source_42 (by decide) (fun c42 => ?_) (fun c42 => ?_)
    · refine lv_bipush (v := (-3)) hx hb dL_source_59 (by decide) ?_
      exact u_iret hx hb hr hlocks hS (hP) (rfl) dL_source_61
    · refine lv_aload hx hb dL_source_45 (lv_at hl 6 rfl) ?_
      refine lv_iload_n hx hb dL_source_47 rfl (lv_at hl 0 rfl) ?_
      refine yr_t (j := r) hx hb hK hP (by omega) dL_source_48 ?_
      refine lv_if_gt (tgt := 59) hx hb dL_source_49 (by decide) (fun c49 => ?_) (fun c49 => ?_)
      · refine lv_bipush (v := (-3)) hx hb dL_source_59 (by decide) ?_
        exact u_iret hx hb hr hlocks hS (hP) (rfl) dL_source_61
      · refine lv_aload hx hb dL_source_52 (lv_at hl 6 rfl) ?_
        refine lv_iload_n hx hb dL_source_54 rfl (lv_at hl 1 rfl) ?_
        refine yr_t (j := sr) hx hb hK hP (by omega) dL_source_55 ?_
        refine lv_if_le (tgt := 62) hx hb dL_source_56 (by decide) (fun c56 => hbad.elim (fun h => absurd h c42) (fun h => h.elim (fun h => absurd h c49) (fun h => absurd h (Int32.not_lt.mpr c56)))) (fun c56 => ?_)
        refine lv_bipush (v := (-3)) hx hb dL_source_59 (by decide) ?_
        exact u_iret hx hb hr hlocks hS (hP) (rfl) dL_source_61
  exact key _ _ hP hS ls hl
theorem k_L_source_c {p : Program} {l : Launch} {e : Env} {R : Room} {s : State} {m : MethodId} {args : Array Value} {below : List Frame} {meth : Method} {c : Code} {H : Heap} {locs : List Loc} {cells slots : Nat} {Q : State → Prop} {cc : ByteArray} {pc : Nat} {ls : Array Slot} {rest : List Value} {Ts : List Cond} (D : va_G) (tI tZ tL : ClassId) (h0 : Nat) (ad : Nat → Nat) (σ : ST) (r sr : Nat) (hr31 : r ≤ 30) (hs31 : sr ≤ 30) (nr : Nat) (hnr : σ.2 0 2 = nI nr) (hn30 : nr ≤ 30) (hrn : r < nr) (hsn : sr < nr) (hsr : sr < r) (hso : bt (σ.2 7 r) sr = false) (hbad : σ.2 6 (30 + r) = 1 ∨ 0 < σ.2 6 r ∨ 0 < σ.2 6 sr) {A0 : Nat → Prop} {H0 : Heap} {own : String} {idx nL : Nat} (S : CallFix p m c cc nL s args Ts own) (hG : GoodIn Ts (va_wsS own idx yL_source wsL_source)) (hR : ({ frames := 1, cells := 0, slots := 0, locals := 21 } : Room).frames + 1 ≤ R.frames ∧ 8 + (8 + 11) + ({ frames := 1, cells := 0, slots := 0, locals := 21 } : Room).locals ≤ R.locals) (hsz : ls.size = nL) (hcap : cells ≤ R.cells ∧ slots ≤ R.slots) (hrm : (rest.map fun v => v.category).sum ≤ 8) (hn : (y_L h0 ad).Nodup) (hK : va_K D vwCl (kTY tI tZ tL) s) (hP : va_P D vwCl (y_W tI tZ h0 ad σ) H) (hS : va_S A0 H0 H locs) (hA : ∀ q, y_A h0 ad q → A0 q) (hdg : decode cc pc = .ok (.invokestatic idx, 3)) (kk : ∀ (H1 : Heap) (locs1 : List Loc), va_P D vwCl (y_W tI tZ h0 ad σ) H1 → H.size ≤ H1.size → (∀ q : Nat, q < H.size → ¬ y_A h0 ad q → H1[q]? = H[q]?) → va_S A0 H0 H1 locs1 → W p l e R s m args below meth c H1 locs1 cells slots Q (F0 m (pc + 3) ls (.int (-3) :: rest))) : W p l e R s m args below meth c H locs cells slots Q (F0 m pc ls (.ref (ad 6) :: .ref (ad 3) :: .ref (ad 2) :: .ref (ad 0) :: .ref (ad 7) :: .int (nI sr) :: .int (nI r) :: rest)) :=
  u_call (va_runS (As := [.int (nI r), .int (nI sr), .ref (ad 7), .ref (ad 0), .ref (ad 2), .ref (ad 3), .ref (ad 6)]) (rest := rest) S (c_L_source_c l D tI tZ tL h0 ad σ r sr hr31 hs31 nr hnr hn30 hrn hsn hsr hso hbad hn) (va_cwS 7 S.2.2.2.2 hG rfl rfl rfl (by decide +kernel) hR) (y_pre hK hP) rfl rfl hsz rfl (lv_room hrm) hdg hcap) hS hA hA kk

set_option maxHeartbeats 4000000 in
set_option maxRecDepth 100000 in
theorem c_L_source (l : Launch) (D : va_G) (tI tZ tL : ClassId) (h0 : Nat) (ad : Nat → Nat) (σ : ST) (r sr : Nat) (hr31 : r ≤ 30) (hs31 : sr ≤ 30) (nr : Nat) (hnr : σ.2 0 2 = nI nr) (hn30 : nr ≤ 30) (hrn : r < nr) (hsn : sr < nr) (hsr : sr < r) (hso : bt (σ.2 7 r) sr = false) (h1 : ¬ σ.2 6 (30 + r) = 1) (h2 : ¬ 0 < σ.2 6 r) (h3 : ¬ 0 < σ.2 6 sr) (hls : bt (σ.2 3 r) sr = false) (hn : (y_L h0 ad).Nodup) : Met l yL_source wsL_source ({ frames := 1, cells := 0, slots := 0, locals := 22 } : Room) (va_Pc ([.int (nI r), .int (nI sr), .ref (ad 7), .ref (ad 0), .ref (ad 2), .ref (ad 3), .ref (ad 6)] : List Value) (y_B D tI tZ tL h0 ad σ)) (u_Q (some (.int (nI (ct (bt (σ.2 2 r ||| σ.2 2 sr)) 32)))) (y_P D tI tZ h0 ad (y_so3 σ nr r sr nr)) (y_A h0 ad)) 0 0 (y_A h0 ad) := by
  refine u_met (cc := cL_source) (maxL := 8) (ret := (some .int)) (by decide) rfl (Nat.le_of_ble_eq_true rfl) ?_
  intro p e s m below meth c hx hb hml hr hts hown hlocks hB hS ls hl
  have hD : ∀ σ : ST, va_D (y_A h0 ad) (y_W tI tZ h0 ad σ) := fun σ => y_D σ hn (fun _ h => h)
  have hown : s.vm.findClass RL = some m.cls := hown
  obtain ⟨hP, hK⟩ := hB
  have hl : lv_has ls 8 [(0, .int (nI r)), (1, .int (nI sr)), (2, .ref (ad 7)), (3, .ref (ad 0)), (4, .ref (ad 2)), (5, .ref (ad 3)), (6, .ref (ad 6))] := hl
  have key : ∀ (H : Heap) (locs : List Loc), va_P D vwCl (y_W tI tZ h0 ad σ) H → va_S (y_A h0 ad) s.heap H locs → ∀ ls, lv_has ls 8 [(0, .int (nI r)), (1, .int (nI sr)), (2, .ref (ad 7)), (3, .ref (ad 0)), (4, .ref (ad 2)), (5, .ref (ad 3)), (6, .ref (ad 6))] → u_G p l e ({ frames := 1, cells := 0, slots := 0, locals := 22 } : Room) s m ([.int (nI r), .int (nI sr), .ref (ad 7), .ref (ad 0), .ref (ad 2), .ref (ad 3), .ref (ad 6)] : List Value).toArray below meth c H locs (some (.int (nI (ct (bt (σ.2 2 r ||| σ.2 2 sr)) 32)))) (y_P D tI tZ h0 ad (y_so3 σ nr r sr nr)) (y_A h0 ad) (F0 m 0 ls []) := by
    intro H locs hP hS ls hl
    refine lv_iload_n hx hb dL_source_0 rfl (lv_at hl 0 rfl) ?_
    refine lv_aload_n hx hb dL_source_1 rfl (lv_at hl 3 rfl) ?_
    refine lv_iconst (v := 2) hx hb dL_source_2 (by decide) ?_
    refine lv_topc (y := nI 2) rfl ?_
    refine yr_q (j := 2) hx hb hK hP (by omega) dL_source_3 ?_
    refine lv_icmp_ge (tgt := 14) hx hb dL_source_4 (by decide) (fun c4 => absurd (ge_t hnr (by omega) (by omega) c4) (by omega)) (fun c4 => ?_)
    refine lv_iload_n hx hb dL_source_7 rfl (lv_at hl 1 rfl) ?_
    refine lv_aload_n hx hb dL_source_8 rfl (lv_at hl 3 rfl) ?_
    refine lv_iconst (v := 2) hx hb dL_source_9 (by decide) ?_
    refine lv_topc (y := nI 2) rfl ?_
    refine yr_q (j := 2) hx hb hK hP (by omega) dL_source_10 ?_
    refine lv_icmp_lt (tgt := 16) hx hb dL_source_11 (by decide) (fun c11 => ?_) (fun c11 => absurd (show nI sr < σ.2 0 2 by rw [hnr]; exact nI_lt hsn (by omega)) c11)
    refine lv_iload_n hx hb dL_source_16 rfl (lv_at hl 1 rfl) ?_
    refine lv_iload_n hx hb dL_source_17 rfl (lv_at hl 0 rfl) ?_
    refine lv_icmp_ge (tgt := 31) hx hb dL_source_18 (by decide) (fun c18 => absurd c18 (nI_ge hsr (by omega))) (fun c18 => ?_)
    refine lv_aload_n hx hb dL_source_21 rfl (lv_at hl 2 rfl) ?_
    refine lv_iload_n hx hb dL_source_22 rfl (lv_at hl 0 rfl) ?_
    refine yr_f (j := r) hx hb hK hP (by omega) dL_source_23 ?_
    refine lv_iload_n hx hb dL_source_24 rfl (lv_at hl 1 rfl) ?_
    refine k_L_has (σ.2 7 r) sr (by omega) ⟨hx, hb, hml, hown, hts⟩ gL_source_L_has ⟨Nat.le_of_ble_eq_true rfl, Nat.le_of_ble_eq_true rfl⟩ hl.1 ⟨Nat.zero_le _, Nat.zero_le _⟩ (Nat.le_of_ble_eq_true rfl) dL_source_25 ?_
    refine lv_ifeq_b (tgt := 34) hx hb dL_source_28 (by decide) (fun c28 => ?_) (fun c28 => absurd c28 (by rw [hso]; decide))
    refine lv_aload hx hb dL_source_34 (lv_at hl 6 rfl) ?_
    refine lv_bipush (v := 30) hx hb dL_source_36 (by decide) ?_
    refine lv_iload_n hx hb dL_source_38 rfl (lv_at hl 0 rfl) ?_
    refine lv_iadd hx hb dL_source_39 ?_
    refine lv_topc (y := nI (30 + r)) (y_ad 30 r) ?_
    refine yr_t (j := 30 + r) hx hb hK hP (by omega) dL_source_40 ?_
    refine lv_iconst (v := 1) hx hb dL_source_41 (by decide) ?_
    refine lv_icmp_eq (tgt := 59) hx hb dL_source_42 (by decide) (fun c42 => absurd c42 h1) (fun c42 => ?_)
    refine lv_aload hx hb dL_source_45 (lv_at hl 6 rfl) ?_
    refine lv_iload_n hx hb dL_source_47 rfl (lv_at hl 0 rfl) ?_
    refine yr_t (j := r) hx hb hK hP (by omega) dL_source_48 ?_
    refine lv_if_gt (tgt := 59) hx hb dL_source_49 (by decide) (fun c49 => absurd c49 h2) (fun c49 => ?_)
    refine lv_aload hx hb dL_source_52 (lv_at hl 6 rfl) ?_
    refine lv_iload_n hx hb dL_source_54 rfl (lv_at hl 1 rfl) ?_
    refine yr_t (j := sr) hx hb hK hP (by omega) dL_source_55 ?_
    refine lv_if_le (tgt := 62) hx hb dL_source_56 (by decide) (fun c56 => ?_) (fun c56 => absurd (Int32.not_lt.mp h3) c56)
    refine lv_aload_n hx hb dL_source_62 rfl (lv_at hl 2 rfl) ?_
    refine lv_iload_n hx hb dL_source_63 rfl (lv_at hl 0 rfl) ?_
    refine lv_dup2_11 hx hb dL_source_64 rfl rfl ?_
    refine yr_f (j := r) hx hb hK hP (by omega) dL_source_65 ?_
    refine lv_iconst (v := 1) hx hb dL_source_66 (by decide) ?_
    refine lv_iload_n hx hb dL_source_67 rfl (lv_at hl 1 rfl) ?_
    refine lv_ishl hx hb dL_source_68 ?_
    refine lv_ior hx hb dL_source_69 ?_
    refine yw_f (j := r) hx hb hK hP (hD _) hS (by omega) dL_source_70 (fun H locs hP hS => ?_)
    refine lv_iconst (v := 0) hx hb dL_source_71 (by decide) ?_
    refine lv_istore (lv' := [(7, .int 0), (0, .int (nI r)), (1, .int (nI sr)), (2, .ref (ad 7)), (3, .ref (ad 0)), (4, .ref (ad 2)), (5, .ref (ad 3)), (6, .ref (ad 6))]) hx hb dL_source_72 hl (by decide) rfl (fun ls hl => ?_)
    have loop74 : ∀ (n k : Nat), k ≤ nr → nr + 1 ≤ k + n → ∀ (H : Heap) (locs : List Loc), va_P D vwCl (y_W tI tZ h0 ad (y_so2 σ nr r sr k)) H → va_S (y_A h0 ad) s.heap H locs → ∀ ls, lv_has ls 8 [(0, .int (nI r)), (1, .int (nI sr)), (3, .ref (ad 0)), (4, .ref (ad 2)), (5, .ref (ad 3)), (7, .int (nI k))] → u_G p l e ({ frames := 1, cells := 0, slots := 0, locals := 22 } : Room) s m ([.int (nI r), .int (nI sr), .ref (ad 7), .ref (ad 0), .ref (ad 2), .ref (ad 3), .ref (ad 6)] : List Value).toArray below meth c H locs (some (.int (nI (ct (bt (σ.2 2 r ||| σ.2 2 sr)) 32)))) (y_P D tI tZ h0 ad (y_so3 σ nr r sr nr)) (y_A h0 ad) (F0 m 74 ls []) := by
      intro n
      induction n with
      | zero => intro k h1 h2; omega
      | succ n ihk =>
        intro k hk_k hn_k   H locs hP hS ls hl
        refine lv_iload hx hb dL_source_74 (lv_at hl 5 rfl) ?_
        refine lv_aload_n hx hb dL_source_76 rfl (lv_at hl 2 rfl) ?_
        refine lv_iconst (v := 2) hx hb dL_source_77 (by decide) ?_
        refine lv_topc (y := nI 2) rfl ?_
        refine yr_q (j := 2) hx hb hK hP (by omega) dL_source_78 ?_
        refine lv_icmp_ge (tgt := 122) hx hb dL_source_79 (by decide) (fun c79 => ?_) (fun c79 => ?_)
        · have hkn : k = nr := Nat.le_antisymm hk_k (ge_t hnr (by omega) (by omega) c79)
          refine lv_iconst (v := 0) hx hb dL_source_122 (by decide) ?_
          refine lv_istore (lv' := [(7, .int 0), (0, .int (nI r)), (1, .int (nI sr)), (3, .ref (ad 0)), (4, .ref (ad 2)), (5, .ref (ad 3))]) hx hb dL_source_123 hl (by decide) rfl (fun ls hl => ?_)
          have loop125 : ∀ (n k : Nat), k ≤ nr → nr + 1 ≤ k + n → ∀ (H : Heap) (locs : List Loc), va_P D vwCl (y_W tI tZ h0 ad (y_so3 σ nr r sr k)) H → va_S (y_A h0 ad) s.heap H locs → ∀ ls, lv_has ls 8 [(0, .int (nI r)), (1, .int (nI sr)), (3, .ref (ad 0)), (4, .ref (ad 2)), (5, .ref (ad 3)), (7, .int (nI k))] → u_G p l e ({ frames := 1, cells := 0, slots := 0, locals := 22 } : Room) s m ([.int (nI r), .int (nI sr), .ref (ad 7), .ref (ad 0), .ref (ad 2), .ref (ad 3), .ref (ad 6)] : List Value).toArray below meth c H locs (some (.int (nI (ct (bt (σ.2 2 r ||| σ.2 2 sr)) 32)))) (y_P D tI tZ h0 ad (y_so3 σ nr r sr nr)) (y_A h0 ad) (F0 m 125 ls []) := by
            intro n
            induction n with
            | zero => intro k h1 h2; omega
            | succ n ihk =>
              intro k hk_k hn_k   H locs hP hS ls hl
              refine lv_iload hx hb dL_source_125 (lv_at hl 5 rfl) ?_
              refine lv_aload_n hx hb dL_source_127 rfl (lv_at hl 2 rfl) ?_
              refine lv_iconst (v := 2) hx hb dL_source_128 (by decide) ?_
              refine lv_topc (y := nI 2) rfl ?_
              refine yr_q (j := 2) hx hb hK hP (by omega) dL_source_129 ?_
              refine lv_icmp_ge (tgt := 177) hx hb dL_source_130 (by decide) (fun c130 => ?_) (fun c130 => ?_)
              · have hkn : k = nr := Nat.le_antisymm hk_k (ge_t hnr (by omega) (by omega) c130)
                refine lv_aload hx hb dL_source_177 (lv_at hl 3 rfl) ?_
                refine lv_iload_n hx hb dL_source_179 rfl (lv_at hl 0 rfl) ?_
                refine yr_r (j := r) hx hb hK hP (by omega) dL_source_180 ?_
                refine lv_topc (y := σ.2 2 r ||| σ.2 2 sr) (by show (y_so2 σ nr r sr nr).2 2 r = _; unfold y_so2; exact y_or_in hrn (by show (decide (r = r) || _) = true; rw [decide_eq_true rfl]; rfl)) ?_
                refine k_L_size (σ.2 2 r ||| σ.2 2 sr) ⟨hx, hb, hml, hown, hts⟩ gL_source_L_size ⟨Nat.le_of_ble_eq_true rfl, Nat.le_of_ble_eq_true rfl⟩ hl.1 ⟨Nat.zero_le _, Nat.zero_le _⟩ (Nat.le_of_ble_eq_true rfl) dL_source_181 ?_
                exact u_iret hx hb hr hlocks hS (by rw [hkn] at hP; exact hP) (rfl) dL_source_184
              · have hkn : k < nr := ge_f hnr (by omega) c130
                refine lv_aload hx hb dL_source_133 (lv_at hl 4 rfl) ?_
                refine lv_iload hx hb dL_source_135 (lv_at hl 5 rfl) ?_
                refine lv_dup2_11 hx hb dL_source_137 rfl rfl ?_
                refine yr_l (j := k) hx hb hK hP (by omega) dL_source_138 ?_
                refine lv_topc (y := σ.2 3 k) (y_or_at) ?_
                refine lv_iload hx hb dL_source_139 (lv_at hl 5 rfl) ?_
                refine lv_iload_n hx hb dL_source_141 rfl (lv_at hl 1 rfl) ?_
                refine lv_icmp_eq (tgt := 157) hx hb dL_source_142 (by decide) (fun c142 => ?_) (fun c142 => ?_)
                · refine lv_iconst (v := 1) hx hb dL_source_157 (by decide) ?_
                  refine lv_iload_n hx hb dL_source_158 rfl (lv_at hl 0 rfl) ?_
                  refine lv_ishl hx hb dL_source_159 ?_
                  refine lv_aload hx hb dL_source_160 (lv_at hl 4 rfl) ?_
                  refine lv_iload_n hx hb dL_source_162 rfl (lv_at hl 0 rfl) ?_
                  refine yr_l (j := r) hx hb hK hP (by omega) dL_source_163 ?_
                  refine lv_topc (y := σ.2 3 r) (y_or_out (by show (decide (r = sr) || bt (σ.2 3 r) sr) = false; rw [decide_eq_f (by omega), hls]; rfl)) ?_
                  refine lv_ior hx hb dL_source_164 ?_
                  refine lv_goto (tgt := 169) hx hb dL_source_165 (by decide) ?_
                  refine lv_ior hx hb dL_source_169 ?_
                  refine yw_l (j := k) hx hb hK hP (hD _) hS (by omega) dL_source_170 (fun H locs hP hS => ?_)
                  refine lv_iinc (v := (nI k) + 1) (lv' := [(7, .int ((nI k) + 1)), (0, .int (nI r)), (1, .int (nI sr)), (3, .ref (ad 0)), (4, .ref (ad 2)), (5, .ref (ad 3))]) hx hb dL_source_171 hl (k := 5) rfl rfl (by decide) rfl (fun ls hl => ?_)
                  refine lv_goto (tgt := 125) hx hb dL_source_174 (by decide) ?_
                  exact ihk (k + 1) (by omega) (by omega)   _ _ (by unfold y_so3; rw [← y_or_t (by show (decide (k = sr) || _) = true; rw [decide_eq_true ((nI_eq (by omega) (by omega)).mp c142)]; rfl)]; exact hP) hS _ (lv_to (L := [(0, .int (nI r)), (1, .int (nI sr)), (3, .ref (ad 0)), (4, .ref (ad 2)), (5, .ref (ad 3)), (7, .int ((nI k) + 1))]) (lv_sub hl [1, 2, 3, 4, 5, 0] rfl) (lv_cr (lv_cr (lv_cr (lv_cr (lv_cr (lv_ci (nI_1 k) rfl)))))))
                · refine lv_aload hx hb dL_source_145 (lv_at hl 4 rfl) ?_
                  refine lv_iload hx hb dL_source_147 (lv_at hl 5 rfl) ?_
                  refine yr_l (j := k) hx hb hK hP (by omega) dL_source_149 ?_
                  refine lv_topc (y := σ.2 3 k) (y_or_at) ?_
                  refine lv_iload_n hx hb dL_source_150 rfl (lv_at hl 1 rfl) ?_
                  refine k_L_has (σ.2 3 k) sr (by omega) ⟨hx, hb, hml, hown, hts⟩ gL_source_L_has ⟨Nat.le_of_ble_eq_true rfl, Nat.le_of_ble_eq_true rfl⟩ hl.1 ⟨Nat.zero_le _, Nat.zero_le _⟩ (Nat.le_of_ble_eq_true rfl) dL_source_151 ?_
                  refine lv_ifeq_b (tgt := 168) hx hb dL_source_154 (by decide) (fun c154 => ?_) (fun c154 => ?_)
                  · refine lv_iconst (v := 0) hx hb dL_source_168 (by decide) ?_
                    refine lv_ior hx hb dL_source_169 ?_
                    refine yw_l (j := k) hx hb hK hP (hD _) hS (by omega) dL_source_170 (fun H locs hP hS => ?_)
                    refine lv_iinc (v := (nI k) + 1) (lv' := [(7, .int ((nI k) + 1)), (0, .int (nI r)), (1, .int (nI sr)), (3, .ref (ad 0)), (4, .ref (ad 2)), (5, .ref (ad 3))]) hx hb dL_source_171 hl (k := 5) rfl rfl (by decide) rfl (fun ls hl => ?_)
                    refine lv_goto (tgt := 125) hx hb dL_source_174 (by decide) ?_
                    exact ihk (k + 1) (by omega) (by omega)   _ _ (by unfold y_so3; rw [← y_or_f (by show (decide (k = sr) || bt (σ.2 3 k) sr) = false; rw [decide_eq_f (fun e => c142 (by rw [e])), c154]; rfl)]; exact hP) hS _ (lv_to (L := [(0, .int (nI r)), (1, .int (nI sr)), (3, .ref (ad 0)), (4, .ref (ad 2)), (5, .ref (ad 3)), (7, .int ((nI k) + 1))]) (lv_sub hl [1, 2, 3, 4, 5, 0] rfl) (lv_cr (lv_cr (lv_cr (lv_cr (lv_cr (lv_ci (nI_1 k) rfl)))))))
                  · refine lv_iconst (v := 1) hx hb dL_source_157 (by decide) ?_
                    refine lv_iload_n hx hb dL_source_158 rfl (lv_at hl 0 rfl) ?_
                    refine lv_ishl hx hb dL_source_159 ?_
                    refine lv_aload hx hb dL_source_160 (lv_at hl 4 rfl) ?_
                    refine lv_iload_n hx hb dL_source_162 rfl (lv_at hl 0 rfl) ?_
                    refine yr_l (j := r) hx hb hK hP (by omega) dL_source_163 ?_
                    refine lv_topc (y := σ.2 3 r) (y_or_out (by show (decide (r = sr) || bt (σ.2 3 r) sr) = false; rw [decide_eq_f (by omega), hls]; rfl)) ?_
                    refine lv_ior hx hb dL_source_164 ?_
                    refine lv_goto (tgt := 169) hx hb dL_source_165 (by decide) ?_
                    refine lv_ior hx hb dL_source_169 ?_
                    refine yw_l (j := k) hx hb hK hP (hD _) hS (by omega) dL_source_170 (fun H locs hP hS => ?_)
                    refine lv_iinc (v := (nI k) + 1) (lv' := [(7, .int ((nI k) + 1)), (0, .int (nI r)), (1, .int (nI sr)), (3, .ref (ad 0)), (4, .ref (ad 2)), (5, .ref (ad 3))]) hx hb dL_source_171 hl (k := 5) rfl rfl (by decide) rfl (fun ls hl => ?_)
                    refine lv_goto (tgt := 125) hx hb dL_source_174 (by decide) ?_
                    exact ihk (k + 1) (by omega) (by omega)   _ _ (by unfold y_so3; rw [← y_or_t (by show (decide (k = sr) || bt (σ.2 3 k) sr) = true; rw [c154, Bool.or_true])]; exact hP) hS _ (lv_to (L := [(0, .int (nI r)), (1, .int (nI sr)), (3, .ref (ad 0)), (4, .ref (ad 2)), (5, .ref (ad 3)), (7, .int ((nI k) + 1))]) (lv_sub hl [1, 2, 3, 4, 5, 0] rfl) (lv_cr (lv_cr (lv_cr (lv_cr (lv_cr (lv_ci (nI_1 k) rfl)))))))
          exact loop125 (nr + 1) 0 (by omega) (by omega)   _ _ (by unfold y_so3; rw [y_or_0]; rw [hkn] at hP; exact hP) hS _ (lv_to (L := [(0, .int (nI r)), (1, .int (nI sr)), (3, .ref (ad 0)), (4, .ref (ad 2)), (5, .ref (ad 3)), (7, .int 0)]) (lv_sub hl [1, 2, 3, 4, 5, 0] rfl) (lv_cr (lv_cr (lv_cr (lv_cr (lv_cr (lv_ci (rfl) rfl)))))))
        · have hkn : k < nr := ge_f hnr (by omega) c79
          refine lv_aload hx hb dL_source_82 (lv_at hl 3 rfl) ?_
          refine lv_iload hx hb dL_source_84 (lv_at hl 5 rfl) ?_
          refine lv_dup2_11 hx hb dL_source_86 rfl rfl ?_
          refine yr_r (j := k) hx hb hK hP (by omega) dL_source_87 ?_
          refine lv_topc (y := σ.2 2 k) (y_or_at) ?_
          refine lv_iload hx hb dL_source_88 (lv_at hl 5 rfl) ?_
          refine lv_iload_n hx hb dL_source_90 rfl (lv_at hl 0 rfl) ?_
          refine lv_icmp_eq (tgt := 106) hx hb dL_source_91 (by decide) (fun c91 => ?_) (fun c91 => ?_)
          · refine lv_aload hx hb dL_source_106 (lv_at hl 3 rfl) ?_
            refine lv_iload_n hx hb dL_source_108 rfl (lv_at hl 1 rfl) ?_
            refine yr_r (j := sr) hx hb hK hP (by omega) dL_source_109 ?_
            refine lv_topc (y := σ.2 2 sr) (y_or_out (by show (decide (sr = r) || bt (σ.2 3 r) sr) = false; rw [decide_eq_f (by omega), hls]; rfl)) ?_
            refine lv_goto (tgt := 114) hx hb dL_source_110 (by decide) ?_
            refine lv_ior hx hb dL_source_114 ?_
            refine yw_r (j := k) hx hb hK hP (hD _) hS (by omega) dL_source_115 (fun H locs hP hS => ?_)
            refine lv_iinc (v := (nI k) + 1) (lv' := [(7, .int ((nI k) + 1)), (0, .int (nI r)), (1, .int (nI sr)), (3, .ref (ad 0)), (4, .ref (ad 2)), (5, .ref (ad 3))]) hx hb dL_source_116 hl (k := 5) rfl rfl (by decide) rfl (fun ls hl => ?_)
            refine lv_goto (tgt := 74) hx hb dL_source_119 (by decide) ?_
            exact ihk (k + 1) (by omega) (by omega)   _ _ (by unfold y_so2; rw [← y_or_t (by show (decide (k = r) || _) = true; rw [decide_eq_true ((nI_eq (by omega) (by omega)).mp c91)]; rfl)]; exact hP) hS _ (lv_to (L := [(0, .int (nI r)), (1, .int (nI sr)), (3, .ref (ad 0)), (4, .ref (ad 2)), (5, .ref (ad 3)), (7, .int ((nI k) + 1))]) (lv_sub hl [1, 2, 3, 4, 5, 0] rfl) (lv_cr (lv_cr (lv_cr (lv_cr (lv_cr (lv_ci (nI_1 k) rfl)))))))
          · refine lv_aload hx hb dL_source_94 (lv_at hl 4 rfl) ?_
            refine lv_iload_n hx hb dL_source_96 rfl (lv_at hl 0 rfl) ?_
            refine yr_l (j := r) hx hb hK hP (by omega) dL_source_97 ?_
            refine lv_topc (y := σ.2 3 r) (rfl) ?_
            refine lv_iload hx hb dL_source_98 (lv_at hl 5 rfl) ?_
            refine k_L_has (σ.2 3 r) k (by omega) ⟨hx, hb, hml, hown, hts⟩ gL_source_L_has ⟨Nat.le_of_ble_eq_true rfl, Nat.le_of_ble_eq_true rfl⟩ hl.1 ⟨Nat.zero_le _, Nat.zero_le _⟩ (Nat.le_of_ble_eq_true rfl) dL_source_100 ?_
            refine lv_ifeq_b (tgt := 113) hx hb dL_source_103 (by decide) (fun c103 => ?_) (fun c103 => ?_)
            · refine lv_iconst (v := 0) hx hb dL_source_113 (by decide) ?_
              refine lv_ior hx hb dL_source_114 ?_
              refine yw_r (j := k) hx hb hK hP (hD _) hS (by omega) dL_source_115 (fun H locs hP hS => ?_)
              refine lv_iinc (v := (nI k) + 1) (lv' := [(7, .int ((nI k) + 1)), (0, .int (nI r)), (1, .int (nI sr)), (3, .ref (ad 0)), (4, .ref (ad 2)), (5, .ref (ad 3))]) hx hb dL_source_116 hl (k := 5) rfl rfl (by decide) rfl (fun ls hl => ?_)
              refine lv_goto (tgt := 74) hx hb dL_source_119 (by decide) ?_
              exact ihk (k + 1) (by omega) (by omega)   _ _ (by unfold y_so2; rw [← y_or_f (by show (decide (k = r) || bt (σ.2 3 r) k) = false; rw [decide_eq_f (fun e => c91 (by rw [e])), c103]; rfl)]; exact hP) hS _ (lv_to (L := [(0, .int (nI r)), (1, .int (nI sr)), (3, .ref (ad 0)), (4, .ref (ad 2)), (5, .ref (ad 3)), (7, .int ((nI k) + 1))]) (lv_sub hl [1, 2, 3, 4, 5, 0] rfl) (lv_cr (lv_cr (lv_cr (lv_cr (lv_cr (lv_ci (nI_1 k) rfl)))))))
            · refine lv_aload hx hb dL_source_106 (lv_at hl 3 rfl) ?_
              refine lv_iload_n hx hb dL_source_108 rfl (lv_at hl 1 rfl) ?_
              refine yr_r (j := sr) hx hb hK hP (by omega) dL_source_109 ?_
              refine lv_topc (y := σ.2 2 sr) (y_or_out (by show (decide (sr = r) || bt (σ.2 3 r) sr) = false; rw [decide_eq_f (by omega), hls]; rfl)) ?_
              refine lv_goto (tgt := 114) hx hb dL_source_110 (by decide) ?_
              refine lv_ior hx hb dL_source_114 ?_
              refine yw_r (j := k) hx hb hK hP (hD _) hS (by omega) dL_source_115 (fun H locs hP hS => ?_)
              refine lv_iinc (v := (nI k) + 1) (lv' := [(7, .int ((nI k) + 1)), (0, .int (nI r)), (1, .int (nI sr)), (3, .ref (ad 0)), (4, .ref (ad 2)), (5, .ref (ad 3))]) hx hb dL_source_116 hl (k := 5) rfl rfl (by decide) rfl (fun ls hl => ?_)
              refine lv_goto (tgt := 74) hx hb dL_source_119 (by decide) ?_
              exact ihk (k + 1) (by omega) (by omega)   _ _ (by unfold y_so2; rw [← y_or_t (by show (decide (k = r) || bt (σ.2 3 r) k) = true; rw [c103, Bool.or_true])]; exact hP) hS _ (lv_to (L := [(0, .int (nI r)), (1, .int (nI sr)), (3, .ref (ad 0)), (4, .ref (ad 2)), (5, .ref (ad 3)), (7, .int ((nI k) + 1))]) (lv_sub hl [1, 2, 3, 4, 5, 0] rfl) (lv_cr (lv_cr (lv_cr (lv_cr (lv_cr (lv_ci (nI_1 k) rfl)))))))
    exact loop74 (nr + 1) 0 (by omega) (by omega)   _ _ (by unfold y_so2; rw [y_or_0]; exact hP) hS _ (lv_to (L := [(0, .int (nI r)), (1, .int (nI sr)), (3, .ref (ad 0)), (4, .ref (ad 2)), (5, .ref (ad 3)), (7, .int 0)]) (lv_sub hl [1, 2, 4, 5, 6, 0] rfl) (lv_cr (lv_cr (lv_cr (lv_cr (lv_cr (lv_ci (rfl) rfl)))))))
  exact key _ _ hP hS ls hl
theorem k_L_source {p : Program} {l : Launch} {e : Env} {R : Room} {s : State} {m : MethodId} {args : Array Value} {below : List Frame} {meth : Method} {c : Code} {H : Heap} {locs : List Loc} {cells slots : Nat} {Q : State → Prop} {cc : ByteArray} {pc : Nat} {ls : Array Slot} {rest : List Value} {Ts : List Cond} (D : va_G) (tI tZ tL : ClassId) (h0 : Nat) (ad : Nat → Nat) (σ : ST) (r sr : Nat) (hr31 : r ≤ 30) (hs31 : sr ≤ 30) (nr : Nat) (hnr : σ.2 0 2 = nI nr) (hn30 : nr ≤ 30) (hrn : r < nr) (hsn : sr < nr) (hsr : sr < r) (hso : bt (σ.2 7 r) sr = false) (h1 : ¬ σ.2 6 (30 + r) = 1) (h2 : ¬ 0 < σ.2 6 r) (h3 : ¬ 0 < σ.2 6 sr) (hls : bt (σ.2 3 r) sr = false) {A0 : Nat → Prop} {H0 : Heap} {own : String} {idx nL : Nat} (S : CallFix p m c cc nL s args Ts own) (hG : GoodIn Ts (va_wsS own idx yL_source wsL_source)) (hR : ({ frames := 1, cells := 0, slots := 0, locals := 22 } : Room).frames + 1 ≤ R.frames ∧ 8 + (8 + 11) + ({ frames := 1, cells := 0, slots := 0, locals := 22 } : Room).locals ≤ R.locals) (hsz : ls.size = nL) (hcap : cells ≤ R.cells ∧ slots ≤ R.slots) (hrm : (rest.map fun v => v.category).sum ≤ 8) (hn : (y_L h0 ad).Nodup) (hK : va_K D vwCl (kTY tI tZ tL) s) (hP : va_P D vwCl (y_W tI tZ h0 ad σ) H) (hS : va_S A0 H0 H locs) (hA : ∀ q, y_A h0 ad q → A0 q) (hdg : decode cc pc = .ok (.invokestatic idx, 3)) (kk : ∀ (H1 : Heap) (locs1 : List Loc), va_P D vwCl (y_W tI tZ h0 ad (y_so3 σ nr r sr nr)) H1 → H.size ≤ H1.size → (∀ q : Nat, q < H.size → ¬ y_A h0 ad q → H1[q]? = H[q]?) → va_S A0 H0 H1 locs1 → W p l e R s m args below meth c H1 locs1 cells slots Q (F0 m (pc + 3) ls (.int (nI (ct (bt (σ.2 2 r ||| σ.2 2 sr)) 32)) :: rest))) : W p l e R s m args below meth c H locs cells slots Q (F0 m pc ls (.ref (ad 6) :: .ref (ad 3) :: .ref (ad 2) :: .ref (ad 0) :: .ref (ad 7) :: .int (nI sr) :: .int (nI r) :: rest)) :=
  u_call (va_runS (As := [.int (nI r), .int (nI sr), .ref (ad 7), .ref (ad 0), .ref (ad 2), .ref (ad 3), .ref (ad 6)]) (rest := rest) S (c_L_source l D tI tZ tL h0 ad σ r sr hr31 hs31 nr hnr hn30 hrn hsn hsr hso h1 h2 h3 hls hn) (va_cwS 7 S.2.2.2.2 hG rfl rfl rfl (by decide +kernel) hR) (y_pre hK hP) rfl rfl hsz rfl (lv_room hrm) hdg hcap) hS hA hA kk

