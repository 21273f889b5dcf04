/-! ===== the law's walk: what holds throughout ===== -/
def y_cell (xs : Nat → Int32) (L k : Nat) : Int32 := if k < L then xs k else 48817 * (nI k + 31) + 2969827
def cl_B (b L : Nat) (xs : Nat → Int32) : State → Prop := fun U => va_X b L xs U U.heap ∧ b < U.heap.size ∧ L ≤ 260
theorem cl_blind {av : List Value} {b L : Nat} {xs : Nat → Int32} : FrameBlind (va_Pc av (cl_B b L xs)) := ty_blind (fun U V h hv q => ⟨by rw [← h]; exact va_X.moved hv q.1, by rw [← h]; exact q.2.1, q.2.2⟩)
set_option maxHeartbeats 4000000 in
set_option maxRecDepth 100000 in
theorem c_L_cell (l : Launch) (b L : Nat) (xs : Nat → Int32) (k : Nat) (hk : k < 110) : Met l yL_cell wsL_cell ({ frames := 0, cells := 0, slots := 0, locals := 0 } : Room) (va_Pc ([.ref b, .int (nI k)] : List Value) (cl_B b L xs)) (q_Q (some (.int (y_cell xs L k)))) 0 0 q_no := by
  refine q_met (cc := cL_cell) (maxL := 2) (ret := (some .int)) (by decide) rfl (Nat.le_of_ble_eq_true rfl) ?_
  intro p e s m below meth c hx hb hml hr hts hown hlocks hB ls hl
  have hown : s.vm.findClass RL = some m.cls := hown
  obtain ⟨hX, hbl, hL⟩ := hB
  have hl : lv_has ls 2 [(0, .ref b), (1, .int (nI k))] := hl
  have hS : va_S (fun _ => False) s.heap s.heap [] := va_S.rf
  refine lv_iload_n hx hb dL_cell_0 rfl (lv_at hl 1 rfl) ?_
  refine lv_aload_n hx hb dL_cell_1 rfl (lv_at hl 0 rfl) ?_
  refine va_slen hx hb hX hbl (A := fun _ => False) (fun h => h) hS dL_cell_2 ?_
  refine lv_icmp_ge (tgt := 12) hx hb dL_cell_3 (by decide) (fun c3 => ?_) (fun c3 => ?_)
  · refine lv_ldc hx hb hown (hts (.constant RL 7 48817) (by decide +kernel)) dL_cell_12 ?_
    refine lv_iload_n hx hb dL_cell_14 rfl (lv_at hl 1 rfl) ?_
    refine lv_bipush (v := 31) hx hb dL_cell_15 (by decide) ?_
    refine lv_iadd hx hb dL_cell_17 ?_
    refine lv_imul hx hb dL_cell_18 ?_
    refine lv_ldc hx hb hown (hts (.constant RL 8 2969827) (by decide +kernel)) dL_cell_19 ?_
    refine lv_iadd hx hb dL_cell_21 ?_
    exact q_iret hx hb hr hlocks (by rw [y_cell, if_neg]; exact Nat.not_lt.mpr ((nI_leI (by omega) (by omega)).mp c3)) dL_cell_22
  · have hkL : k < L := by
      rcases Nat.lt_or_ge k L with g | g
      · exact g
      · exact absurd (nI_le g (by omega)) c3
    refine lv_aload_n hx hb dL_cell_6 rfl (lv_at hl 0 rfl) ?_
    refine lv_iload_n hx hb dL_cell_7 rfl (lv_at hl 1 rfl) ?_
    refine va_sld hx hb hX hbl (A := fun _ => False) (fun h => h) hS (vp_in_nI hkL (by omega)) dL_cell_8 ?_
    refine lv_goto (tgt := 22) hx hb dL_cell_9 (by decide) ?_
    exact q_iret hx hb hr hlocks (by rw [y_cell, if_pos hkL, nI_clamp (by omega)]) dL_cell_22
def L_E (p : Program) (l : Launch) (s : State) (m : MethodId) (meth : Method) (c : Code) (b L : Nat) (xs : Nat → Int32) (D : va_G) (tI tZ tL : ClassId) : Prop := p.tables.exec = Jvm.exec ∧ c.code = cL_law ∧ c.maxLocals = 23 ∧ s.vm.findClass RL = some m.cls ∧ (∀ w ∈ wsL_law, w.before #[Value.ref b] s = true) ∧ va_X b L xs s s.heap ∧ b < s.heap.size ∧ va_K D vwCl (kTY tI tZ tL) s ∧ w_E s s.heap ∧ l.stackTraces = false ∧ L ≤ 260
def L_l (xo : Nat) (ax ay : Nat → Nat) (uo : Nat) : List Nat := x_L xo ax ++ (y_L 0 ay ++ [uo])
def L_A (s : State) (xo : Nat) (ax ay : Nat → Nat) (uo : Nat) : Prop := (L_l xo ax ay uo).Nodup ∧ ∀ q ∈ L_l xo ax ay uo, s.heap.size ≤ q
abbrev L_g (s : State) : Nat → Prop := fun q => s.heap.size ≤ q
theorem lv_topl9 {p : Program} {l : Launch} {e : Env} {R : Room} {s : State} {m : MethodId} {args : Array Value} {below : List Frame} {meth : Method} {c : Code} {H : Heap} {locs : List Loc} {cells slots : Nat} {Q : State → Prop} {pc : Nat} {ls : Array Slot} {rest : List Value} {x y : Int64} (h : x = y) (k : W p l e R s m args below meth c H locs cells slots Q (F0 m pc ls (.long y :: rest))) : W p l e R s m args below meth c H locs cells slots Q (F0 m pc ls (.long x :: rest)) := by subst h; exact k
theorem vp_updL_self {f : Nat → Int64} {k : Nat} {x : Int64} : vp_updL f k x k = x := by simp [vp_updL]
section LB
variable {p : Program} {l : Launch} {e : Env} {s : State} {m : MethodId} {below : List Frame} {meth : Method} {c : Code} {H : Heap} {locs : List Loc} {cells slots : Nat} {Q : State → Prop} {cc : ByteArray} {pc : Nat} {ls : Array Slot} {rest : List Value} {D : va_G} {tI tZ tL : ClassId} {xo uo b : Nat} {ax ay : Nat → Nat} {σ τ : ST} {υ : Nat → Int64}
theorem A_x (A : L_A s xo ax ay uo) : (x_L xo ax).Nodup := (List.nodup_append.mp A.1).1
theorem A_y (A : L_A s xo ax ay uo) : (y_L 0 ay).Nodup := (List.nodup_append.mp (List.nodup_append.mp A.1).2.1).1
theorem A_xg (A : L_A s xo ax ay uo) : ∀ q, x_A xo ax q → s.heap.size ≤ q := fun q h => A.2 q (List.mem_append_left _ h)
theorem A_yg (A : L_A s xo ax ay uo) : ∀ q, y_A 0 ay q → s.heap.size ≤ q := fun q h => A.2 q (List.mem_append_right _ (List.mem_append_left _ h))
theorem A_xy (A : L_A s xo ax ay uo) : ∀ q, q ∈ x_L xo ax → ¬ y_A 0 ay q := fun q h z => (List.nodup_append.mp A.1).2.2 q h q (List.mem_append_left _ z) rfl
theorem A_yx (A : L_A s xo ax ay uo) : ∀ q, q ∈ y_L 0 ay → ¬ x_A xo ax q := fun q h z => (List.nodup_append.mp A.1).2.2 q z q (List.mem_append_left _ h) rfl
theorem A_ux (A : L_A s xo ax ay uo) : ¬ x_A xo ax uo := fun z => (List.nodup_append.mp A.1).2.2 uo z uo (List.mem_append_right _ (by simp)) rfl
theorem A_uy (A : L_A s xo ax ay uo) : ¬ y_A 0 ay uo := fun z => (List.nodup_append.mp (List.nodup_append.mp A.1).2.1).2.2 uo z uo (by simp) rfl
theorem A_D (A : L_A s xo ax ay uo) : va_D (L_g s) (x_W tI tZ xo ax σ ++ (y_W tI tZ 0 ay τ ++ u_W tL uo υ)) := va_D_of A.1 A.2
theorem y_kept9 {H1 : Heap} (hP : va_P D vwCl (y_W tI tZ 0 ay τ) H) (h : ∀ q : Nat, q < H.size → q ∈ y_L 0 ay → H1[q]? = H[q]?) : va_P D vwCl (y_W tI tZ 0 ay τ) H1 := hP.kept (fun k q hk => h q.1 (vx_lt hP hk) (List.mem_map.mpr ⟨q, List.mem_of_getElem? hk, rfl⟩))
theorem u_lt9 (hP : va_P D vwCl (u_W tL uo υ) H) : uo < H.size := vx_lt hP (k := 0) rfl
theorem u_kept9 {H1 : Heap} (hP : va_P D vwCl (u_W tL uo υ) H) (h : H1[uo]? = H[uo]?) : va_P D vwCl (u_W tL uo υ) H1 := hP.kept (fun k q hk => by
  match k, hk with
  | 0, hk => cases hk; exact h
  | k + 1, hk => simp [u_W] at hk)
theorem w_Emv (h : w_E s s.heap) (hS : va_S (L_g s) s.heap H locs) : w_E s H :=
  ⟨⟨(h.1.1.kept (fun a h1 h2 => hS.2.1 a h1 h2)).narrow (fun q hq => Nat.le_trans hS.1 hq), (h.1.2.1.kept (fun a h1 h2 => hS.2.1 a h1 h2)).narrow (fun q hq => Nat.le_trans hS.1 hq), h.1.2.2⟩, h.2⟩
theorem k_L_cell {own : String} {idx : Nat} {Ts : List Cond} {L : Nat} {xs : Nat → Int32} {k : Nat} (hk : k < 110) (S : CallFix p m c cL_law 23 s #[Value.ref b] Ts own) (hG : GoodIn Ts (va_wsS own idx yL_cell wsL_cell)) (hsz : ls.size = 23) (hcap : cells ≤ room_1.cells ∧ slots ≤ room_1.slots) (hrm : (rest.map fun v => v.category).sum ≤ 8) (hX : va_X b L xs s s.heap) (hbl : b < s.heap.size) (hL : L ≤ 260) (hS : va_S (L_g s) s.heap H locs) (hdg : decode cL_law pc = .ok (.invokestatic idx, 3)) (kk : W p l e room_1 s m #[Value.ref b] below meth c H locs cells slots Q (F0 m (pc + 3) ls (.int (y_cell xs L k) :: rest))) : W p l e room_1 s m #[Value.ref b] below meth c H locs cells slots Q (F0 m pc ls (.int (nI k) :: .ref b :: rest)) :=
  q_call (va_runS (As := [.ref b, .int (nI k)]) (rest := rest) S (c_L_cell l b L xs k hk) (va_cwS 2 S.2.2.2.2 hG rfl rfl rfl (by decide +kernel) ⟨Nat.le_of_ble_eq_true rfl, Nat.le_of_ble_eq_true rfl⟩) ⟨cl_blind, fun U hU hW => ⟨rfl, va_X.moved hW.alike (by rw [hU]; exact hX.kept (hS.2.1 b hbl (Nat.not_le.mpr hbl))), by rw [hU]; exact Nat.lt_of_lt_of_le hbl hS.1, hL⟩⟩ rfl rfl hsz rfl (lv_room hrm) hdg hcap) kk
theorem zw_q {j : Nat} {v : Int32} (hx : p.tables.exec = Jvm.exec) (hb : c.code = cc) (hK : va_K D vwCl (kTY tI tZ tL) s) (hPx : va_P D vwCl (x_W tI tZ xo ax σ) H) (hPy : va_P D vwCl (y_W tI tZ 0 ay τ) H) (hPu : va_P D vwCl (u_W tL uo υ) H) (A : L_A s xo ax ay uo) (hS : va_S (L_g s) s.heap H locs) (hj : j < 3) (hdg : decode cc pc = .ok (.iastore, 1)) (kk : ∀ (H1 : Heap) (locs1 : List Loc), va_P D vwCl (x_W tI tZ xo ax σ) H1 → va_P D vwCl (y_W tI tZ 0 ay (s_put τ 0 j v)) H1 → va_P D vwCl (u_W tL uo υ) H1 → va_S (L_g s) s.heap H1 locs1 → W p l e room_1 s m #[Value.ref b] below meth c H1 locs1 cells slots Q (F0 m (pc + 1) ls rest)) : W p l e room_1 s m #[Value.ref b] below meth c H locs cells slots Q (F0 m pc ls (.int v :: .int (nI j) :: .ref (ay 0) :: rest)) := by
  have hc : (nI j).toNatClampNeg = j := nI_clamp (by omega)
  refine va_iast hx hb hK (hPx.app (hPy.app hPu)) (A_D A) hS 10 0 rfl rfl (vp_in_nI hj (by decide)) hdg (fun H1 locs1 hP1 _ hS1 => ?_)
  rw [hc] at hP1
  have h2 : va_P D vwCl (x_W tI tZ xo ax σ ++ (y_W tI tZ 0 ay (s_put τ 0 j v) ++ u_W tL uo υ)) H1 := hP1
  exact kk H1 locs1 (h2.sub [0, 1, 2, 3, 4, 5, 6, 7, 8, 9] rfl) (h2.sub [10, 11, 12, 13, 14, 15, 16, 17, 18] rfl) (h2.sub [19] rfl) hS1
theorem zw_p {j : Nat} {v : Int32} (hx : p.tables.exec = Jvm.exec) (hb : c.code = cc) (hK : va_K D vwCl (kTY tI tZ tL) s) (hPx : va_P D vwCl (x_W tI tZ xo ax σ) H) (hPy : va_P D vwCl (y_W tI tZ 0 ay τ) H) (hPu : va_P D vwCl (u_W tL uo υ) H) (A : L_A s xo ax ay uo) (hS : va_S (L_g s) s.heap H locs) (hj : j < 28) (hdg : decode cc pc = .ok (.iastore, 1)) (kk : ∀ (H1 : Heap) (locs1 : List Loc), va_P D vwCl (x_W tI tZ xo ax σ) H1 → va_P D vwCl (y_W tI tZ 0 ay (s_put τ 1 j v)) H1 → va_P D vwCl (u_W tL uo υ) H1 → va_S (L_g s) s.heap H1 locs1 → W p l e room_1 s m #[Value.ref b] below meth c H1 locs1 cells slots Q (F0 m (pc + 1) ls rest)) : W p l e room_1 s m #[Value.ref b] below meth c H locs cells slots Q (F0 m pc ls (.int v :: .int (nI j) :: .ref (ay 1) :: rest)) := by
  have hc : (nI j).toNatClampNeg = j := nI_clamp (by omega)
  refine va_iast hx hb hK (hPx.app (hPy.app hPu)) (A_D A) hS 11 0 rfl rfl (vp_in_nI hj (by decide)) hdg (fun H1 locs1 hP1 _ hS1 => ?_)
  rw [hc] at hP1
  have h2 : va_P D vwCl (x_W tI tZ xo ax σ ++ (y_W tI tZ 0 ay (s_put τ 1 j v) ++ u_W tL uo υ)) H1 := hP1
  exact kk H1 locs1 (h2.sub [0, 1, 2, 3, 4, 5, 6, 7, 8, 9] rfl) (h2.sub [10, 11, 12, 13, 14, 15, 16, 17, 18] rfl) (h2.sub [19] rfl) hS1
theorem zw_f {j : Nat} {v : Int32} (hx : p.tables.exec = Jvm.exec) (hb : c.code = cc) (hK : va_K D vwCl (kTY tI tZ tL) s) (hPx : va_P D vwCl (x_W tI tZ xo ax σ) H) (hPy : va_P D vwCl (y_W tI tZ 0 ay τ) H) (hPu : va_P D vwCl (u_W tL uo υ) H) (A : L_A s xo ax ay uo) (hS : va_S (L_g s) s.heap H locs) (hj : j < 30) (hdg : decode cc pc = .ok (.iastore, 1)) (kk : ∀ (H1 : Heap) (locs1 : List Loc), va_P D vwCl (x_W tI tZ xo ax σ) H1 → va_P D vwCl (y_W tI tZ 0 ay (s_put τ 7 j v)) H1 → va_P D vwCl (u_W tL uo υ) H1 → va_S (L_g s) s.heap H1 locs1 → W p l e room_1 s m #[Value.ref b] below meth c H1 locs1 cells slots Q (F0 m (pc + 1) ls rest)) : W p l e room_1 s m #[Value.ref b] below meth c H locs cells slots Q (F0 m pc ls (.int v :: .int (nI j) :: .ref (ay 7) :: rest)) := by
  have hc : (nI j).toNatClampNeg = j := nI_clamp (by omega)
  refine va_iast hx hb hK (hPx.app (hPy.app hPu)) (A_D A) hS 17 0 rfl rfl (vp_in_nI hj (by decide)) hdg (fun H1 locs1 hP1 _ hS1 => ?_)
  rw [hc] at hP1
  have h2 : va_P D vwCl (x_W tI tZ xo ax σ ++ (y_W tI tZ 0 ay (s_put τ 7 j v) ++ u_W tL uo υ)) H1 := hP1
  exact kk H1 locs1 (h2.sub [0, 1, 2, 3, 4, 5, 6, 7, 8, 9] rfl) (h2.sub [10, 11, 12, 13, 14, 15, 16, 17, 18] rfl) (h2.sub [19] rfl) hS1
theorem zu {j : Nat} {v : Int64} (hx : p.tables.exec = Jvm.exec) (hb : c.code = cc) (hK : va_K D vwCl (kTY tI tZ tL) s) (hPx : va_P D vwCl (x_W tI tZ xo ax σ) H) (hPy : va_P D vwCl (y_W tI tZ 0 ay τ) H) (hPu : va_P D vwCl (u_W tL uo υ) H) (A : L_A s xo ax ay uo) (hS : va_S (L_g s) s.heap H locs) (hj : j < 30) (hdg : decode cc pc = .ok (.lastore, 1)) (kk : ∀ (H1 : Heap) (locs1 : List Loc), va_P D vwCl (x_W tI tZ xo ax σ) H1 → va_P D vwCl (y_W tI tZ 0 ay τ) H1 → va_P D vwCl (u_W tL uo (vp_updL υ j v)) H1 → va_S (L_g s) s.heap H1 locs1 → W p l e room_1 s m #[Value.ref b] below meth c H1 locs1 cells slots Q (F0 m (pc + 1) ls rest)) : W p l e room_1 s m #[Value.ref b] below meth c H locs cells slots Q (F0 m pc ls (.long v :: .int (nI j) :: .ref uo :: rest)) := by
  have hc : (nI j).toNatClampNeg = j := nI_clamp (by omega)
  refine va_last hx hb hK (hPx.app (hPy.app hPu)) (A_D A) hS 19 1 rfl rfl (vp_in_nI hj (by decide)) hdg (fun H1 locs1 hP1 _ hS1 => ?_)
  rw [hc] at hP1
  have h2 : va_P D vwCl (x_W tI tZ xo ax σ ++ (y_W tI tZ 0 ay τ ++ u_W tL uo (vp_updL υ j v))) H1 := hP1
  exact kk H1 locs1 (h2.sub [0, 1, 2, 3, 4, 5, 6, 7, 8, 9] rfl) (h2.sub [10, 11, 12, 13, 14, 15, 16, 17, 18] rfl) (h2.sub [19] rfl) hS1
end LB
