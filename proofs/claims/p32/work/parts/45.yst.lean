/-! ===== the relation of the law's rows at each change ===== -/
theorem add_or {c : Int32} {q : Nat} (hq : q < 32) (h : bt c q = false) : c + bI q = c ||| bI q := by
  obtain ⟨n, hn, rfl⟩ := nw_of c
  have hb : bI q = nI (2 ^ q) := by
    have : ∀ q, q < 32 → bI q = nI (2 ^ q) := by decide +kernel
    exact this q hq
  rw [bt_nI hq] at h
  have hor : nI n ||| nI (2 ^ q) = nI (n ||| 2 ^ q) := by
    apply b_ext
    intro i hi
    rw [b_or, bt_nI hi, bt_nI hi, bt_nI hi, Nat.testBit_or]
  rw [hb, nI_add, hor]
  congr 1
  have h2 : n / 2 ^ q % 2 = 0 := by
    rw [Nat.testBit_eq_decide_div_mod_eq] at h
    have := of_decide_eq_false h
    omega
  have e1 : n = 2 ^ (q + 1) * (n / 2 ^ q / 2) + n % 2 ^ q := by
    have a1 := Nat.div_add_mod n (2 ^ q)
    have a2 : n / 2 ^ q = 2 * (n / 2 ^ q / 2) := by omega
    rw [Nat.pow_succ, Nat.mul_assoc, ← a2]
    exact a1.symm
  have hr : n % 2 ^ q < 2 ^ q := Nat.mod_lt _ (Nat.two_pow_pos q)
  have hr2 : n % 2 ^ q + 2 ^ q < 2 ^ (q + 1) := by rw [Nat.pow_succ]; omega
  have hr3 : n % 2 ^ q < 2 ^ (q + 1) := by rw [Nat.pow_succ]; omega
  generalize n / 2 ^ q / 2 = a at e1
  generalize n % 2 ^ q = r at e1 hr hr2 hr3
  have e2 : r + 2 ^ q = r ||| 2 ^ q := by
    have := Nat.two_pow_add_eq_or_of_lt (i := q) hr 1
    rw [Nat.mul_one] at this
    rw [Nat.add_comm, this, Nat.or_comm]
  rw [e1, Nat.add_assoc, Nat.two_pow_add_eq_or_of_lt hr2, Nat.two_pow_add_eq_or_of_lt hr3, e2, Nat.or_assoc]
theorem add_xor_t {c : Int32} {q : Nat} (hq : q < 32) (h : bt c q = false) : c + bI q = c ^^^ bI q := by
  rw [add_or hq h]
  apply b_ext
  intro i hi
  rw [b_or, b_xor, bt_bI hq hi]
  by_cases e : i = q
  · subst e; rw [h, decide_eq_true rfl]; rfl
  · rw [decide_eq_false e, Bool.or_false, Bool.xor_false]
theorem add_xor_f {c : Int32} {q : Nat} (hq : q < 32) (h : bt c q = true) : c + -bI q = c ^^^ bI q := by
  have h2 : bt (c ^^^ bI q) q = false := by rw [b_xor, bt_bI hq hq, h, decide_eq_true rfl]; rfl
  have e := add_xor_t hq h2
  have e2 : (c ^^^ bI q) ^^^ bI q = c := by
    apply b_ext
    intro i hi
    rw [b_xor, b_xor]
    cases bt c i <;> cases bt (bI q) i <;> rfl
  rw [e2] at e
  rw [← Int32.sub_eq_add_neg]
  rw [show c - bI q = (c ^^^ bI q) + bI q - bI q by rw [e], Int32.add_sub_cancel]
section Y2
variable {σ μ τ : ST} {υ : Nat → Int64} {td np nr T : Nat}
theorem Y_thr (h : YY μ τ υ td np nr T) (v : Int32) : YY (s_set μ 0 v) τ υ td np nr T := h
theorem Y_mono (h : YY μ τ υ td np nr T) {T' : Nat} (h1 : T ≤ T') (h2 : T' ≤ 110) : YY μ τ υ td np nr T' := by
  refine ⟨h.1, h.2.1, h.2.2.1, h.2.2.2.1, h.2.2.2.2.1, h.2.2.2.2.2.1, h.2.2.2.2.2.2.1, fun k hk => ?_, h2⟩
  obtain ⟨n, hn, e, hd⟩ := Y_u h hk
  exact ⟨n, Nat.le_trans hn (Nat.mul_le_mul_right _ h1), e, fun q hq => ⟨Nat.le_trans (hd q hq).1 h1, (hd q hq).2⟩⟩
theorem Y_addP (h : YY μ τ υ td np nr T) (v : Int32) (g : Bool) (hlt : np < 8) : YY (m_addP μ np v g) (s_put (s_put (s_put τ 1 np v) 1 (8 + np) (b01 g)) 0 1 (nI (np + 1))) υ td (np + 1) nr T := by
  refine ⟨⟨?_, ?_, ?_⟩, fun q hq => ?_, fun j hj => ?_, h.2.2.2.1, h.2.2.2.2.1, h.2.2.2.2.2.1, h.2.2.2.2.2.2.1, h.2.2.2.2.2.2.2.1, Y_T h⟩
  · show upd (τ.2 0) 1 (nI (np + 1)) 0 = _
    rw [upd_ne (by decide)]; exact Y_q0 h
  · show upd (τ.2 0) 1 (nI (np + 1)) 1 = _
    exact upd_self
  · show upd (τ.2 0) 1 (nI (np + 1)) 2 = _
    rw [upd_ne (by decide)]; exact Y_q2 h
  · show upd (upd (τ.2 1) np v) (8 + np) (b01 g) q = upd (μ.2 3) np v q ∧ upd (upd (τ.2 1) np v) (8 + np) (b01 g) (8 + q) = upd (μ.2 4) np (b01 g) q
    by_cases e : q = np
    · subst e
      rw [upd_ne (i := 8 + q) (j := q) (by omega), upd_self, upd_self, upd_self, upd_self]; exact ⟨rfl, rfl⟩
    · rw [upd_ne (i := 8 + np) (j := q) (by omega), upd_ne e, upd_ne e, upd_ne (i := 8 + np) (j := 8 + q) (by omega), upd_ne (i := np) (j := 8 + q) (by omega), upd_ne e]
      exact ⟨Y_p h (by omega), Y_n h (by omega)⟩
  · show upd (upd (τ.2 1) np v) (8 + np) (b01 g) (16 + j) = μ.2 5 j ∧ upd (upd (τ.2 1) np v) (8 + np) (b01 g) (22 + j) = μ.2 14 j
    rw [upd_ne (by omega), upd_ne (by omega), upd_ne (by omega), upd_ne (by omega)]
    exact ⟨Y_c h hj, Y_h h hj⟩
theorem Y_setR (h : YY μ τ υ td np nr T) {q : Nat} (hq : q < 8) (v : Int32) : YY (s_put (s_set μ 0 0) 3 q v) (s_put τ 1 q v) υ td np nr T := by
  refine ⟨h.1, fun k hk => ?_, fun j hj => ?_, h.2.2.2.1, h.2.2.2.2.1, h.2.2.2.2.2.1, h.2.2.2.2.2.2.1, h.2.2.2.2.2.2.2.1, Y_T h⟩
  · show upd (τ.2 1) q v k = upd (μ.2 3) q v k ∧ upd (τ.2 1) q v (8 + k) = μ.2 4 k
    rw [upd_ne (i := q) (j := 8 + k) (by omega)]
    by_cases e : k = q
    · subst e; rw [upd_self, upd_self]; exact ⟨rfl, Y_n h hk⟩
    · rw [upd_ne e, upd_ne e]; exact ⟨Y_p h hk, Y_n h hk⟩
  · show upd (τ.2 1) q v (16 + j) = μ.2 5 j ∧ upd (τ.2 1) q v (22 + j) = μ.2 14 j
    rw [upd_ne (by omega), upd_ne (by omega)]
    exact ⟨Y_c h hj, Y_h h hj⟩
theorem Y_cR (h : YY μ τ υ td np nr T) (hn8 : np ≤ 8) {j : Nat} (hj : j < 6) (w : Int32) : YY (s_put (s_set μ 0 0) 5 j w) (s_put τ 1 (16 + j) w) υ td np nr T := by
  refine ⟨h.1, fun k hk => ?_, fun z hz => ?_, h.2.2.2.1, h.2.2.2.2.1, h.2.2.2.2.2.1, h.2.2.2.2.2.2.1, h.2.2.2.2.2.2.2.1, Y_T h⟩
  · show upd (τ.2 1) (16 + j) w k = μ.2 3 k ∧ upd (τ.2 1) (16 + j) w (8 + k) = μ.2 4 k
    rw [upd_ne (by omega), upd_ne (by omega)]
    exact ⟨Y_p h hk, Y_n h hk⟩
  · show upd (τ.2 1) (16 + j) w (16 + z) = upd (μ.2 5) j w z ∧ upd (τ.2 1) (16 + j) w (22 + z) = μ.2 14 z
    rw [upd_ne (i := 16 + j) (j := 22 + z) (by omega)]
    by_cases e : z = j
    · subst e; rw [upd_self, upd_self]; exact ⟨rfl, Y_h h hz⟩
    · rw [upd_ne (by omega), upd_ne e]; exact ⟨Y_c h hz, Y_h h hz⟩
theorem Y_cons (h : YY μ τ υ td np nr T) (hn8 : np ≤ 8) {j q : Nat} (hj : j < 6) (hq : q < 8) (g : Bool) : YY (m_consS μ j q g) (s_put τ 1 (16 + j) (if bt (τ.2 1 (16 + j)) q = g then τ.2 1 (16 + j) else τ.2 1 (16 + j) ^^^ bI q)) υ td np nr T := by
  unfold m_consS
  rw [Y_c h hj]
  by_cases c : bt (μ.2 5 j) q = g
  · rw [if_pos c, if_pos c, ← Y_c h hj, s_put_id]; exact h
  · rw [if_neg c, if_neg c]; exact Y_cR h hn8 hj _
theorem Y_hR (h : YY μ τ υ td np nr T) (hn8 : np ≤ 8) {i : Nat} (hi : i < 6) (w : Int32) : YY (s_put (s_set μ 0 0) 14 i w) (s_put τ 1 (22 + i) w) υ td np nr T := by
  refine ⟨h.1, fun k hk => ?_, fun z hz => ?_, h.2.2.2.1, h.2.2.2.2.1, h.2.2.2.2.2.1, h.2.2.2.2.2.2.1, h.2.2.2.2.2.2.2.1, Y_T h⟩
  · show upd (τ.2 1) (22 + i) w k = μ.2 3 k ∧ upd (τ.2 1) (22 + i) w (8 + k) = μ.2 4 k
    rw [upd_ne (by omega), upd_ne (by omega)]
    exact ⟨Y_p h hk, Y_n h hk⟩
  · show upd (τ.2 1) (22 + i) w (16 + z) = μ.2 5 z ∧ upd (τ.2 1) (22 + i) w (22 + z) = upd (μ.2 14) i w z
    rw [upd_ne (i := 22 + i) (j := 16 + z) (by omega)]
    by_cases e : z = i
    · subst e; rw [upd_self, upd_self]; exact ⟨Y_c h hz, rfl⟩
    · rw [upd_ne (by omega), upd_ne e]; exact ⟨Y_c h hz, Y_h h hz⟩
/-- a use more -/
theorem Y_use (h : YY μ τ υ td np nr T) (hT : T < 110) {r q : Nat} (hr : r < 30) (hq : q < 8) : YY (s_put (s_set μ 0 0) 13 (8 * r + q) (μ.2 13 (8 * r + q) + 1)) τ (vp_updL υ r (υ r + (1 : Int64) <<< ((nI (7 * q)).toInt64 &&& 63))) td np nr (T + 1) := by
  refine ⟨h.1, h.2.1, h.2.2.1, h.2.2.2.1, h.2.2.2.2.1, h.2.2.2.2.2.1, h.2.2.2.2.2.2.1, fun k hk => ?_, hT⟩
  obtain ⟨n, hn, e, hd⟩ := Y_u h hk
  have hp : 2 ^ (7 * q) ≤ 2 ^ 49 := Nat.pow_le_pow_right (by decide) (by omega)
  by_cases ek : k = r
  · subst ek
    refine ⟨n + 2 ^ (7 * q), by rw [Nat.add_mul, Nat.one_mul]; exact Nat.add_le_add hn hp, ?_, fun z hz => ?_⟩
    · show (if k = k then _ else _) = _
      rw [if_pos rfl, e, u_add n hq]
    · have hdq : dig n q < 127 := by have := (hd q hq).1; omega
      show _ ∧ upd (μ.2 13) (8 * k + q) (μ.2 13 (8 * k + q) + 1) (8 * k + z) = _
      by_cases ez : z = q
      · subst ez
        rw [upd_self, dig_same hdq, (hd z hz).2, nI_1]
        exact ⟨by have := (hd z hz).1; omega, rfl⟩
      · rw [upd_ne (by omega), dig_ne ez hdq]
        exact ⟨by have := (hd z hz).1; omega, (hd z hz).2⟩
  · refine ⟨n, Nat.le_trans hn (Nat.mul_le_mul_right _ (Nat.le_succ T)), ?_, fun z hz => ?_⟩
    · show (if k = r then _ else _) = _
      rw [if_neg ek]; exact e
    · show _ ∧ upd (μ.2 13) (8 * r + q) (μ.2 13 (8 * r + q) + 1) (8 * k + z) = _
      rw [upd_ne (by omega)]
      exact ⟨by have := (hd z hz).1; omega, (hd z hz).2⟩
theorem Y_used (h : YY μ τ υ td np nr T) (hT : T < 110) {r q : Nat} (hr : r < 30) (hq : q < 8) : (((υ r + (1 : Int64) <<< ((nI (7 * q)).toInt64 &&& 63)) >>> ((nI (7 * q)).toInt64 &&& 63)) &&& 127).toInt32 = μ.2 13 (8 * r + q) + 1 := by
  obtain ⟨n, hn, e, hd⟩ := Y_u h hr
  have hp : 2 ^ (7 * q) ≤ 2 ^ 49 := Nat.pow_le_pow_right (by decide) (by omega)
  have h1 : T * 2 ^ 49 ≤ 110 * 2 ^ 49 := Nat.mul_le_mul_right _ (by omega)
  rw [e, u_add n hq, u_dig (by omega) hq, lN_i, (hd q hq).2, nI_1, dig_same (by have := (hd q hq).1; omega)]
/-! ===== records more ===== -/
theorem belk_cong {so so' : Nat → Int32} {r : Nat} : ∀ n, (∀ i, i < n → r < i → so' i = so i) → m_belk so' r n = m_belk so r n
  | 0, _ => rfl
  | n + 1, h => by
    rw [m_belk, m_belk, belk_cong n (fun i hi => h i (by omega))]
    by_cases c : r < n
    · rw [h n (by omega) c]
    · rw [if_neg (fun g => c g.1), if_neg (fun g => c g.1)]
theorem belk_ext {so : Nat → Int32} {r n : Nat} {w : Int32} : m_belk (upd so n w) r (n + 1) = if r < n ∧ (bt w r = true ∨ ¬ w &&& m_belk so r n = 0) then m_belk so r n ||| bI n else m_belk so r n := by
  rw [m_belk, upd_self, belk_cong (so := so) n (fun i hi _ => upd_ne (by omega))]
theorem bI_and {x : Int32} {k : Nat} (hk : k < 32) : (¬ bI k &&& x = 0) ↔ bt x k = true := by
  rw [Int32.and_comm, and_bI x hk]
  exact ⟨fun h => bl_t h, fun h g => by rw [h] at g; cases g⟩
theorem RR_addR (h : RR σ μ td np nr) (hr : nr < 30) {j : Nat} (hj : j < 12) (P : Int32) : RR (x_addR σ nr (bI j) P 0) (m_lay (s_set μ 0 0) nr (nI j) 0 P) td np (nr + 1) := RR_lay h hr (fun i _ hb => by rw [b_0] at hb; cases hb) (fun _ => ⟨j, hj, rfl⟩) (by
    have r0 : (m_lay (s_set μ 0 0) nr (nI j) 0 P).2 9 nr = 0 := by show upd (μ.2 9) nr 0 nr = 0; exact upd_self
    rw [subj_root r0]
    show bI j = (1 : Int32) <<< (upd (μ.2 8) nr (nI j) nr &&& 31)
    rw [upd_self]; rfl)
theorem Y_layR (hR : RR σ μ td np nr) (h : YY μ τ υ td np nr T) (hr : nr < 30) {j : Nat} (hj : j < 6) (P : Int32) : YY (m_lay (s_set μ 0 0) nr (nI j) 0 P) (y_layR τ nr (bI j) P) υ td np (nr + 1) T := by
  have hR' := RR_addR hR hr (j := j) (by omega) P
  have hsl : SL (μ.2 9) nr := by rw [← (R_rows hR).2.2.2.1]; exact R_sl hR
  have hz := Y_z h (Nat.le_refl nr) hr
  have hsu : m_subj (m_lay (s_set μ 0 0) nr (nI j) 0 P).2 nr = bI j := by
    have := R_su hR' nr (by omega)
    rw [← this]
    show upd (σ.2 9) nr (bI j) nr = _
    exact upd_self
  have hcg : ∀ k, k < nr → m_subj (m_lay (s_set μ 0 0) nr (nI j) 0 P).2 k = m_subj μ.2 k := subj_cong (ρ := μ.2) (n := nr) hsl (by omega) (fun k hk => by show upd (μ.2 9) nr 0 k = _; exact upd_ne (by omega)) (fun k hk _ => by show upd (μ.2 8) nr (nI j) k = _; exact upd_ne (by omega))
  refine ⟨⟨?_, ?_, ?_⟩, h.2.1, h.2.2.1, fun k hk => ?_, fun k hk h30 => ?_, h.2.2.2.2.2.1, fun k hk z hz6 h32 => ?_, h.2.2.2.2.2.2.2.1, Y_T h⟩
  · show upd (τ.2 0) 2 (nI (nr + 1)) 0 = _
    rw [upd_ne (by decide)]; exact Y_q0 h
  · show upd (τ.2 0) 2 (nI (nr + 1)) 1 = _
    rw [upd_ne (by decide)]; exact Y_q1 h
  · show upd (τ.2 0) 2 (nI (nr + 1)) 2 = _
    exact upd_self
  · show upd (τ.2 2) nr (bI j) k = m_subj (m_lay (s_set μ 0 0) nr (nI j) 0 P).2 k ∧ τ.2 3 k = m_belk (upd (μ.2 9) nr 0) k (nr + 1) ∧ upd (τ.2 4) nr P k = upd (μ.2 10) nr P k ∧ upd (τ.2 5) nr (τ.2 0 0) k = upd (μ.2 11) nr (μ.1 1) k ∧ upd (τ.2 6) (30 + nr) 1 k = upd (μ.2 12) nr 0 k ∧ τ.2 7 k = upd (μ.2 9) nr 0 k ∧ (upd (τ.2 6) (30 + nr) 1 (30 + k) = 1 ↔ upd (μ.2 9) nr 0 k = 0)
    rw [upd_ne (i := 30 + nr) (j := k) (by omega)]
    by_cases e : k = nr
    · subst e
      rw [upd_self, upd_self, upd_self, upd_self, upd_self, upd_self, upd_self, upd_self, m_belk_lo _ (Nat.le_refl _), hz.1, hz.2.1, hz.2.2, Y_q0 h, R_t1 hR]
      exact ⟨hsu.symm, rfl, rfl, rfl, rfl, rfl, ⟨fun _ => rfl, fun _ => rfl⟩⟩
    · have hk2 : k < nr := by omega
      rw [upd_ne e, upd_ne e, upd_ne e, upd_ne e, upd_ne e, upd_ne e, upd_ne e, upd_ne (i := 30 + nr) (j := 30 + k) (by omega), belk_ext, if_neg (fun g => g.2.elim (fun g => by rw [b_0] at g; cases g) (fun g => g (by rw [Int32.zero_and]))), hcg k hk2]
      exact h.2.2.2.1 k hk2
  · show τ.2 3 k = 0 ∧ upd (τ.2 6) (30 + nr) 1 k = 0 ∧ τ.2 7 k = 0
    rw [upd_ne (by omega)]
    exact Y_z h (by omega) h30
  · by_cases e : k = nr
    · subst e; rw [hsu, bt_bI (by omega) h32]; exact decide_eq_false (by omega)
    · rw [hcg k (by omega)]; exact Y_s h (by omega) z hz6 h32
end Y2
