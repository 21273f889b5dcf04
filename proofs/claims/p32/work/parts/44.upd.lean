/-! ===== the relation at each change of the class, by itself ===== -/
section U1
variable {σ τ : ST} {td np nr : Nat}
theorem RR_addP (h : RR σ τ td np nr) (a1 : Int32) (a2 : Bool) (b1 : ¬ a1 < 0) (b2 : a1 ≤ 3650) (hlt : np < 8) : RR (x_addP σ np a1 a2) (m_addP τ np a1 a2) td (np + 1) nr := by
  have hret : ∀ q, q < np + 1 → ∃ v, v ≤ 3650 ∧ upd (τ.2 3) np a1 q = nI v := by
    intro q hq
    by_cases e : q = np
    · subst e
      obtain ⟨j, hj, e⟩ := nI_of2 (M := 3650) (n := 3650) (by decide) b1 b2
      exact ⟨j, hj, by rw [upd_self]; exact e⟩
    · rw [upd_ne e]; exact h.1.2.2.2.2.2.2 q (by omega)
  have hwn := R_wo h np (Nat.le_refl _) (by omega)
  have hnd := h.1.2.2.2.2.2.1
  have e2 : upd (σ.2 2) np a1 = upd (τ.2 3) np a1 := by rw [R_e2 h]
  cases a2 with
  | true =>
    exact ⟨⟨(R_x0 h :), (R_e4 h :), e2, hlt, (R_td h :), fun q hq => by
        show (bt (σ.1 3) q = true ↔ upd (τ.2 4) np (b01 true) q = 0)
        by_cases e : q = np
        · subst e; rw [upd_self, hwn]; exact ⟨fun h => (by cases h), fun h => absurd h (by decide)⟩
        · rw [upd_ne e]; exact hnd q (by omega), hret⟩,
      (R_t1 h :), rfl, rfl, (R_x6 h :), (R_t7 h :), (R_nr h :), (R_rows h :), fun q hq h32 => (R_wo h q (by omega) h32 :), fun j hj q hq h8 => (R_cb h j hj q (by omega) h8 :), (R_add h :), (R_sl h :), (R_rt h :), (R_su h :), (R_st h :), (R_ou h :), (R_ho h :)⟩
  | false =>
    exact ⟨⟨(R_x0 h :), (R_e4 h :), e2, hlt, (R_td h :), fun q hq => by
        show (bt (σ.1 3 ||| bI np) q = true ↔ upd (τ.2 4) np (b01 false) q = 0)
        rw [b_or, bt_bI (by omega) (by omega)]
        by_cases e : q = np
        · subst e; rw [upd_self, decide_eq_true rfl, Bool.or_true]; exact ⟨fun _ => rfl, fun _ => rfl⟩
        · rw [upd_ne e, decide_eq_false e, Bool.or_false]; exact hnd q (by omega), hret⟩,
      (R_t1 h :), rfl, rfl, (R_x6 h :), (R_t7 h :), (R_nr h :), (R_rows h :), fun q hq h32 => by
        show bt (σ.1 3 ||| bI np) q = false
        rw [b_or, bt_bI (by omega) h32, R_wo h q (by omega) h32, decide_eq_false (by omega)]; rfl, fun j hj q hq h8 => (R_cb h j hj q (by omega) h8 :), (R_add h :), (R_sl h :), (R_rt h :), (R_su h :), (R_st h :), (R_ou h :), (R_ho h :)⟩
theorem RR_setR (h : RR σ τ td np nr) {q : Nat} (hq : q < np) (a2 : Int32) (b1 : ¬ a2 < 0) (b2 : a2 ≤ 3650) : RR (s_put σ 2 q a2) (s_put (s_set τ 0 0) 3 q a2) td np nr := by
  have e2 : upd (σ.2 2) q a2 = upd (τ.2 3) q a2 := by rw [R_e2 h]
  exact ⟨⟨(R_x0 h :), (R_e4 h :), e2, (R_np h :), (R_td h :), h.1.2.2.2.2.2.1, fun k hk => by
      show ∃ v, v ≤ 3650 ∧ upd (τ.2 3) q a2 k = nI v
      by_cases e : k = q
      · subst e
        obtain ⟨j, hj, e⟩ := nI_of2 (M := 3650) (n := 3650) (by decide) b1 b2
        exact ⟨j, hj, by rw [upd_self]; exact e⟩
      · rw [upd_ne e]; exact h.1.2.2.2.2.2.2 k hk⟩,
    (R_t1 h :), (R_x1 h :), (R_t2 h :), (R_x6 h :), (R_t7 h :), (R_nr h :), (R_rows h :), (R_wo h :), (R_cb h :), (R_add h :), (R_sl h :), (R_rt h :), (R_su h :), (R_st h :), (R_ou h :), (R_ho h :)⟩
theorem RR_cons (h : RR σ τ td np nr) {j q : Nat} (hj : j < 12) (hq : q < np) (a3 : Bool) : RR (x_consS σ j q a3) (m_consS τ j q a3) td np nr := by
  have h8 := R_np h
  unfold x_consS m_consS
  rw [R_e4 h]
  by_cases c : bt (τ.2 5 j) q = a3
  · rw [if_pos c, if_pos c]; exact RR_thr h 0
  · rw [if_neg c, if_neg c]
    have e4 : upd (σ.2 4) j (τ.2 5 j ^^^ bI q) = upd (τ.2 5) j (τ.2 5 j ^^^ bI q) := by rw [R_e4 h]
    exact ⟨⟨(R_x0 h :), e4, (R_e2 h :), (R_np h :), (R_td h :), h.1.2.2.2.2.2.1, h.1.2.2.2.2.2.2⟩,
      (R_t1 h :), (R_x1 h :), (R_t2 h :), (R_x6 h :), (R_t7 h :), (R_nr h :), (R_rows h :), (R_wo h :), fun k hk z hz hz8 => by
        show bt (upd (σ.2 4) j (τ.2 5 j ^^^ bI q) k) z = false
        by_cases e : k = j
        · subst e
          rw [upd_self, b_xor, ← R_e4 h, R_cb h k hk z hz hz8, bt_bI (by omega) (by omega), decide_eq_false (by omega)]; rfl
        · rw [upd_ne e]; exact R_cb h k hk z hz hz8, (R_add h :), (R_sl h :), (R_rt h :), (R_su h :), (R_st h :), (R_ou h :), (R_ho h :)⟩
theorem RR_use (h : RR σ τ td np nr) {r q : Nat} : RR (s_put σ 11 (r * 8 + q) (σ.2 11 (r * 8 + q) + 1)) (s_put (s_set τ 0 0) 13 (8 * r + q) (τ.2 13 (8 * r + q) + 1)) td np nr := by
  have h30 := R_nr h
  have R := R_rows h
  have e11 : upd (σ.2 11) (r * 8 + q) (σ.2 11 (r * 8 + q) + 1) = upd (τ.2 13) (8 * r + q) (τ.2 13 (8 * r + q) + 1) := by rw [R.2.2.2.2.1, show r * 8 + q = 8 * r + q by omega]
  rw [R.2.2.2.2.1] at e11
  rw [R.2.2.2.2.1]
  exact ⟨⟨(R_x0 h :), (R_e4 h :), (R_e2 h :), (R_np h :), (R_td h :), h.1.2.2.2.2.2.1, h.1.2.2.2.2.2.2⟩, (R_t1 h :), (R_x1 h :), (R_t2 h :), (R_x6 h :), (R_t7 h :), h30, ⟨R.1, R.2.1, R.2.2.1, R.2.2.2.1, by show upd (σ.2 11) _ _ = _; rw [R.2.2.2.2.1]; exact e11, R.2.2.2.2.2⟩, (R_wo h :), (R_cb h :), (R_add h :), (R_sl h :), (R_rt h :), (R_su h :), (R_st h :), (R_ou h :), (R_ho h :)⟩
theorem RR_hold (h : RR σ τ td np nr) {i r : Nat} (hi : i < 6) (hr : r < nr) : RR (s_put σ 15 i (σ.2 15 i ||| bI r)) (s_put (s_set τ 0 0) 14 i (τ.2 14 i ||| bI r)) td np nr := by
  have h30 := R_nr h
  have R := R_rows h
  have e15 : upd (σ.2 15) i (σ.2 15 i ||| bI r) = upd (τ.2 14) i (τ.2 14 i ||| bI r) := by rw [R.2.2.2.2.2]
  exact ⟨⟨(R_x0 h :), (R_e4 h :), (R_e2 h :), (R_np h :), (R_td h :), h.1.2.2.2.2.2.1, h.1.2.2.2.2.2.2⟩, (R_t1 h :), (R_x1 h :), (R_t2 h :), (R_x6 h :), (R_t7 h :), h30, ⟨R.1, R.2.1, R.2.2.1, R.2.2.2.1, R.2.2.2.2.1, e15⟩, (R_wo h :), (R_cb h :), (R_add h :), (R_sl h :), (R_rt h :), (R_su h :), (R_st h :), (R_ou h :), fun k hk z hz h32 => by
    show bt (upd (σ.2 15) i (σ.2 15 i ||| bI r) k) z = false
    by_cases e : k = i
    · subst e; rw [upd_self, b_or, bt_bI (by omega) h32, R_ho h k hk z hz h32, decide_eq_false (by omega)]; rfl
    · rw [upd_ne e]; exact R_ho h k hk z hz h32⟩
theorem RR_close (h : RR σ τ td np nr) {i : Nat} (hi : i < 6) : RR (s_put σ 15 i 0) (s_put (s_set τ 0 0) 14 i 0) td np nr := by
  have h30 := R_nr h
  have R := R_rows h
  have e15 : upd (σ.2 15) i 0 = upd (τ.2 14) i 0 := by rw [R.2.2.2.2.2]
  exact ⟨⟨(R_x0 h :), (R_e4 h :), (R_e2 h :), (R_np h :), (R_td h :), h.1.2.2.2.2.2.1, h.1.2.2.2.2.2.2⟩, (R_t1 h :), (R_x1 h :), (R_t2 h :), (R_x6 h :), (R_t7 h :), h30, ⟨R.1, R.2.1, R.2.2.1, R.2.2.2.1, R.2.2.2.2.1, e15⟩, (R_wo h :), (R_cb h :), (R_add h :), (R_sl h :), (R_rt h :), (R_su h :), (R_st h :), (R_ou h :), fun k hk z hz h32 => by
    show bt (upd (σ.2 15) i 0 k) z = false
    by_cases e : k = i
    · subst e; rw [upd_self, b_0]
    · rw [upd_ne e]; exact R_ho h k hk z hz h32⟩
end U1
