/-! ===== the calls that only read: both answer alike ===== -/
section P5
variable {σ τ : ST} {td np nr : Nat}
theorem P_consents (h : RR σ τ td np nr) (a1 : Int32) : ∃ (code : Nat) (val : Int32) (σ' τ' : ST), x_out_consents σ a1 code val σ' ∧ m_out_consents τ a1 val τ' ∧ PC td σ' τ' code := by
  rcases ix2 a1 (n := 12) (by decide) with hb | ⟨j, hj, rfl⟩
  · exact ⟨1, 0, σ, _, xo_consents_t a1 hb, mo_consents_f a1 (in_S hb), PC_1 h⟩
  · exact ⟨0, _, _, _, xo_consents j hj, by rw [R_e4 h]; exact mo_consents j hj, PC_0 h⟩
theorem P_traces (h : RR σ τ td np nr) (a1 : Int32) : ∃ (code : Nat) (val : Int32) (σ' τ' : ST), x_out_traces σ a1 code val σ' ∧ m_out_traces τ a1 val τ' ∧ PC td σ' τ' code := by
  rcases ix2 a1 (n := 12) (by decide) with hb | ⟨j, hj, rfl⟩
  · exact ⟨1, 0, σ, _, xo_traces_t a1 hb, mo_traces_f a1 (in_S hb), PC_1 h⟩
  · exact ⟨0, _, _, _, xo_traces j hj nr (R_x6 h) (R_nr h), by rw [tr_eq h]; exact mo_traces j hj nr (R_t7 h) (R_nr h), PC_0 h⟩
theorem P_tracesFromRoots (h : RR σ τ td np nr) (a1 : Int32) : ∃ (code : Nat) (val : Int32) (σ' τ' : ST), x_out_tracesFromRoots σ a1 code val σ' ∧ m_out_tracesFromRoots τ a1 val τ' ∧ PC td σ' τ' code := by
  rcases ix2 a1 (n := 12) (by decide) with hb | ⟨j, hj, rfl⟩
  · exact ⟨1, 0, σ, _, xo_tracesFromRoots_t a1 hb, mo_tracesFromRoots_f a1 (in_S hb), PC_1 h⟩
  · exact ⟨0, _, _, _, xo_tracesFromRoots j hj nr (R_x6 h) (R_nr h), by rw [trr_eq h]; exact mo_tracesFromRoots j hj nr (R_t7 h) (R_nr h), PC_0 h⟩
theorem P_stateOf (h : RR σ τ td np nr) (a1 : Int32) : ∃ (code : Nat) (val : Int32) (σ' τ' : ST), x_out_stateOf σ a1 code val σ' ∧ m_out_stateOf τ a1 val τ' ∧ PC td σ' τ' code := by
  rcases ix2 a1 (n := nr) (by have := R_nr h; omega) with hb | ⟨r, hr, rfl⟩
  · exact ⟨1, 0, σ, _, xo_stateOf_t a1 (bad_R h hb), mo_stateOf_f a1 (in_R h hb), PC_1 h⟩
  · exact ⟨0, _, _, _, xo_stateOf r nr (R_x6 h) (R_nr h) hr, by rw [state_eq h hr]; exact mo_stateOf r nr (R_t7 h) (R_nr h) hr, PC_0 h⟩
theorem P_subjectsOf (h : RR σ τ td np nr) (a1 : Int32) : ∃ (code : Nat) (val : Int32) (σ' τ' : ST), x_out_subjectsOf σ a1 code val σ' ∧ m_out_subjectsOf τ a1 val τ' ∧ PC td σ' τ' code := by
  rcases ix2 a1 (n := nr) (by have := R_nr h; omega) with hb | ⟨r, hr, rfl⟩
  · exact ⟨1, 0, σ, _, xo_subjectsOf_t a1 (bad_R h hb), mo_subjectsOf_f a1 (in_R h hb), PC_1 h⟩
  · exact ⟨0, _, _, _, xo_subjectsOf r nr (R_x6 h) (R_nr h) hr, by rw [R_su h r hr]; exact mo_subjectsOf r nr (R_t7 h) (R_nr h) hr, PC_0 h⟩
theorem P_below (h : RR σ τ td np nr) (a1 : Int32) : ∃ (code : Nat) (val : Int32) (σ' τ' : ST), x_out_below σ a1 code val σ' ∧ m_out_below τ a1 val τ' ∧ PC td σ' τ' code := by
  rcases ix2 a1 (n := nr) (by have := R_nr h; omega) with hb | ⟨r, hr, rfl⟩
  · exact ⟨1, 0, σ, _, xo_below_t a1 (bad_R h hb), mo_below_f a1 (in_R h hb), PC_1 h⟩
  · exact ⟨0, _, _, _, xo_below r nr (R_x6 h) (R_nr h) hr, by rw [bel_eq (R_sl h) (R_nr h) hr, (R_rows h).2.2.2.1]; exact mo_below r nr (R_t7 h) (R_nr h) hr, PC_0 h⟩
theorem P_endOf (h : RR σ τ td np nr) (a1 : Int32) : ∃ (code : Nat) (val : Int32) (σ' τ' : ST), x_out_endOf σ a1 code val σ' ∧ m_out_endOf τ a1 val τ' ∧ PC td σ' τ' code := by
  rcases ix2 a1 (n := nr) (by have := R_nr h; omega) with hb | ⟨r, hr, rfl⟩
  · exact ⟨1, 0, σ, _, xo_endOf_t a1 (bad_R h hb), mo_endOf_f a1 (in_R h hb), PC_1 h⟩
  · exact ⟨0, _, _, _, xo_endOf r nr (R_x6 h) (R_nr h) hr np (R_x1 h) (R_np h), by rw [endR_eq h hr]; exact mo_endOf r nr (R_t7 h) (R_nr h) hr np (R_t2 h) (R_np h), PC_0 h⟩
theorem P_whyKept (h : RR σ τ td np nr) (a1 : Int32) : ∃ (code : Nat) (val : Int32) (σ' τ' : ST), x_out_whyKept σ a1 code val σ' ∧ m_out_whyKept τ a1 val τ' ∧ PC td σ' τ' code := by
  rcases ix2 a1 (n := nr) (by have := R_nr h; omega) with hb | ⟨r, hr, rfl⟩
  · exact ⟨1, 0, σ, _, xo_whyKept_t a1 (bad_R h hb), mo_whyKept_f a1 (in_R h hb), PC_1 h⟩
  · exact ⟨0, _, _, _, xo_whyKept r nr (R_x6 h) (R_nr h) hr, by rw [kept_eq (R_sl h) (R_nr h) hr (R_st h) (R_rows h).2.2.2.1 (R_rows h).2.2.2.2.2]; exact mo_whyKept r nr (R_t7 h) (R_nr h) hr, PC_0 h⟩
theorem P_daysWithConsent (h : RR σ τ td np nr) (a1 : Int32) (a2 : Int32) : ∃ (code : Nat) (val : Int32) (σ' τ' : ST), x_out_daysWithConsent σ a1 a2 code val σ' ∧ m_out_daysWithConsent τ a1 a2 val τ' ∧ PC td σ' τ' code := by
  rcases ix2 a1 (n := 12) (by decide) with hb | ⟨j, hj, rfl⟩
  · exact ⟨1, 0, σ, _, xo_daysWithConsent_tA a1 hb a2, mo_daysWithConsent_f a1 a2 (Or.inl (in_S hb)), PC_1 h⟩
  · rcases ix2 a2 (n := np) (by have := R_np h; omega) with hb | ⟨q, hq, rfl⟩
    · exact ⟨1, 0, σ, _, xo_daysWithConsent_tB j hj a2 (bad_P h hb), mo_daysWithConsent_f (nI j) a2 (Or.inr (in_P h hb)), PC_1 h⟩
    · exact ⟨0, _, _, _, xo_daysWithConsent j hj q np (R_x1 h) (R_np h) hq, by rw [(R_rows h).1, show j * 8 + q = 8 * j + q by omega]; exact mo_daysWithConsent j hj q np (R_t2 h) (R_np h) hq, PC_0 h⟩
theorem P_uses (h : RR σ τ td np nr) (a1 : Int32) (a2 : Int32) : ∃ (code : Nat) (val : Int32) (σ' τ' : ST), x_out_uses σ a1 a2 code val σ' ∧ m_out_uses τ a1 a2 val τ' ∧ PC td σ' τ' code := by
  rcases ix2 a1 (n := 12) (by decide) with hb | ⟨j, hj, rfl⟩
  · exact ⟨1, 0, σ, _, xo_uses_tA a1 hb a2, mo_uses_f a1 a2 (Or.inl (in_S hb)), PC_1 h⟩
  · rcases ix2 a2 (n := np) (by have := R_np h; omega) with hb | ⟨q, hq, rfl⟩
    · exact ⟨1, 0, σ, _, xo_uses_tB j hj a2 (bad_P h hb), mo_uses_f (nI j) a2 (Or.inr (in_P h hb)), PC_1 h⟩
    · exact ⟨0, _, _, _, xo_uses j hj q np (R_x1 h) (R_np h) hq nr (R_x6 h) (R_nr h), by rw [uses_eq h j q nr (Nat.le_refl _)]; exact mo_uses j hj q np (R_t2 h) (R_np h) hq nr (R_t7 h) (R_nr h), PC_0 h⟩
theorem P_whyNoUse (h : RR σ τ td np nr) (a1 : Int32) (a2 : Int32) : ∃ (code : Nat) (val : Int32) (σ' τ' : ST), x_out_whyNoUse σ a1 a2 code val σ' ∧ m_out_whyNoUse τ a1 a2 val τ' ∧ PC td σ' τ' code := by
  rcases ix2 a1 (n := nr) (by have := R_nr h; omega) with hb | ⟨r, hr, rfl⟩
  · exact ⟨1, 0, σ, _, xo_whyNoUse_tA a1 (bad_R h hb) a2, mo_whyNoUse_f a1 a2 (Or.inl (in_R h hb)), PC_1 h⟩
  · rcases ix2 a2 (n := np) (by have := R_np h; omega) with hb | ⟨q, hq, rfl⟩
    · exact ⟨1, 0, σ, _, xo_whyNoUse_tB r nr (R_x6 h) (R_nr h) hr a2 (bad_P h hb), mo_whyNoUse_f (nI r) a2 (Or.inr (in_P h hb)), PC_1 h⟩
    · exact ⟨0, _, _, _, xo_whyNoUse r q nr (R_x6 h) (R_nr h) hr np (R_x1 h) (R_np h) hq, by rw [why_eq h hr hq]; exact mo_whyNoUse r q nr (R_t7 h) (R_nr h) hr np (R_t2 h) (R_np h) hq, PC_0 h⟩
end P5
