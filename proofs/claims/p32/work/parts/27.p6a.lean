/-! ===== the calls that change: purposes, consents, records, cases ===== -/
theorem in_L_f {v : Int32} (h : v < 0 ∨ ¬ v ≤ 3650) : m_in v 0 3650 = false := by
  rcases h with h | h
  · rw [m_in, decide_eq_f (fun h2 => h2 h)]; rfl
  · rw [m_in, decide_eq_f (q := ¬ (3650 : Int32) < v) (fun h2 => h2 (Int32.not_le.mp h)), Bool.and_false]
theorem in_L_t {v : Int32} (h1 : ¬ v < 0) (h2 : v ≤ 3650) : m_in v 0 3650 = true := by
  rw [m_in, decide_eq_true h1, decide_eq_true (p := ¬ (3650 : Int32) < v) (Int32.not_lt.mpr h2)]; rfl
theorem bI_nat : ∀ np, np < 9 → bI np = nI (2 ^ np) := by decide +kernel
theorem and_lt {P : Int32} {n : Nat} (hn : n < 9) (h : P &&& ((bI n - 1) ^^^ (-1)) = 0) : ∃ k, k < 2 ^ n ∧ P = nI k := by
  obtain ⟨k, hk, rfl⟩ := nw_of P
  have e : nI k = nI k &&& (bI n - 1) := by
    apply b_ext
    intro i hi
    rw [b_and]
    have := (and0 _ _).mp h i hi
    rw [bt_not hi] at this
    cases ha : bt (nI k) i
    · rfl
    · cases hb : bt (bI n - 1) i
      · rw [hb] at this; exact absurd ⟨ha, rfl⟩ this
      · rfl
  have hp : 1 ≤ 2 ^ n := Nat.one_le_two_pow
  refine ⟨k % 2 ^ n, Nat.mod_lt _ (by omega), ?_⟩
  rw [e, bI_nat n hn, show (1 : Int32) = nI 1 from rfl, pk_sub hp, nw_and, Nat.and_two_pow_sub_one_eq_mod]
theorem lt_and {k n : Nat} (hn : n < 9) (hk : k < 2 ^ n) : nI k &&& ((bI n - 1) ^^^ (-1)) = 0 := by
  rw [and0]
  rintro i hi ⟨h1, h2⟩
  rw [bt_nI hi] at h1
  rw [bt_not hi, all_bt_nat n hn i hi] at h2
  by_cases c : i < n
  · rw [decide_eq_true c] at h2; cases h2
  · have : k.testBit i = false := Nat.testBit_lt_two_pow (Nat.lt_of_lt_of_le hk (Nat.pow_le_pow_right (by omega) (by omega)))
    rw [this] at h1; cases h1
theorem pow_le9 : ∀ n, n < 9 → 2 ^ n ≤ 256 := by decide
section P6
variable {σ τ : ST} {td np nr : Nat}
theorem set_t (h : RR σ τ td np nr) {P : Int32} (hq : P &&& ((bI np - 1) ^^^ (-1)) = 0) : m_in P 0 ((1 : Int32) <<< (τ.1 2 &&& 31) - 1) = true := by
  have h9 : np < 9 := by have := R_np h; omega
  obtain ⟨k, hk, rfl⟩ := and_lt h9 hq
  have := pow_le9 np h9
  rw [R_t2 h]
  exact m_in_t (n := 2 ^ np) (by rw [← bI_nat np h9]; rfl) hk (by omega)
theorem set_f (h : RR σ τ td np nr) {P : Int32} (hq : ¬ P &&& ((bI np - 1) ^^^ (-1)) = 0) : m_in P 0 ((1 : Int32) <<< (τ.1 2 &&& 31) - 1) = false := by
  have h9 : np < 9 := by have := R_np h; omega
  have h256 := pow_le9 np h9
  rw [R_t2 h]
  refine m_in_f (n := 2 ^ np) (by rw [← bI_nat np h9]; rfl) (by omega) ?_
  rcases ix2 P (n := 2 ^ np) (by omega) with c | ⟨k, hk, rfl⟩
  · exact c
  · exact absurd (lt_and h9 hk) hq
theorem subj_row {ρ ρ' : RW} {r : Nat} (h9 : ρ' 9 = ρ 9) (h8 : ρ' 8 = ρ 8) : m_subj ρ' r = m_subj ρ r := by unfold m_subj; rw [h9, h8]
theorem P_addPurpose (h : RR σ τ td np nr) (a1 : Int32) (a2 : Bool) : ∃ (code : Nat) (val : Int32) (σ' τ' : ST), x_out_addPurpose σ a1 a2 code val σ' ∧ m_out_addPurpose τ a1 a2 val τ' ∧ PC td σ' τ' code := by
  by_cases b1 : a1 < 0
  · exact ⟨1, 0, σ, _, xo_addPurpose_tA a1 (Or.inl b1) a2, mo_addPurpose_f a1 a2 (in_L_f (Or.inl b1)), PC_1 h⟩
  · by_cases b2 : a1 ≤ 3650
    · by_cases b3 : np = 8
      · exact ⟨2, 0, σ, _, xo_addPurpose_tB a1 a2 b1 b2 (by rw [R_x1 h, b3]; rfl), mo_addPurpose_g a1 a2 (in_L_t b1 b2) (by rw [R_t2 h, b3]; rfl), PC_2 h⟩
      · have hlt : np < 8 := by have := R_np h; omega
        refine ⟨0, _, _, _, xo_addPurpose a1 a2 b1 b2 np (R_x1 h) hlt, mo_addPurpose a1 a2 (in_L_t b1 b2) np (R_t2 h) hlt, ?_⟩
        have hret : ∀ q, q < np + 1 → ∃ v, v ≤ 3650 ∧ upd (τ.2 3) np a1 q = nI v := by
          intro q hq
          by_cases e : q = np
          · subst e
            obtain ⟨j, hj, e⟩ := nI_of2 (M := 3650) (n := 3650) (by decide) b1 b2
            exact ⟨j, hj, by rw [upd_self]; exact e⟩
          · rw [upd_ne e]; exact h.1.2.2.2.2.2.2 q (by omega)
        have hwn := R_wo h np (Nat.le_refl _) (by omega)
        have hnd := h.1.2.2.2.2.2.1
        have e2 : upd (σ.2 2) np a1 = upd (τ.2 3) np a1 := by rw [R_e2 h]
        refine ⟨rfl, td, np + 1, nr, by omega, ?_⟩
        cases a2 with
        | true =>
          exact ⟨⟨(R_x0 h :), (R_e4 h :), e2, hlt, (R_td h :), fun q hq => by
              show (bt (σ.1 3) q = true ↔ upd (τ.2 4) np (b01 true) q = 0)
              by_cases e : q = np
              · subst e; rw [upd_self, hwn]; exact ⟨fun h => (by cases h), fun h => absurd h (by decide)⟩
              · rw [upd_ne e]; exact hnd q (by omega), hret⟩,
            (R_t1 h :), rfl, rfl, (R_x6 h :), (R_t7 h :), (R_nr h :), (R_rows h :), fun q hq h32 => (R_wo h q (by omega) h32 :), fun j hj q hq h8 => (R_cb h j hj q (by omega) h8 :), (R_add h :), (R_sl h :), (R_rt h :), (R_su h :), (R_st h :), (R_ou h :), (R_ho h :)⟩
        | false =>
          exact ⟨⟨(R_x0 h :), (R_e4 h :), e2, hlt, (R_td h :), fun q hq => by
              show (bt (σ.1 3 ||| bI np) q = true ↔ upd (τ.2 4) np (b01 false) q = 0)
              rw [b_or, bt_bI (by omega) (by omega)]
              by_cases e : q = np
              · subst e; rw [upd_self, decide_eq_true rfl, Bool.or_true]; exact ⟨fun _ => rfl, fun _ => rfl⟩
              · rw [upd_ne e, decide_eq_false e, Bool.or_false]; exact hnd q (by omega), hret⟩,
            (R_t1 h :), rfl, rfl, (R_x6 h :), (R_t7 h :), (R_nr h :), (R_rows h :), fun q hq h32 => by
              show bt (σ.1 3 ||| bI np) q = false
              rw [b_or, bt_bI (by omega) h32, R_wo h q (by omega) h32, decide_eq_false (by omega)]; rfl, fun j hj q hq h8 => (R_cb h j hj q (by omega) h8 :), (R_add h :), (R_sl h :), (R_rt h :), (R_su h :), (R_st h :), (R_ou h :), (R_ho h :)⟩
    · exact ⟨1, 0, σ, _, xo_addPurpose_tA a1 (Or.inr b2) a2, mo_addPurpose_f a1 a2 (in_L_f (Or.inr b2)), PC_1 h⟩
theorem P_setRetention (h : RR σ τ td np nr) (a1 a2 : Int32) : ∃ (code : Nat) (val : Int32) (σ' τ' : ST), x_out_setRetention σ a1 a2 code val σ' ∧ m_out_setRetention τ a1 a2 val τ' ∧ PC td σ' τ' code := by
  rcases ix2 a1 (n := np) (by have := R_np h; omega) with hb | ⟨q, hq, rfl⟩
  · exact ⟨1, 0, σ, _, xo_setRetention_tA a1 (bad_P h hb) a2, mo_setRetention_f a1 a2 (in_P h hb), PC_1 h⟩
  · by_cases b1 : a2 < 0
    · exact ⟨2, 0, σ, _, xo_setRetention_tB q np (R_x1 h) (R_np h) hq a2 (Or.inl b1), mo_setRetention_g q a2 np (R_t2 h) (R_np h) hq (in_L_f (Or.inl b1)), PC_2 h⟩
    · by_cases b2 : a2 ≤ 3650
      · refine ⟨0, _, _, _, xo_setRetention q a2 np (R_x1 h) (R_np h) hq b1 b2, by rw [R_e2 h]; exact mo_setRetention q a2 np (R_t2 h) (R_np h) hq (in_L_t b1 b2), ?_⟩
        refine ⟨rfl, td, np, nr, by omega, ?_⟩
        have e2 : upd (σ.2 2) q a2 = upd (τ.2 3) q a2 := by rw [R_e2 h]
        exact ⟨⟨(R_x0 h :), (R_e4 h :), e2, (R_np h :), (R_td h :), h.1.2.2.2.2.2.1, fun k hk => by
            show ∃ v, v ≤ 3650 ∧ upd (τ.2 3) q a2 k = nI v
            by_cases e : k = q
            · subst e
              obtain ⟨j, hj, e⟩ := nI_of2 (M := 3650) (n := 3650) (by decide) b1 b2
              exact ⟨j, hj, by rw [upd_self]; exact e⟩
            · rw [upd_ne e]; exact h.1.2.2.2.2.2.2 k hk⟩,
          (R_t1 h :), (R_x1 h :), (R_t2 h :), (R_x6 h :), (R_t7 h :), (R_nr h :), (R_rows h :), (R_wo h :), (R_cb h :), (R_add h :), (R_sl h :), (R_rt h :), (R_su h :), (R_st h :), (R_ou h :), (R_ho h :)⟩
      · exact ⟨2, 0, σ, _, xo_setRetention_tB q np (R_x1 h) (R_np h) hq a2 (Or.inr b2), mo_setRetention_g q a2 np (R_t2 h) (R_np h) hq (in_L_f (Or.inr b2)), PC_2 h⟩
theorem P_consent (h : RR σ τ td np nr) (a1 a2 : Int32) (a3 : Bool) : ∃ (code : Nat) (val : Bool) (σ' τ' : ST), x_out_consent σ a1 a2 a3 code val σ' ∧ m_out_consent τ a1 a2 a3 val τ' ∧ PC td σ' τ' code := by
  rcases ix2 a1 (n := 12) (by decide) with hb | ⟨j, hj, rfl⟩
  · exact ⟨1, false, σ, _, xo_consent_tA a1 hb a2 a3, mo_consent_f a1 a2 a3 (Or.inl (in_S hb)), PC_of (RR_thr h 1) rfl⟩
  · rcases ix2 a2 (n := np) (by have := R_np h; omega) with hb | ⟨q, hq, rfl⟩
    · exact ⟨1, false, σ, _, xo_consent_tB j hj a2 (bad_P h hb) a3, mo_consent_f (nI j) a2 a3 (Or.inr (in_P h hb)), PC_of (RR_thr h 1) rfl⟩
    · refine ⟨0, _, _, _, xo_consent j hj q a3 np (R_x1 h) (R_np h) hq, by rw [R_e4 h]; exact mo_consent j hj q a3 np (R_t2 h) (R_np h) hq, ?_⟩
      have h8 := R_np h
      unfold x_consS m_consS
      rw [R_e4 h]
      by_cases c : bt (τ.2 5 j) q = a3
      · rw [if_pos c, if_pos c]; exact PC_0 h
      · rw [if_neg c, if_neg c]
        refine ⟨rfl, td, np, nr, by omega, ?_⟩
        have e4 : upd (σ.2 4) j (τ.2 5 j ^^^ bI q) = upd (τ.2 5) j (τ.2 5 j ^^^ bI q) := by rw [R_e4 h]
        exact ⟨⟨(R_x0 h :), e4, (R_e2 h :), (R_np h :), (R_td h :), h.1.2.2.2.2.2.1, h.1.2.2.2.2.2.2⟩,
          (R_t1 h :), (R_x1 h :), (R_t2 h :), (R_x6 h :), (R_t7 h :), (R_nr h :), (R_rows h :), (R_wo h :), fun k hk z hz hz8 => by
            show bt (upd (σ.2 4) j (τ.2 5 j ^^^ bI q) k) z = false
            by_cases e : k = j
            · subst e
              rw [upd_self, b_xor, ← R_e4 h, R_cb h k hk z hz hz8, bt_bI (by omega) (by omega), decide_eq_false (by omega)]; rfl
            · rw [upd_ne e]; exact R_cb h k hk z hz hz8, (R_add h :), (R_sl h :), (R_rt h :), (R_su h :), (R_st h :), (R_ou h :), (R_ho h :)⟩
theorem RR_lay (h : RR σ τ td np nr) (hr : nr < 30) {sub P so of : Int32} (hso : ∀ i, i < 32 → bt so i = true → i < nr) (hroot : so = 0 → ∃ j, j < 12 ∧ of = nI j) (hsub : sub = m_subj (m_lay (s_set τ 0 0) nr of so P).2 nr) : RR (x_addR σ nr sub P so) (m_lay (s_set τ 0 0) nr of so P) td np (nr + 1) := by
  have R := R_rows h
  have hou := R_ou h nr (Nat.le_refl _) (by omega)
  have e7 : upd (σ.2 7) nr (σ.1 0) = upd (τ.2 11) nr (τ.1 1) := by rw [R.2.1, R_x0 h, R_t1 h]
  have e8 : upd (σ.2 8) nr P = upd (τ.2 10) nr P := by rw [R.2.2.1]
  have e10 : upd (σ.2 10) nr so = upd (τ.2 9) nr so := by rw [R.2.2.2.1]
  refine ⟨⟨(R_x0 h :), (R_e4 h :), (R_e2 h :), (R_np h :), (R_td h :), h.1.2.2.2.2.2.1, h.1.2.2.2.2.2.2⟩, (R_t1 h :), (R_x1 h :), (R_t2 h :), rfl, rfl, hr, ⟨R.1, e7, e8, e10, R.2.2.2.2.1, R.2.2.2.2.2⟩, (R_wo h :), (R_cb h :), ?_, ?_, ?_, ?_, ?_, ?_, ?_⟩
  · intro r hr1
    show ∃ a, a ≤ td ∧ upd (σ.2 7) nr (σ.1 0) r = nI a
    by_cases e : r = nr
    · subst e; exact ⟨td, Nat.le_refl _, by rw [upd_self]; exact R_x0 h⟩
    · rw [upd_ne e]; exact R_add h r (by omega)
  · intro k hk i hi hb
    have hb : bt (upd (σ.2 10) nr so k) i = true := hb
    by_cases e : k = nr
    · subst e; rw [upd_self] at hb; exact hso i hi hb
    · rw [upd_ne e] at hb; exact R_sl h k (by omega) i hi hb
  · intro r hr1 h0
    have h0 : upd (σ.2 10) nr so r = 0 := h0
    show ∃ j, j < 12 ∧ upd (τ.2 8) nr of r = nI j
    by_cases e : r = nr
    · subst e; rw [upd_self] at h0 ⊢; exact hroot h0
    · rw [upd_ne e] at h0 ⊢; exact R_rt h r (by omega) h0
  · intro r hr1
    show upd (σ.2 9) nr sub r = m_subj (m_lay (s_set τ 0 0) nr of so P).2 r
    by_cases e : r = nr
    · subst e; rw [upd_self]; exact hsub
    · rw [upd_ne e, R_su h r (by omega)]
      refine (subj_cong (ρ := τ.2) (n := nr) (by rw [← R.2.2.2.1]; exact R_sl h) (by omega) (fun k hk => ?_) (fun k hk _ => ?_) r (by omega)).symm
      · show upd (τ.2 9) nr so k = τ.2 9 k
        exact upd_ne (by omega)
      · show upd (τ.2 8) nr of k = τ.2 8 k
        exact upd_ne (by omega)
  · intro r hr1
    show RS1 (σ.1 12 ||| bI nr) (σ.1 13) (σ.1 14) (upd (τ.2 12) nr 0) r
    by_cases e : r = nr
    · subst e
      refine Or.inl ⟨upd_self, ?_, hou.2.1, hou.2.2⟩
      rw [b_or, bt_bI (by omega) (by omega), decide_eq_true rfl, Bool.or_true]
    · have eb : bt (σ.1 12 ||| bI nr) r = bt (σ.1 12) r := by rw [b_or, bt_bI (by omega) (by omega), decide_eq_false e, Bool.or_false]
      unfold RS1
      rw [upd_ne e, eb]
      exact R_st h r (by omega)
  · intro r hr1 h32
    show bt (σ.1 12 ||| bI nr) r = false ∧ bt (σ.1 13) r = false ∧ bt (σ.1 14) r = false
    have g := R_ou h r (by omega) h32
    exact ⟨by rw [b_or, bt_bI (by omega) h32, decide_eq_false (by omega), g.1]; rfl, g.2.1, g.2.2⟩
  · intro i hi r hr1 h32
    exact R_ho h i hi r (by omega) h32
theorem P_add (h : RR σ τ td np nr) (a1 a2 : Int32) : ∃ (code : Nat) (val : Int32) (σ' τ' : ST), x_out_add σ a1 a2 code val σ' ∧ m_out_add τ a1 a2 val τ' ∧ PC td σ' τ' code := by
  rcases ix2 a1 (n := 12) (by decide) with hb | ⟨j, hj, rfl⟩
  · exact ⟨1, 0, σ, _, xo_add_tA a1 hb a2, mo_add_f a1 a2 (Or.inl (in_S hb)), PC_1 h⟩
  · by_cases b1 : a2 &&& ((bI np - 1) ^^^ (-1)) = 0
    · by_cases b2 : a2 = 0
      · exact ⟨2, 0, σ, _, xo_add_tC j hj a2 np (R_x1 h) (R_np h) b1 b2, mo_add_g j hj a2 (set_t h b1) b2, PC_2 h⟩
      · have hop : (x_open σ np a2 (bI j) (σ.1 0) = true ↔ τ.1 1 < m_enf τ.2 a2 (bI j) (τ.1 1) np) := by rw [R_x0 h, R_t1 h]; exact open_iff h.1 (Nat.le_refl _)
        have h30 := R_nr h
        by_cases b3 : nr = 30
        · exact ⟨3, 0, σ, _, xo_add_tD j hj a2 np (R_x1 h) (R_np h) nr (R_x6 h) (R_nr h) b1 b2 (Or.inl b3), mo_add_h j hj a2 np (R_t2 h) (R_np h) nr (R_t7 h) (R_nr h) (set_t h b1) b2 (Or.inl b3), PC_3 h⟩
        · by_cases b4 : x_open σ np a2 (bI j) (σ.1 0) = true
          · refine ⟨0, _, _, _, xo_add j hj a2 nr (R_x6 h) (by omega) np (R_x1 h) (R_np h) b1 b2 b4, mo_add j hj a2 np (R_t2 h) (R_np h) nr (R_t7 h) (by omega) (set_t h b1) b2 (hop.mp b4), ?_⟩
            refine ⟨rfl, td, np, nr + 1, by omega, RR_lay h (by omega) (fun i _ hb => by rw [b_0] at hb; cases hb) (fun _ => ⟨j, hj, rfl⟩) ?_⟩
            have r0 : (m_lay (s_set τ 0 0) nr (nI j) 0 a2).2 9 nr = 0 := by show upd (τ.2 9) nr 0 nr = 0; exact upd_self
            rw [subj_root r0]
            show bI j = (1 : Int32) <<< (upd (τ.2 8) nr (nI j) nr &&& 31)
            rw [upd_self]; rfl
          · exact ⟨3, 0, σ, _, xo_add_tD j hj a2 np (R_x1 h) (R_np h) nr (R_x6 h) (R_nr h) b1 b2 (Or.inr (bl_f b4)), mo_add_h j hj a2 np (R_t2 h) (R_np h) nr (R_t7 h) (R_nr h) (set_t h b1) b2 (Or.inr (fun z => b4 (hop.mpr z))), PC_3 h⟩
    · exact ⟨1, 0, σ, _, xo_add_tB j hj a2 np (R_x1 h) (R_np h) b1, mo_add_f (nI j) a2 (Or.inr (set_f h b1)), PC_1 h⟩
theorem P_derive (h : RR σ τ td np nr) (a1 a2 : Int32) : ∃ (code : Nat) (val : Int32) (σ' τ' : ST), x_out_derive σ a1 a2 code val σ' ∧ m_out_derive τ a1 a2 val τ' ∧ PC td σ' τ' code := by
  have h30 := R_nr h
  rcases ix2 a1 (n := nr) (by omega) with hb | ⟨r, hr, rfl⟩
  · exact ⟨1, 0, σ, _, xo_derive_tA a1 (bad_R h hb) a2, mo_derive_f a1 a2 (Or.inl (in_R h hb)), PC_1 h⟩
  · by_cases b1 : a2 &&& ((bI np - 1) ^^^ (-1)) = 0
    · by_cases b2 : a2 = 0
      · exact ⟨2, 0, σ, _, xo_derive_tC r nr (R_x6 h) (R_nr h) hr a2 np (R_x1 h) (R_np h) b1 b2, mo_derive_g r nr (R_t7 h) (R_nr h) hr a2 (set_t h b1) b2, PC_2 h⟩
      · have hop : (x_open σ np a2 (σ.2 9 r) (σ.1 0) = true ↔ τ.1 1 < m_enf τ.2 a2 (m_subj τ.2 r) (τ.1 1) np) := by rw [R_x0 h, R_t1 h, R_su h r hr]; exact open_iff h.1 (Nat.le_refl _)
        have hpr := R_pr h hr
        by_cases b5 : bt (σ.1 12) r = true
        · by_cases b3 : nr = 30
          · exact ⟨3, 0, σ, _, xo_derive_tE r nr (R_x6 h) (R_nr h) hr a2 np (R_x1 h) (R_np h) b1 b2 b5 (Or.inl b3), mo_derive_h r nr (R_t7 h) (R_nr h) hr a2 np (R_t2 h) (R_np h) (set_t h b1) b2 (Or.inl b3), PC_3 h⟩
          · by_cases b4 : x_open σ np a2 (σ.2 9 r) (σ.1 0) = true
            · refine ⟨0, _, _, _, xo_derive r a2 nr (R_x6 h) (by omega) hr np (R_x1 h) (R_np h) b1 b2 b5 b4, mo_derive r a2 np (R_t2 h) (R_np h) nr (R_t7 h) (by omega) hr (set_t h b1) b2 (hpr.mp b5) (hop.mp b4), ?_⟩
              have hb0 : ¬ bI r = 0 := fun e => by
                have e2 : bt (bI r) r = bt 0 r := by rw [e]
                rw [bt_bI (by omega) (by omega), b_0, decide_eq_true rfl] at e2; cases e2
              have hso : ∀ i, i < 32 → bt (bI r) i = true → i < nr := fun i hi hb => by
                rw [bt_bI (by omega) hi] at hb; have := of_decide_eq_true hb; omega
              refine ⟨rfl, td, np, nr + 1, by omega, RR_lay h (by omega) hso (fun e => absurd e hb0) ?_⟩
              have e9 : ∀ k, (m_lay (s_set τ 0 0) nr (-1) (bI r) a2).2 9 k = upd (τ.2 9) nr (bI r) k := fun k => rfl
              have hsl : SL (τ.2 9) nr := by rw [← (R_rows h).2.2.2.1]; exact R_sl h
              have hcg : m_subj (m_lay (s_set τ 0 0) nr (-1) (bI r) a2).2 r = m_subj τ.2 r := subj_cong (ρ := τ.2) (n := nr) hsl (by omega) (fun k hk => by rw [e9]; exact upd_ne (by omega)) (fun k hk _ => by show upd (τ.2 8) nr (-1) k = _; exact upd_ne (by omega)) r hr
              rw [R_su h r hr, ← hcg]
              apply b_ext
              intro z _
              apply bool_ext
              rw [subj_rec (r := nr) (fun k hk i hi hb => by
                rw [e9] at hb
                by_cases e : k = nr
                · subst e; rw [upd_self] at hb; exact hso i hi hb
                · rw [upd_ne e] at hb; exact hsl k (by omega) i hi hb) (by omega) (by rw [e9, upd_self]; exact hb0), e9, upd_self]
              constructor
              · intro hz; exact ⟨r, hr, by rw [bt_bI (by omega) (by omega), decide_eq_true rfl], hz⟩
              · rintro ⟨i, hi, hb, hz⟩
                rw [bt_bI (by omega) (by omega)] at hb
                rw [of_decide_eq_true hb] at hz; exact hz
            · exact ⟨3, 0, σ, _, xo_derive_tE r nr (R_x6 h) (R_nr h) hr a2 np (R_x1 h) (R_np h) b1 b2 b5 (Or.inr (bl_f b4)), mo_derive_h r nr (R_t7 h) (R_nr h) hr a2 np (R_t2 h) (R_np h) (set_t h b1) b2 (Or.inr (Or.inr (fun z => b4 (hop.mpr z)))), PC_3 h⟩
        · exact ⟨3, 0, σ, _, xo_derive_tD r nr (R_x6 h) (R_nr h) hr a2 np (R_x1 h) (R_np h) b1 b2 (bl_f b5), mo_derive_h r nr (R_t7 h) (R_nr h) hr a2 np (R_t2 h) (R_np h) (set_t h b1) b2 (Or.inr (Or.inl (fun z => b5 (hpr.mpr z)))), PC_3 h⟩
    · exact ⟨1, 0, σ, _, xo_derive_tB r nr (R_x6 h) (R_nr h) hr a2 np (R_x1 h) (R_np h) b1, mo_derive_f (nI r) a2 (Or.inr (set_f h b1)), PC_1 h⟩
end P6
