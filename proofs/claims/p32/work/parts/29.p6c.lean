/-! ===== asking, days, erasing ===== -/
section P8
variable {σ τ : ST} {td np nr : Nat}
theorem RR_st (h : RR σ τ td np nr) {σ' τ' : ST} (hx : ∀ k, ¬ k = 12 → ¬ k = 13 → ¬ k = 14 → σ'.1 k = σ.1 k) (hx2 : σ'.2 = σ.2) (ht : ∀ k, ¬ k = 0 → τ'.1 k = τ.1 k) (ht2 : ∀ k, ¬ k = 12 → τ'.2 k = τ.2 k) (hst : ∀ r, r < nr → RS1 (σ'.1 12) (σ'.1 13) (σ'.1 14) (τ'.2 12) r) (hou : ∀ r, nr ≤ r → r < 32 → bt (σ'.1 12) r = false ∧ bt (σ'.1 13) r = false ∧ bt (σ'.1 14) r = false) : RR σ' τ' td np nr := by
  have R := R_rows h
  have e0 : σ'.1 0 = σ.1 0 := hx 0 (by decide) (by decide) (by decide)
  have e1 : σ'.1 1 = σ.1 1 := hx 1 (by decide) (by decide) (by decide)
  have e3 : σ'.1 3 = σ.1 3 := hx 3 (by decide) (by decide) (by decide)
  have e6 : σ'.1 6 = σ.1 6 := hx 6 (by decide) (by decide) (by decide)
  have es : ∀ r, m_subj τ'.2 r = m_subj τ.2 r := fun r => by unfold m_subj; rw [ht2 9 (by decide), ht2 8 (by decide)]
  unfold RR RO
  rw [hx2, e0, e1, e3, e6, ht 1 (by decide), ht 2 (by decide), ht 7 (by decide), ht2 3 (by decide), ht2 4 (by decide), ht2 5 (by decide), ht2 6 (by decide), ht2 8 (by decide), ht2 9 (by decide), ht2 10 (by decide), ht2 11 (by decide), ht2 13 (by decide), ht2 14 (by decide)]
  exact ⟨h.1, R_t1 h, R_x1 h, R_t2 h, R_x6 h, R_t7 h, R_nr h, R, R_wo h, R_cb h, R_add h, R_sl h, R_rt h, fun r hr => by rw [es]; exact R_su h r hr, hst, hou, R_ho h⟩
theorem ask_bit (h : RR σ τ td np nr) {w w' : Int32} (hw : ∀ i, i < nr → (bt w' i = true ↔ bt w i = true ∧ τ.2 12 i = 0)) {i : Nat} (hi : i < nr) : (bt (x_rq σ w' nr) i = true ↔ τ.2 12 i = 0 ∧ m_M (τ.2 9) (τ.2 12) nr w nr i = true) := by
  have hn := R_nr h
  unfold x_rq
  rw [b_and, Bool.and_eq_true, wab_ex (R_sl h) (by omega) hi, R_pr h hi, m_M_ex nr, (R_rows h).2.2.2.1]
  constructor
  · rintro ⟨⟨r, h1, h2, h3⟩, h4⟩
    have h5 := (hw r h1).mp h2
    exact ⟨h4, r, h1, h5.1, h5.2, h3⟩
  · rintro ⟨h4, r, h1, h2, h5, h3⟩
    exact ⟨⟨r, h1, (hw r h1).mpr ⟨h2, h5⟩, h3⟩, h4⟩
theorem ask_out (h : RR σ τ td np nr) {w' : Int32} {i : Nat} (hi : nr ≤ i) (h32 : i < 32) : bt (x_rq σ w' nr) i = false := by
  unfold x_rq
  rw [b_and, (R_ou h i hi h32).1, Bool.and_false]
theorem RR_ask (h : RR σ τ td np nr) {w w' : Int32} (hw : ∀ i, i < nr → (bt w' i = true ↔ bt w i = true ∧ τ.2 12 i = 0)) : RR (x_req σ w' nr) (m_paS nr w τ nr) td np nr ∧ x_pop (x_rq σ w' nr) = m_paC nr w τ nr := by
  have hn := R_nr h
  have hs9 : SL (τ.2 9) nr := by rw [← (R_rows h).2.2.2.1]; exact R_sl h
  have e12 : (x_req σ w' nr).1 12 = σ.1 12 &&& (x_rq σ w' nr ^^^ (-1)) := rfl
  have e13 : (x_req σ w' nr).1 13 = σ.1 13 ||| x_rq σ w' nr := rfl
  have e14 : (x_req σ w' nr).1 14 = σ.1 14 := rfl
  constructor
  · refine RR_st h (fun k h1 h2 h3 => ?_) rfl (fun k _ => by rw [m_pa_1]) (fun k hk => m_pa_row hk nr) (fun i hi => ?_) (fun i hi h32 => ?_)
    · show (if k = 13 then _ else if k = 12 then _ else _) = _
      rw [if_neg h2, if_neg h1]
    · rw [e12, e13, e14]
      have hb := ask_bit h hw hi
      have hst := m_pa_st (σ := τ) (w := w) hs9 hn nr (Nat.le_refl _) i hi
      unfold RS1
      rw [b_and, bt_not (by omega), b_or, hst]
      by_cases c : bt (x_rq σ w' nr) i = true
      · have c2 := hb.mp c
        rw [if_pos c2, c]
        rcases R_st h i hi with g | g | g
        · rw [g.2.1, g.2.2.1, g.2.2.2]; exact Or.inr (Or.inl ⟨rfl, rfl, rfl, rfl⟩)
        · rw [g.1] at c2; exact absurd c2.1 (by decide)
        · rw [g.1] at c2; exact absurd c2.1 (by decide)
      · rw [if_neg (fun g => c (hb.mpr g)), bl_f c, Bool.or_false, Bool.not_false, Bool.and_true]
        exact R_st h i hi
    · rw [e12, e13, e14, b_and, b_or, ask_out h hi h32, (R_ou h i hi h32).1, (R_ou h i hi h32).2.1, (R_ou h i hi h32).2.2]
      exact ⟨rfl, rfl, rfl⟩
  · rw [x_pop_ct, m_pa_ct hs9 hn nr (Nat.le_refl _), ct_top (m := nr) 32 (by omega) (fun k h1 h2 => ask_out h h1 h2)]
    congr 1
    refine ct_cong nr (fun i hi => bool_ext ?_)
    rw [ask_bit h hw hi, Bool.and_eq_true, decide_eq_true_eq]
theorem rq_pa {j : Nat} {w : Int32} (hw : ∀ i, i < nr → (bt w i = true ↔ bt (m_subj τ.2 i) j = true)) : ∀ k, k ≤ nr → m_rqS nr j τ k = m_paS nr w τ k ∧ m_rqC nr j τ k = m_paC nr w τ k
  | 0, _ => ⟨rfl, rfl⟩
  | k + 1, hk => by
    have ih := rq_pa hw k (by omega)
    have es : m_subj (m_paS nr w τ k).2 k = m_subj τ.2 k := by unfold m_subj; rw [m_pa_row (j := 9) (by decide), m_pa_row (j := 8) (by decide)]
    refine ⟨?_, ?_⟩
    · rw [m_rqS, m_paS, ih.1, es]
      by_cases c : bt w k = true
      · rw [if_pos c, if_pos ((hw k (by omega)).mp c)]
      · rw [if_neg c, if_neg (fun g => c ((hw k (by omega)).mpr g))]
    · rw [m_rqC, m_paC, ih.1, ih.2, es]
      by_cases c : bt w k = true
      · rw [if_pos c, if_pos ((hw k (by omega)).mp c)]
      · rw [if_neg c, if_neg (fun g => c ((hw k (by omega)).mpr g))]
theorem P_request (h : RR σ τ td np nr) (a1 : Int32) : ∃ (code : Nat) (val : Int32) (σ' τ' : ST), x_out_request σ a1 code val σ' ∧ m_out_request τ a1 val τ' ∧ PC td σ' τ' code := by
  have h30 := R_nr h
  rcases ix2 a1 (n := 12) (by decide) with hb | ⟨j, hj, rfl⟩
  · exact ⟨1, 0, σ, _, xo_request_t a1 hb, mo_request_f a1 (in_S hb), PC_1 h⟩
  · have h0 := RR_thr h 0
    have hA := RR_ask h0 (w := x_rof (σ.2 9) j nr) (w' := x_rof (σ.2 9) j nr &&& σ.1 12) (fun i hi => by rw [b_and, Bool.and_eq_true, R_pr h0 hi])
    have hq := rq_pa (τ := s_set τ 0 0) (nr := nr) (j := j) (w := x_rof (σ.2 9) j nr) (fun i hi => by rw [rof_bits (by omega) nr (by omega), R_su h0 i hi]; exact ⟨fun g => g.2, fun g => ⟨hi, g⟩⟩) nr (Nat.le_refl _)
    refine ⟨0, _, _, _, xo_request j hj nr (R_x6 h) h30, by rw [hA.2, ← hq.2]; exact mo_request j hj nr (R_t7 h) h30, by rw [m_rq_1]; rfl, td, np, nr, by omega, ?_⟩
    rw [hq.1]; exact hA.1
theorem due_st {ρ : RW} {t : Int32} {np i : Nat} (hi : i < 32) : ∀ n, n ≤ 32 → bt (m_due ρ t np n) i = true → ρ 12 i = 0
  | 0, _, h => by rw [m_due, b_0] at h; cases h
  | n + 1, hn, h => by
    rw [m_due] at h
    by_cases c : ρ 12 n = 0 ∧ ¬ t < m_end ρ np n
    · rw [if_pos c, b_or, Bool.or_eq_true, bt_bI (by omega) hi, decide_eq_true_eq] at h
      rcases h with h | h
      · exact due_st hi n (by omega) h
      · subst h; exact c.1
    · rw [if_neg c] at h; exact due_st hi n (by omega) h
theorem in_D_f {v : Int32} (h : v < 1 ∨ ¬ v ≤ 1000) : m_in v 1 1000 = false := by
  rcases h with h | h
  · rw [m_in, decide_eq_f (fun h2 => h2 h)]; rfl
  · rw [m_in, decide_eq_f (q := ¬ (1000 : Int32) < v) (fun h2 => h2 (Int32.not_le.mp h)), Bool.and_false]
theorem in_D_t {v : Int32} (h1 : ¬ v < 1) (h2 : v ≤ 1000) : m_in v 1 1000 = true := by
  rw [m_in, decide_eq_true h1, decide_eq_true (p := ¬ (1000 : Int32) < v) (Int32.not_lt.mpr h2)]; rfl
theorem RR_days (h : RR σ τ td np nr) (htd : td ≤ 999000) {d : Nat} (hd : d ≤ 1000) : RR (s_set (x_cdA σ np (nI d)) 0 (σ.1 0 + nI d)) (s_set (m_pdS (s_set τ 0 0) (nI d) 96) 1 (τ.1 1 + nI d)) (td + d) np nr := by
  have R := R_rows h
  have e0 : σ.1 0 + nI d = nI (td + d) := by rw [R_x0 h, nI_add]
  have e1 : τ.1 1 + nI d = nI (td + d) := by rw [R_t1 h, nI_add]
  have e5 : (fun i => if (i / 8 < 12 ∨ (i / 8 = 12 ∧ i % 8 < 0)) ∧ i % 8 < np ∧ bt (σ.2 4 (i / 8)) (i % 8) = true then σ.2 5 i + nI d else σ.2 5 i) = (fun i => if i < 96 ∧ bt (τ.2 5 (i / 8)) (i % 8) = true then τ.2 6 i + nI d else τ.2 6 i) := by
    funext i
    rw [R.1, R_e4 h]
    by_cases c : i < 96 ∧ bt (τ.2 5 (i / 8)) (i % 8) = true
    · have hq : i % 8 < np := by
        rcases Nat.lt_or_ge (i % 8) np with g | g
        · exact g
        · have := R_cb h (i / 8) (by omega) (i % 8) g (by omega)
          rw [R_e4 h, c.2] at this; cases this
      rw [if_pos c, if_pos ⟨Or.inl (by omega), hq, c.2⟩]
    · rw [if_neg c, if_neg (fun g => c ⟨by omega, g.2.2⟩)]
  refine ⟨⟨e0, (R_e4 h :), (R_e2 h :), (R_np h :), by omega, h.1.2.2.2.2.2.1, h.1.2.2.2.2.2.2⟩, e1, (R_x1 h :), (R_t2 h :), (R_x6 h :), (R_t7 h :), (R_nr h :), ⟨e5, R.2.1, R.2.2.1, R.2.2.2.1, R.2.2.2.2.1, R.2.2.2.2.2⟩, (R_wo h :), (R_cb h :), ?_, (R_sl h :), (R_rt h :), (R_su h :), (R_st h :), (R_ou h :), (R_ho h :)⟩
  intro r hr
  obtain ⟨a, h1, h2⟩ := R_add h r hr
  exact ⟨a, by omega, h2⟩
theorem P_passDays (h : RR σ τ td np nr) (htd : td ≤ 999000) (a1 : Int32) : ∃ (code : Nat) (val : Int32) (σ' τ' : ST), x_out_passDays σ a1 code val σ' ∧ m_out_passDays τ a1 val τ' ∧ PC td σ' τ' code := by
  have h30 := R_nr h
  by_cases b1 : a1 < 1
  · exact ⟨1, 0, σ, _, xo_passDays_t a1 (Or.inl b1), mo_passDays_f a1 (in_D_f (Or.inl b1)), PC_1 h⟩
  · by_cases b2 : a1 ≤ 1000
    · have b3 : (1 : Int32) ≤ a1 := Int32.not_lt.mp b1
      obtain ⟨d, hd, rfl⟩ := nI_of2 (M := 1000) (n := 1000) (by decide) (fun g => b1 (Int32.lt_of_lt_of_le g (by decide))) b2
      have hR := RR_days h htd (d := d) (by omega)
      have hd2 := due_eq hR nr (Nat.le_refl _)
      have hA := RR_ask hR (w := x_due (s_set (x_cdA σ np (nI d)) 0 (σ.1 0 + nI d)) np nr) (w' := x_due (s_set (x_cdA σ np (nI d)) 0 (σ.1 0 + nI d)) np nr) (fun i hi => ⟨fun g => ⟨g, due_st (by omega) nr (by omega) (by rw [← hd2]; exact g)⟩, fun g => g.1⟩)
      refine ⟨0, _, _, _, xo_passDays (nI d) b3 b2 np (R_x1 h) (R_np h) nr (R_x6 h) h30, by rw [hA.2, hd2]; exact mo_passDays (nI d) (in_D_t b1 b2) np (R_t2 h) (R_np h) nr (R_t7 h) h30, by rw [m_pa_1]; rfl, td + d, np, nr, by omega, ?_⟩
      have hA1 := hA.1
      rw [hd2] at hA1 ⊢
      exact hA1
    · exact ⟨1, 0, σ, _, xo_passDays_t a1 (Or.inr b2), mo_passDays_f a1 (in_D_f (Or.inr b2)), PC_1 h⟩
theorem kept_R (h : RR σ τ td np nr) {r : Nat} (hr : r < nr) : x_kept σ nr r = m_kept τ.2 nr r := kept_eq (R_sl h) (R_nr h) hr (R_st h) (R_rows h).2.2.2.1 (R_rows h).2.2.2.2.2
theorem find_eq (h : RR σ τ td np nr) : ∀ n, n ≤ nr → x_find σ nr n = m_fo τ.2 nr n
  | 0, _ => rfl
  | n + 1, hn => by rw [x_find, m_fo, find_eq h n (by omega), kept_R h (by omega)]
theorem find_kept {j : Nat} : ∀ n, x_find σ nr n = some j → j < n ∧ x_kept σ nr j = 0
  | 0, h => by cases h
  | n + 1, h => by
    rw [x_find] at h
    by_cases c : x_kept σ nr n = 0
    · rw [if_pos c] at h; cases h; exact ⟨by omega, c⟩
    · rw [if_neg c] at h
      have := find_kept n h
      exact ⟨by omega, this.2⟩
theorem mv_12 {j : Nat} : (x_mv σ j).1 12 = σ.1 12 := rfl
theorem mv_14 {j : Nat} : (x_mv σ j).1 14 = σ.1 14 ||| bI j := rfl
theorem kept_st (h : RR σ τ td np nr) {j : Nat} (hj : j < nr) (hk : x_kept σ nr j = 0) : τ.2 12 j = 1 ∧ bt (σ.1 12) j = false ∧ bt (σ.1 13) j = true ∧ bt (σ.1 14) j = false := by
  unfold x_kept at hk
  rcases R_st h j hj with g | g | g
  · rw [g.2.2.2, if_neg (by decide), g.2.1, if_pos rfl] at hk; exact absurd hk (by decide)
  · exact g
  · rw [g.2.2.2, if_pos rfl] at hk; exact absurd hk (by decide)
theorem RR_mv (h : RR σ τ td np nr) {j : Nat} (hj : j < nr) (hk : x_kept σ nr j = 0) : RR (x_mv σ j) (s_put τ 12 j 2) td np nr := by
  have hn := R_nr h
  have g0 := kept_st h hj hk
  have e13 : (x_mv σ j).1 13 = σ.1 13 &&& (bI j ^^^ (-1)) := rfl
  have eτ : (s_put τ 12 j 2).2 12 = upd (τ.2 12) j 2 := rfl
  refine RR_st h (fun k _ h2 h3 => ?_) rfl (fun k _ => rfl) (fun k hk => ?_) (fun i hi => ?_) (fun i hi h32 => ?_)
  · show (if k = 14 then _ else if k = 13 then _ else _) = _
    rw [if_neg h3, if_neg h2]
  · show (if k = 12 then _ else _) = _
    rw [if_neg hk]
  · rw [mv_12, e13, mv_14, eτ]
    unfold RS1
    rw [b_and, bt_not (by omega), b_or, bt_bI (by omega) (by omega)]
    by_cases c : i = j
    · subst c
      rw [upd_self, g0.2.1, g0.2.2.1, g0.2.2.2, decide_eq_true rfl]
      exact Or.inr (Or.inr ⟨rfl, rfl, rfl, rfl⟩)
    · rw [upd_ne c, decide_eq_false c, Bool.or_false, Bool.not_false, Bool.and_true]
      exact R_st h i hi
  · rw [mv_12, e13, mv_14, b_and, b_or, bt_bI (by omega) h32, (R_ou h i hi h32).1, (R_ou h i hi h32).2.1, (R_ou h i hi h32).2.2, decide_eq_false (by omega)]
    exact ⟨rfl, rfl, rfl⟩
/-- what could not be erased above k still cannot, once k is -/
theorem kept_mv (h : RR σ τ td np nr) {k i : Nat} (hi : i < nr) (hki : k ≤ i) (h0 : ¬ i = k → ¬ x_kept σ nr i = 0) : ¬ x_kept (x_mv σ k) nr i = 0 := by
  have hn := R_nr h
  by_cases c : i = k
  · subst c
    unfold x_kept
    rw [mv_14, b_or, bt_bI (by omega) (by omega), decide_eq_true rfl, Bool.or_true, if_pos rfl]
    decide
  · have hs := h0 c
    have e15 : (x_mv σ k).2 15 = σ.2 15 := rfl
    have eb : x_bel (x_mv σ k) nr i = x_bel σ nr i := rfl
    have ea : x_bel σ nr i &&& ((σ.1 14 ||| bI k) ^^^ (-1)) = x_bel σ nr i &&& (σ.1 14 ^^^ (-1)) := by
      apply b_ext
      intro z hz
      rw [b_and, b_and, bt_not hz, bt_not hz, b_or, bt_bI (by omega) hz]
      by_cases e : z = k
      · subst e
        have : bt (x_bel σ nr i) z = false := bl_f (fun g => by
          rw [bel_eq (R_sl h) hn hi] at g
          have := m_belk_bit hz nr (by omega) g; omega)
        rw [this]; rfl
      · rw [decide_eq_false e, Bool.or_false]
    unfold x_kept at hs ⊢
    rw [mv_14, mv_12, e15, eb, ea, b_or, bt_bI (by omega) (by omega), decide_eq_false c, Bool.or_false]
    exact hs
theorem fo_none {ρ : RW} : ∀ n, (∀ i, i < n → ¬ m_kept ρ nr i = 0) → m_fo ρ nr n = none
  | 0, _ => rfl
  | n + 1, h => by rw [m_fo, if_neg (h n (by omega))]; exact fo_none n (fun i hi => h i (by omega))
theorem fo_some {ρ : RW} {k : Nat} (hk : m_kept ρ nr k = 0) : ∀ n, k < n → (∀ i, k < i → i < n → ¬ m_kept ρ nr i = 0) → m_fo ρ nr n = some k
  | 0, h, _ => absurd h (by omega)
  | n + 1, h, h2 => by
    rw [m_fo]
    by_cases c : n = k
    · subst c; rw [if_pos hk]
    · rw [if_neg (h2 n (by omega) (by omega))]; exact fo_some hk n (by omega) (fun i h3 h4 => h2 i h3 (by omega))
theorem ea_all : ∀ (k : Nat) (σ τ : ST) (c : Int32), RR σ τ td np nr → k ≤ nr → (∀ i, k ≤ i → i < nr → ¬ x_kept σ nr i = 0) → ∃ (fuel : Nat) (τ' : ST), m_eaR nr fuel τ c = some (τ', x_eaC nr k σ c) ∧ RR (x_eaS nr k σ) τ' td np nr ∧ τ'.1 = τ.1
  | 0, σ, τ, c, h, _, hz => by
    refine ⟨1, τ, ?_, h, rfl⟩
    rw [m_eaR, fo_none nr (fun i hi => by rw [← kept_R h hi]; exact hz i (by omega) hi)]
    rfl
  | k + 1, σ, τ, c, h, hk, hz => by
    rw [x_eaC, x_eaS]
    by_cases b : x_kept σ nr k = 0
    · rw [if_pos b, if_pos b]
      have hR := RR_mv h (by omega) b
      obtain ⟨fuel, τ', h1, h2, h3⟩ := ea_all k (x_mv σ k) (s_put τ 12 k 2) (c + 1) hR (by omega) (fun i hki hi => kept_mv h hi hki (fun hne => hz i (by omega) hi))
      refine ⟨fuel + 1, τ', ?_, h2, h3⟩
      rw [m_eaR, fo_some (k := k) (by rw [← kept_R h (by omega)]; exact b) nr (by omega) (fun i h4 h5 => by rw [← kept_R h h5]; exact hz i (by omega) h5)]
      exact h1
    · rw [if_neg b, if_neg b]
      exact ea_all k σ τ c h (by omega) (fun i hki hi => by
        by_cases e : i = k
        · subst e; exact b
        · exact hz i (by omega) hi)
end P8
