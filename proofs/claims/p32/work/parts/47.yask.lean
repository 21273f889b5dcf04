/-! ===== asking for all of a set, upwards ===== -/
def y_ask (nr : Nat) (w : Nat → Bool) (σ : ST) : Nat → ST
  | 0 => σ
  | k + 1 => if (y_ask nr w σ k).2 6 k = 0 ∧ w k = true then y_stS (y_ask nr w σ k) ((y_ask nr w σ k).2 3 k ||| bI k) nr else y_ask nr w σ k
def y_askC (nr : Nat) (w : Nat → Bool) (σ : ST) : Nat → Int32
  | 0 => 0
  | k + 1 => if (y_ask nr w σ k).2 6 k = 0 ∧ w k = true then y_askC nr w σ k + m_cn ((y_ask nr w σ k).2 6) ((y_ask nr w σ k).2 3 k ||| bI k) nr else y_askC nr w σ k
theorem y_ask_row {nr : Nat} {w : Nat → Bool} {σ : ST} {j : Nat} (hj : ¬ j = 6) : ∀ k, (y_ask nr w σ k).2 j = σ.2 j
  | 0 => rfl
  | k + 1 => by
    rw [y_ask]
    by_cases c : (y_ask nr w σ k).2 6 k = 0 ∧ w k = true
    · rw [if_pos c, y_st_row hj, y_ask_row hj k]
    · rw [if_neg c, y_ask_row hj k]
theorem y_ask_0 {nr : Nat} {w : Nat → Bool} {σ : ST} {i : Nat} : ∀ k, (y_ask nr w σ k).2 6 i = 0 → σ.2 6 i = 0
  | 0, h => h
  | k + 1, h => by
    rw [y_ask] at h
    by_cases c : (y_ask nr w σ k).2 6 k = 0 ∧ w k = true
    · rw [if_pos c, y_st_i] at h
      by_cases d : i < nr ∧ bt ((y_ask nr w σ k).2 3 k ||| bI k) i = true ∧ (y_ask nr w σ k).2 6 i = 0
      · rw [if_pos d] at h; exact absurd h (by decide)
      · rw [if_neg d] at h; exact y_ask_0 k h
    · rw [if_neg c] at h; exact y_ask_0 k h
theorem y_ask_out {nr : Nat} {w : Nat → Bool} {σ : ST} {i : Nat} (hi : nr ≤ i) : ∀ k, (y_ask nr w σ k).2 6 i = σ.2 6 i
  | 0 => rfl
  | k + 1 => by
    rw [y_ask]
    by_cases c : (y_ask nr w σ k).2 6 k = 0 ∧ w k = true
    · rw [if_pos c, y_st_i, if_neg (fun g => by omega), y_ask_out hi k]
    · rw [if_neg c, y_ask_out hi k]
theorem m_cn_cong {st st' : Nat → Int32} {w : Int32} : ∀ n, (∀ i, i < n → st i = st' i) → m_cn st w n = m_cn st' w n
  | 0, _ => rfl
  | n + 1, h => by rw [m_cn, m_cn, m_cn_cong n (fun i hi => h i (by omega)), h n (by omega)]
theorem m_cn_zero {st : Nat → Int32} : ∀ n, m_cn st 0 n = 0
  | 0 => rfl
  | n + 1 => by rw [m_cn, if_neg (fun c => by rw [b_0] at c; cases c.1), m_cn_zero n]
theorem m_st_row12 {σ : ST} {w : Int32} {n i : Nat} : (m_stS σ w n).2 12 i = if i < n ∧ bt w i = true ∧ σ.2 12 i = 0 then 1 else σ.2 12 i := rfl
theorem y_opf_cong {ρ ρ' : RW} {w of a : Int32} (h0 : ρ 0 = ρ' 0) (h1 : ρ 1 = ρ' 1) : ∀ n, y_opf ρ w of a n = y_opf ρ' w of a n
  | 0 => rfl
  | n + 1 => by rw [y_opf, y_opf, y_opf_cong h0 h1 n, h0, h1]
theorem x_any_ex {σ : ST} {w a : Int32} : ∀ n, x_any σ w a n = true → ∃ k, k < n ∧ bt w k = true ∧ x_ret σ k a = true
  | 0, h => by cases h
  | n + 1, h => by
    rw [x_any, Bool.or_eq_true, Bool.and_eq_true] at h
    rcases h with h | h
    · obtain ⟨k, h1, h2⟩ := x_any_ex n h
      exact ⟨k, by omega, h2⟩
    · exact ⟨n, by omega, h.1, h.2⟩
theorem x_any_cong {σ σ' : ST} {w a : Int32} (h0 : σ.1 0 = σ'.1 0) (h2 : σ.2 2 = σ'.2 2) : ∀ n, x_any σ w a n = x_any σ' w a n
  | 0 => rfl
  | n + 1 => by rw [x_any, x_any, x_any_cong h0 h2 n, x_ret, x_ret, h0, h2]
theorem x_open_cong {σ σ' : ST} {np : Nat} {P sub a : Int32} (h0 : σ.1 0 = σ'.1 0) (h3 : σ.1 3 = σ'.1 3) (h2 : σ.2 2 = σ'.2 2) (h4 : σ.2 4 = σ'.2 4) : x_open σ np P sub a = x_open σ' np P sub a := by
  unfold x_open x_alw
  rw [h3, h4, x_any_cong h0 h2]
theorem due_bits {σ : ST} {np i : Nat} (hi : i < 32) : ∀ n, n ≤ 32 → (bt (x_due σ np n) i = true ↔ i < n ∧ bt (σ.1 12) i = true ∧ x_open σ np (σ.2 8 i) (σ.2 9 i) (σ.2 7 i) = false)
  | 0, _ => by rw [x_due, b_0]; exact ⟨fun h => (by cases h), fun h => absurd h.1 (by omega)⟩
  | n + 1, hn => by
    rw [x_due]
    by_cases c : bt (σ.1 12) n = true ∧ x_open σ np (σ.2 8 n) (σ.2 9 n) (σ.2 7 n) = false
    · rw [if_pos c, b_or, Bool.or_eq_true, due_bits hi n (by omega), bt_bI (by omega) hi, decide_eq_true_eq]
      constructor
      · rintro (g | g)
        · exact ⟨by omega, g.2⟩
        · subst g; exact ⟨by omega, c⟩
      · rintro ⟨g1, g2⟩
        by_cases e : i = n
        · exact Or.inr e
        · exact Or.inl ⟨by omega, g2⟩
    · rw [if_neg c, due_bits hi n (by omega)]
      constructor
      · rintro ⟨g1, g2⟩; exact ⟨by omega, g2⟩
      · rintro ⟨g1, g2⟩
        by_cases e : i = n
        · subst e; exact absurd g2 c
        · exact ⟨by omega, g2⟩
section Y4
variable {σ μ τ : ST} {υ : Nat → Int64} {td np nr T : Nat}
theorem ask_m (hR : RR σ μ td np nr) (h : YY μ τ υ td np nr T) {w : Nat → Bool} {W : Int32} (hw : ∀ k, k < nr → bt W k = w k) : ∀ k, k ≤ nr → (∀ i, i < nr → (y_ask nr w τ k).2 6 i = (m_paS nr W μ k).2 12 i) ∧ y_askC nr w τ k = m_paC nr W μ k
  | 0, _ => ⟨fun i hi => Y_t h hi, rfl⟩
  | k + 1, hk => by
    have ih := ask_m hR h hw k (by omega)
    have hk2 : k < nr := by omega
    have e3 : (y_ask nr w τ k).2 3 k = m_belk (μ.2 9) k nr := by rw [y_ask_row (by decide), Y_l h hk2]
    have e9 : (m_paS nr W μ k).2 9 = μ.2 9 := m_pa_row (by decide) k
    rw [y_ask, y_askC, m_paS, m_paC, hw k hk2, e3, ih.1 k hk2]
    by_cases c : w k = true
    · rw [if_pos c, if_pos c]
      unfold m_asS m_asC m_aw
      rw [e9]
      by_cases d : (m_paS nr W μ k).2 12 k = 0
      · rw [if_pos (c := (m_paS nr W μ k).2 12 k = 0 ∧ w k = true) ⟨d, c⟩, if_pos (c := (m_paS nr W μ k).2 12 k = 0 ∧ w k = true) ⟨d, c⟩, if_pos d]
        refine ⟨fun i hi => ?_, ?_⟩
        · rw [y_st_i, m_st_row12, ih.1 i hi]
        · rw [ih.2, m_cn_cong nr (fun i hi => ih.1 i hi)]
      · rw [if_neg (c := (m_paS nr W μ k).2 12 k = 0 ∧ w k = true) (fun g => d g.1), if_neg (c := (m_paS nr W μ k).2 12 k = 0 ∧ w k = true) (fun g => d g.1), if_neg d]
        refine ⟨fun i hi => ?_, ?_⟩
        · rw [m_st_row12, if_neg (fun g => by rw [b_0] at g; cases g.2.1)]; exact ih.1 i hi
        · rw [m_cn_zero, ih.2]; exact (Int32.add_zero _).symm
    · rw [if_neg (c := (m_paS nr W μ k).2 12 k = 0 ∧ w k = true) (fun g => c g.2), if_neg (c := (m_paS nr W μ k).2 12 k = 0 ∧ w k = true) (fun g => c g.2), if_neg c, if_neg c]
      exact ih
theorem Y_ask (hR : RR σ μ td np nr) (h : YY μ τ υ td np nr T) {w : Nat → Bool} {W : Int32} (hw : ∀ k, k < nr → bt W k = w k) : YY (m_paS nr W μ nr) (y_ask nr w τ nr) υ td np nr T := by
  have hn := R_nr hR
  have em : ∀ j, ¬ j = 12 → (m_paS nr W μ nr).2 j = μ.2 j := fun j hj => m_pa_row hj nr
  have ey : ∀ j, ¬ j = 6 → (y_ask nr w τ nr).2 j = τ.2 j := fun j hj => y_ask_row hj nr
  have es : ∀ k, m_subj (m_paS nr W μ nr).2 k = m_subj μ.2 k := fun k => by unfold m_subj; rw [em 9 (by decide), em 8 (by decide)]
  have hm := (ask_m hR h hw nr (Nat.le_refl _)).1
  unfold YY
  rw [em 3 (by decide), em 4 (by decide), em 5 (by decide), em 6 (by decide), em 9 (by decide), em 10 (by decide), em 11 (by decide), em 13 (by decide), em 14 (by decide), ey 0 (by decide), ey 1 (by decide), ey 2 (by decide), ey 3 (by decide), ey 4 (by decide), ey 5 (by decide), ey 7 (by decide), ey 8 (by decide)]
  refine ⟨h.1, h.2.1, h.2.2.1, fun k hk => ?_, fun k hk h30 => ?_, h.2.2.2.2.2.1, fun k hk => ?_, h.2.2.2.2.2.2.2.1, Y_T h⟩
  · rw [es, hm k hk, y_ask_out (i := 30 + k) (by omega)]
    have hkk := h.2.2.2.1 k hk
    exact ⟨hkk.1, hkk.2.1, hkk.2.2.1, hkk.2.2.2.1, rfl, hkk.2.2.2.2.2.1, hkk.2.2.2.2.2.2⟩
  · rw [y_ask_out hk]; exact Y_z h hk h30
  · rw [es]; exact Y_s h hk
theorem S_req (hR : RR σ μ td np nr) (h : YY μ τ υ td np nr T) {j : Nat} (hj : j < 12) : ∃ μ' : ST, RR (x_req σ (x_rof (σ.2 9) j nr &&& σ.1 12) nr) μ' td np nr ∧ YY μ' (y_ask nr (fun k => bt (τ.2 2 k) j) τ nr) υ td np nr T ∧ y_askC nr (fun k => bt (τ.2 2 k) j) τ nr = x_pop (x_rq σ (x_rof (σ.2 9) j nr &&& σ.1 12) nr) := by
  have hn := R_nr hR
  have hw : ∀ k, k < nr → bt (x_rof (σ.2 9) j nr) k = bt (τ.2 2 k) j := fun k hk => bool_ext (by
    rw [rof_bits (by omega) nr (by omega), R_su hR k hk, Y_r h hk]
    exact ⟨fun g => g.2, fun g => ⟨hk, g⟩⟩)
  have hA := RR_ask hR (w := x_rof (σ.2 9) j nr) (w' := x_rof (σ.2 9) j nr &&& σ.1 12) (fun i hi => by rw [b_and, Bool.and_eq_true, R_pr hR hi])
  exact ⟨_, hA.1, Y_ask hR h hw, ((ask_m hR h hw nr (Nat.le_refl _)).2).trans hA.2.symm⟩
/-! ===== days ===== -/
theorem Y_day (h : YY μ τ υ td np nr T) : YY (s_set (m_pdS (s_set μ 0 0) (nI 1) 96) 1 (μ.1 1 + nI 1)) (y_day τ) υ (td + 1) np nr T := by
  refine ⟨⟨?_, ?_, ?_⟩, h.2.1, h.2.2.1, h.2.2.2.1, h.2.2.2.2.1, fun i hi => ?_, h.2.2.2.2.2.2.1, h.2.2.2.2.2.2.2.1, Y_T h⟩
  · rw [y_day_0, Y_q0 h, nI_1]
  · rw [y_day_q (by decide)]; exact Y_q1 h
  · rw [y_day_q (by decide)]; exact Y_q2 h
  · show (if i < 48 ∧ bt (τ.2 1 (16 + i / 8)) (i % 8) = true then τ.2 8 i + 1 else τ.2 8 i) = (if i < 96 ∧ bt (μ.2 5 (i / 8)) (i % 8) = true then μ.2 6 i + nI 1 else μ.2 6 i)
    rw [Y_c h (show i / 8 < 6 by omega), Y_d h hi]
    by_cases c : bt (μ.2 5 (i / 8)) (i % 8) = true
    · rw [if_pos ⟨hi, c⟩, if_pos ⟨by omega, c⟩]; rfl
    · rw [if_neg (fun g => c g.2), if_neg (fun g => c g.2)]
theorem y_pa_ask {w : Nat → Bool} (hw : ∀ k, k < nr → τ.2 6 k = 0 → (w k = true ↔ y_opf τ.2 (τ.2 4 k) (τ.2 2 k) (τ.2 5 k) np = false)) : ∀ k, k ≤ nr → y_pa nr np τ k = y_ask nr w τ k ∧ y_pc nr np τ k = y_askC nr w τ k
  | 0, _ => ⟨rfl, rfl⟩
  | k + 1, hk => by
    have ih := y_pa_ask hw k (by omega)
    have e : ((y_ask nr w τ k).2 6 k = 0 ∧ y_opf (y_ask nr w τ k).2 ((y_ask nr w τ k).2 4 k) ((y_ask nr w τ k).2 2 k) ((y_ask nr w τ k).2 5 k) np = false) ↔ ((y_ask nr w τ k).2 6 k = 0 ∧ w k = true) := by
      rw [y_opf_cong (ρ' := τ.2) (y_ask_row (by decide) k) (y_ask_row (by decide) k), y_ask_row (j := 4) (by decide), y_ask_row (j := 2) (by decide), y_ask_row (j := 5) (by decide)]
      exact ⟨fun g => ⟨g.1, (hw k (by omega) (y_ask_0 k g.1)).mpr g.2⟩, fun g => ⟨g.1, (hw k (by omega) (y_ask_0 k g.1)).mp g.2⟩⟩
    rw [y_pa, y_pc, y_ask, y_askC, ih.1, ih.2]
    by_cases c : (y_ask nr w τ k).2 6 k = 0 ∧ w k = true
    · rw [if_pos c, if_pos c, if_pos (e.mpr c), if_pos (e.mpr c)]; exact ⟨rfl, rfl⟩
    · rw [if_neg c, if_neg c, if_neg (fun g => c (e.mp g)), if_neg (fun g => c (e.mp g))]; exact ⟨rfl, rfl⟩
def x_dS (σ : ST) (np : Nat) (dd : Int32) : ST := s_set (x_cdA σ np dd) 0 (σ.1 0 + dd)
def x_dX (σ : ST) (np nr : Nat) (dd : Int32) : ST := x_req (x_dS σ np dd) (x_due (x_dS σ np dd) np nr) nr
def x_dQ (σ : ST) (np nr : Nat) (dd : Int32) : Int32 := x_rq (x_dS σ np dd) (x_due (x_dS σ np dd) np nr) nr
theorem S_day1 (hR : RR σ μ td np nr) (h : YY μ τ υ td np nr T) (htd : td ≤ 999000) : ∃ μ' : ST, RR (x_dX σ np nr (nI 1)) μ' (td + 1) np nr ∧ YY μ' (y_pa nr np (y_day τ) nr) υ (td + 1) np nr T ∧ y_pc nr np (y_day τ) nr = x_pop (x_dQ σ np nr (nI 1)) := by
  have hn := R_nr hR
  have hD := RR_days hR htd (d := 1) (by decide)
  have hY := Y_day h
  have hw : ∀ k, k < nr → (y_day τ).2 6 k = 0 → (bt (x_due (x_dS σ np (nI 1)) np nr) k = true ↔ y_opf (y_day τ).2 ((y_day τ).2 4 k) ((y_day τ).2 2 k) ((y_day τ).2 5 k) np = false) := fun k hk h0 => by
    have R := R_rows hD
    have e : y_opf (y_day τ).2 ((y_day τ).2 4 k) ((y_day τ).2 2 k) ((y_day τ).2 5 k) np = x_open (x_dS σ np (nI 1)) np ((x_dS σ np (nI 1)).2 8 k) ((x_dS σ np (nI 1)).2 9 k) ((x_dS σ np (nI 1)).2 7 k) := by
      rw [Y_open hD hY (by rw [Y_r hY hk]; exact Y_s hY hk), Y_g hY hk, Y_r hY hk, Y_a hY hk]
      show _ = x_open (s_set (x_cdA σ np (nI 1)) 0 (σ.1 0 + nI 1)) np _ _ _
      rw [← R.2.2.1, ← R.2.1, ← R_su hD k hk]; rfl
    rw [due_bits (by omega) nr (by omega), e]
    exact ⟨fun g => g.2.2, fun g => ⟨hk, (Y_pr hD hY hk).mpr h0, g⟩⟩
  have hp := y_pa_ask hw nr (Nat.le_refl _)
  have hA := RR_ask hD (w := x_due (x_dS σ np (nI 1)) np nr) (w' := x_due (x_dS σ np (nI 1)) np nr) (fun i hi => ⟨fun g => ⟨g, (R_pr hD hi).mp ((due_bits (by omega) nr (by omega)).mp g).2.1⟩, fun g => g.1⟩)
  have hK := Y_ask hD hY (w := fun k => bt (x_due (x_dS σ np (nI 1)) np nr) k) (W := x_due (x_dS σ np (nI 1)) np nr) (fun k _ => rfl)
  rw [hp.1, hp.2]
  exact ⟨_, hA.1, hK, (ask_m hD hY (w := fun k => bt (x_due (x_dS σ np (nI 1)) np nr) k) (fun k _ => rfl) nr (Nat.le_refl _)).2.trans hA.2.symm⟩
/-- open on a day: open on the day before -/
theorem open_anti {n : Nat} {P sub a : Int32} (hR : RR σ μ td np nr) (hb : td + n + 1 ≤ 1000000) (h : x_open (x_dS σ np (nI (n + 1))) np P sub a = true) : x_open (x_dS σ np (nI n)) np P sub a = true := by
  unfold x_open at *
  obtain ⟨k, h1, h2, h3⟩ := x_any_ex np h
  refine x_any_in h1 h2 ?_
  unfold x_ret at *
  refine decide_eq_true (Int32.lt_trans ?_ (of_decide_eq_true h3))
  show σ.1 0 + nI n < σ.1 0 + nI (n + 1)
  rw [R_x0 hR, nI_add, nI_add]
  exact nI_lt (by omega) (by omega)
theorem dX_open {n : Nat} {P sub a : Int32} : x_open (x_dS (x_dX σ np nr (nI n)) np (nI 1)) np P sub a = x_open (x_dS σ np (nI (n + 1))) np P sub a := by
  refine x_open_cong ?_ rfl rfl rfl
  show σ.1 0 + nI n + nI 1 = σ.1 0 + nI (n + 1)
  rw [Int32.add_assoc, nI_add]
theorem dQ_bits (hR : RR σ μ td np nr) {n : Nat} (hb : td + n + 1 ≤ 1000000) : ∀ i, i < 32 → (bt (x_dQ σ np nr (nI (n + 1))) i = (bt (x_dQ σ np nr (nI n)) i || bt (x_dQ (x_dX σ np nr (nI n)) np nr (nI 1)) i)) ∧ ¬ (bt (x_dQ σ np nr (nI n)) i = true ∧ bt (x_dQ (x_dX σ np nr (nI n)) np nr (nI 1)) i = true) := by
  have hn := R_nr hR
  have hs := R_sl hR
  have eA : ∀ m i, i < nr → (bt (x_dQ σ np nr (nI m)) i = true ↔ (∃ r, r < nr ∧ (bt (σ.1 12) r = true ∧ x_open (x_dS σ np (nI m)) np (σ.2 8 r) (σ.2 9 r) (σ.2 7 r) = false) ∧ bt (wC (σ.2 10) nr r) i = true) ∧ bt (σ.1 12) i = true) := fun m i hi => by
    show bt (x_wab (σ.2 10) (x_due (x_dS σ np (nI m)) np nr) nr &&& σ.1 12) i = true ↔ _
    rw [b_and, Bool.and_eq_true, wab_ex hs (by omega) hi]
    constructor
    · rintro ⟨⟨r, h1, h2, h3⟩, h4⟩
      exact ⟨⟨r, h1, ((due_bits (by omega) nr (by omega)).mp h2).2, h3⟩, h4⟩
    · rintro ⟨⟨r, h1, h2, h3⟩, h4⟩
      exact ⟨⟨r, h1, (due_bits (by omega) nr (by omega)).mpr ⟨h1, h2⟩, h3⟩, h4⟩
  have e12 : ∀ i, i < 32 → bt ((x_dX σ np nr (nI n)).1 12) i = (bt (σ.1 12) i && !bt (x_dQ σ np nr (nI n)) i) := fun i hi => by
    show bt (σ.1 12 &&& (x_dQ σ np nr (nI n) ^^^ (-1))) i = _
    rw [b_and, bt_not hi]
  have eB : ∀ i, i < nr → (bt (x_dQ (x_dX σ np nr (nI n)) np nr (nI 1)) i = true ↔ (∃ r, r < nr ∧ (bt ((x_dX σ np nr (nI n)).1 12) r = true ∧ x_open (x_dS σ np (nI (n + 1))) np (σ.2 8 r) (σ.2 9 r) (σ.2 7 r) = false) ∧ bt (wC (σ.2 10) nr r) i = true) ∧ bt ((x_dX σ np nr (nI n)).1 12) i = true) := fun i hi => by
    show bt (x_wab (σ.2 10) (x_due (x_dS (x_dX σ np nr (nI n)) np (nI 1)) np nr) nr &&& (x_dX σ np nr (nI n)).1 12) i = true ↔ _
    rw [b_and, Bool.and_eq_true, wab_ex hs (by omega) hi]
    constructor
    · rintro ⟨⟨r, h1, h2, h3⟩, h4⟩
      have h5 := ((due_bits (by omega) nr (by omega)).mp h2).2
      rw [dX_open] at h5
      exact ⟨⟨r, h1, h5, h3⟩, h4⟩
    · rintro ⟨⟨r, h1, h2, h3⟩, h4⟩
      refine ⟨⟨r, h1, (due_bits (by omega) nr (by omega)).mpr ⟨h1, ?_⟩, h3⟩, h4⟩
      rw [dX_open]; exact h2
  intro i h32
  refine ⟨bool_ext ?_, ?_⟩
  · rw [Bool.or_eq_true]
    by_cases hi : i < nr
    · rw [eA (n + 1) i hi, eB i hi]
      constructor
      · rintro ⟨⟨r, h1, h2, h3⟩, h4⟩
        by_cases c : bt (x_dQ σ np nr (nI n)) i = true
        · exact Or.inl c
        · right
          have hp' : bt ((x_dX σ np nr (nI n)).1 12) i = true := by rw [e12 i h32, h4, bl_f c]; rfl
          refine ⟨⟨r, h1, ⟨?_, h2.2⟩, h3⟩, hp'⟩
          rw [e12 r (by omega), h2.1]
          by_cases d : bt (x_dQ σ np nr (nI n)) r = true
          · exfalso
            obtain ⟨⟨r0, g1, g2, g3⟩, -⟩ := (eA n r h1).mp d
            exact c ((eA n i hi).mpr ⟨⟨r0, g1, g2, wC_trans hs (by omega) h1 hi g3 h3⟩, h4⟩)
          · rw [bl_f d]; rfl
      · rintro (g | g)
        · obtain ⟨⟨r, h1, h2, h3⟩, h4⟩ := (eA n i hi).mp g
          refine ⟨⟨r, h1, ⟨h2.1, bl_f (fun z => ?_)⟩, h3⟩, h4⟩
          rw [open_anti hR hb z] at h2; cases h2.2
        · obtain ⟨⟨r, h1, h2, h3⟩, h4⟩ := g
          rw [e12 r (by omega)] at h2
          rw [e12 i h32] at h4
          exact ⟨⟨r, h1, ⟨(and_t h2.1).1, h2.2⟩, h3⟩, (and_t h4).1⟩
    · have hf := (R_ou hR i (by omega) h32).1
      have z1 : ∀ m, bt (x_dQ σ np nr (nI m)) i = false := fun m => by
        show bt (x_wab (σ.2 10) (x_due (x_dS σ np (nI m)) np nr) nr &&& σ.1 12) i = false
        rw [b_and, hf, Bool.and_false]
      have z2 : bt (x_dQ (x_dX σ np nr (nI n)) np nr (nI 1)) i = false := by
        show bt (x_wab (σ.2 10) (x_due (x_dS (x_dX σ np nr (nI n)) np (nI 1)) np nr) nr &&& (x_dX σ np nr (nI n)).1 12) i = false
        rw [b_and, e12 i h32, hf, Bool.false_and, Bool.and_false]
      rw [z1, z1, z2]
      exact ⟨fun g => (by cases g), fun g => g.elim (fun g => (by cases g)) (fun g => (by cases g))⟩
  · rintro ⟨g1, g2⟩
    have g3 : bt (x_wab (σ.2 10) (x_due (x_dS (x_dX σ np nr (nI n)) np (nI 1)) np nr) nr &&& (x_dX σ np nr (nI n)).1 12) i = true := g2
    rw [b_and, e12 i h32, g1] at g3
    have := (and_t (and_t g3).2).2
    cases this
theorem dX_step (hR : RR σ μ td np nr) {n : Nat} (hb : td + n + 1 ≤ 1000000) : x_dX (x_dX σ np nr (nI n)) np nr (nI 1) = x_dX σ np nr (nI (n + 1)) ∧ x_pop (x_dQ σ np nr (nI n)) + x_pop (x_dQ (x_dX σ np nr (nI n)) np nr (nI 1)) = x_pop (x_dQ σ np nr (nI (n + 1))) := by
  have hq := dQ_bits hR hb
  have e0 : σ.1 0 + nI n + nI 1 = σ.1 0 + nI (n + 1) := by rw [Int32.add_assoc, nI_add]
  have q12 : σ.1 12 &&& (x_dQ σ np nr (nI n) ^^^ (-1)) &&& (x_dQ (x_dX σ np nr (nI n)) np nr (nI 1) ^^^ (-1)) = σ.1 12 &&& (x_dQ σ np nr (nI (n + 1)) ^^^ (-1)) := by
    apply b_ext
    intro i hi
    rw [b_and, b_and, b_and, bt_not hi, bt_not hi, bt_not hi, (hq i hi).1, Bool.not_or, Bool.and_assoc]
  have q13 : σ.1 13 ||| x_dQ σ np nr (nI n) ||| x_dQ (x_dX σ np nr (nI n)) np nr (nI 1) = σ.1 13 ||| x_dQ σ np nr (nI (n + 1)) := by
    apply b_ext
    intro i hi
    rw [b_or, b_or, b_or, (hq i hi).1, Bool.or_assoc]
  refine ⟨?_, ?_⟩
  · apply Prod.ext
    · funext k
      by_cases k13 : k = 13
      · subst k13; exact q13
      · by_cases k12 : k = 12
        · subst k12; exact q12
        · by_cases k0 : k = 0
          · subst k0; exact e0
          · show (if k = 13 then _ else if k = 12 then _ else if k = 0 then _ else (if k = 13 then _ else if k = 12 then _ else if k = 0 then _ else σ.1 k)) = (if k = 13 then _ else if k = 12 then _ else if k = 0 then _ else σ.1 k)
            rw [if_neg k13, if_neg k12, if_neg k0, if_neg k13, if_neg k12, if_neg k0, if_neg k13, if_neg k12, if_neg k0]
    · funext j
      by_cases j5 : j = 5
      · subst j5
        funext i
        show (if (i / 8 < 12 ∨ (i / 8 = 12 ∧ i % 8 < 0)) ∧ i % 8 < np ∧ bt (σ.2 4 (i / 8)) (i % 8) = true then (if (i / 8 < 12 ∨ (i / 8 = 12 ∧ i % 8 < 0)) ∧ i % 8 < np ∧ bt (σ.2 4 (i / 8)) (i % 8) = true then σ.2 5 i + nI n else σ.2 5 i) + nI 1 else (if (i / 8 < 12 ∨ (i / 8 = 12 ∧ i % 8 < 0)) ∧ i % 8 < np ∧ bt (σ.2 4 (i / 8)) (i % 8) = true then σ.2 5 i + nI n else σ.2 5 i)) = (if (i / 8 < 12 ∨ (i / 8 = 12 ∧ i % 8 < 0)) ∧ i % 8 < np ∧ bt (σ.2 4 (i / 8)) (i % 8) = true then σ.2 5 i + nI (n + 1) else σ.2 5 i)
        by_cases c : (i / 8 < 12 ∨ (i / 8 = 12 ∧ i % 8 < 0)) ∧ i % 8 < np ∧ bt (σ.2 4 (i / 8)) (i % 8) = true
        · rw [if_pos c, if_pos c, if_pos c, Int32.add_assoc, nI_add]
        · rw [if_neg c, if_neg c, if_neg c]
      · show (if j = 5 then _ else (if j = 5 then _ else σ.2 j)) = (if j = 5 then _ else σ.2 j)
        rw [if_neg j5, if_neg j5, if_neg j5]
  · rw [x_pop_ct, x_pop_ct, x_pop_ct, nI_add]
    congr 1
    rw [← ct_or 32 (fun k hk => (hq k hk).2)]
    exact (ct_cong 32 (fun k hk => (hq k hk).1)).symm
theorem S_days (hR : RR σ μ td np nr) (h : YY μ τ υ td np nr T) (htd : td ≤ 900000) : ∀ n, n ≤ 1000 → ∃ μ' : ST, RR (x_dX σ np nr (nI (n + 1))) μ' (td + (n + 1)) np nr ∧ YY μ' (y_dys nr np τ (n + 1)) υ (td + (n + 1)) np nr T ∧ y_dyc nr np τ (n + 1) = x_pop (x_dQ σ np nr (nI (n + 1)))
  | 0, _ => by
    obtain ⟨μ', h1, h2, h3⟩ := S_day1 hR h (by omega)
    exact ⟨μ', h1, h2, by show (0 : Int32) + y_pc nr np (y_day τ) nr = _; rw [h3, Int32.zero_add]⟩
  | n + 1, hn => by
    obtain ⟨μ1, h1, h2, h3⟩ := S_days hR h htd n (by omega)
    obtain ⟨μ', g1, g2, g3⟩ := S_day1 h1 h2 (by omega)
    have hs := dX_step hR (n := n + 1) (by omega)
    rw [hs.1] at g1
    refine ⟨μ', g1, g2, ?_⟩
    show y_dyc nr np τ (n + 1) + y_pc nr np (y_day (y_dys nr np τ (n + 1))) nr = _
    rw [h3, g3, hs.2]
/-! ===== erasing ===== -/
theorem Y_mv (h : YY μ τ υ td np nr T) (hn : nr ≤ 30) {j : Nat} (hj : j < nr) : YY (s_put μ 12 j 2) (s_put τ 6 j 2) υ td np nr T := by
  refine ⟨h.1, h.2.1, h.2.2.1, fun k hk => ?_, fun k hk h30 => ?_, h.2.2.2.2.2.1, h.2.2.2.2.2.2.1, h.2.2.2.2.2.2.2.1, Y_T h⟩
  · have hkk := h.2.2.2.1 k hk
    show τ.2 2 k = m_subj μ.2 k ∧ τ.2 3 k = m_belk (μ.2 9) k nr ∧ τ.2 4 k = μ.2 10 k ∧ τ.2 5 k = μ.2 11 k ∧ upd (τ.2 6) j 2 k = upd (μ.2 12) j 2 k ∧ τ.2 7 k = μ.2 9 k ∧ (upd (τ.2 6) j 2 (30 + k) = 1 ↔ μ.2 9 k = 0)
    rw [upd_ne (i := j) (j := 30 + k) (by omega)]
    refine ⟨hkk.1, hkk.2.1, hkk.2.2.1, hkk.2.2.2.1, ?_, hkk.2.2.2.2.2.1, hkk.2.2.2.2.2.2⟩
    by_cases e : k = j
    · subst e; rw [upd_self, upd_self]
    · rw [upd_ne e, upd_ne e]; exact hkk.2.2.2.2.1
  · show τ.2 3 k = 0 ∧ upd (τ.2 6) j 2 k = 0 ∧ τ.2 7 k = 0
    rw [upd_ne (by omega)]; exact Y_z h hk h30
theorem Y_fo (hR : RR σ μ td np nr) (h : YY μ τ υ td np nr T) : ∀ n, n ≤ nr → y_fo τ.2 nr n = m_fo μ.2 nr n
  | 0, _ => rfl
  | n + 1, hn => by rw [y_fo, m_fo, Y_kept hR h (by omega), Y_fo hR h n (by omega)]
theorem S_er_n (hR : RR σ μ td np nr) (h : YY μ τ υ td np nr T) (hf : m_fo μ.2 nr nr = none) : y_erA τ.2 nr = -1 ∧ y_erS τ nr = τ ∧ x_erA σ nr = -1 ∧ x_erS σ nr = σ := by
  unfold y_erA y_erS x_erA x_erS
  rw [find_eq hR nr (Nat.le_refl _), Y_fo hR h nr (Nat.le_refl _), hf]
  exact ⟨rfl, rfl, rfl, rfl⟩
theorem S_er_s (hR : RR σ μ td np nr) (h : YY μ τ υ td np nr T) {j : Nat} (hf : m_fo μ.2 nr nr = some j) : y_erA τ.2 nr = nI j ∧ x_erA σ nr = nI j ∧ RR (x_erS σ nr) (s_put μ 12 j 2) td np nr ∧ YY (s_put μ 12 j 2) (y_erS τ nr) υ td np nr T ∧ j < nr ∧ RR (x_mv σ j) (s_put μ 12 j 2) td np nr := by
  have hn := R_nr hR
  have hf2 : x_find σ nr nr = some j := by rw [find_eq hR nr (Nat.le_refl _), hf]
  have hk := find_kept nr hf2
  have hM := RR_mv hR hk.1 hk.2
  have hV := Y_mv h hn hk.1
  unfold y_erA y_erS x_erA x_erS
  rw [hf2, Y_fo hR h nr (Nat.le_refl _), hf]
  exact ⟨rfl, rfl, hM, hV, hk.1, hM⟩
theorem S_erase (hR : RR σ μ td np nr) (h : YY μ τ υ td np nr T) : ∃ μ' : ST, y_erA τ.2 nr = x_erA σ nr ∧ RR (x_erS σ nr) μ' td np nr ∧ YY μ' (y_erS τ nr) υ td np nr T := by
  cases hf : m_fo μ.2 nr nr with
  | none =>
    obtain ⟨h1, h2, h3, h4⟩ := S_er_n hR h hf
    exact ⟨μ, by rw [h1, h3], by rw [h4]; exact hR, by rw [h2]; exact h⟩
  | some j =>
    obtain ⟨h1, h2, h3, h4, -⟩ := S_er_s hR h hf
    exact ⟨_, by rw [h1, h2], h3, h4⟩
end Y4
