/-! ===== the law's rows and the state that is meant: the relation ===== -/
def YY (μ τ : ST) (υ : Nat → Int64) (td np nr T : Nat) : Prop :=
  (τ.2 0 0 = nI td ∧ τ.2 0 1 = nI np ∧ τ.2 0 2 = nI nr) ∧
  (∀ q, q < np → τ.2 1 q = μ.2 3 q ∧ τ.2 1 (8 + q) = μ.2 4 q) ∧
  (∀ j, j < 6 → τ.2 1 (16 + j) = μ.2 5 j ∧ τ.2 1 (22 + j) = μ.2 14 j) ∧
  (∀ k, k < nr → τ.2 2 k = m_subj μ.2 k ∧ τ.2 3 k = m_belk (μ.2 9) k nr ∧ τ.2 4 k = μ.2 10 k ∧ τ.2 5 k = μ.2 11 k ∧ τ.2 6 k = μ.2 12 k ∧ τ.2 7 k = μ.2 9 k ∧ (τ.2 6 (30 + k) = 1 ↔ μ.2 9 k = 0)) ∧
  (∀ k, nr ≤ k → k < 30 → τ.2 3 k = 0 ∧ τ.2 6 k = 0 ∧ τ.2 7 k = 0) ∧
  (∀ i, i < 48 → τ.2 8 i = μ.2 6 i) ∧
  (∀ k, k < nr → ∀ z, 6 ≤ z → z < 32 → bt (m_subj μ.2 k) z = false) ∧
  (∀ k, k < 30 → ∃ n, n ≤ T * 2 ^ 49 ∧ υ k = lN n ∧ ∀ q, q < 8 → dig n q ≤ T ∧ μ.2 13 (8 * k + q) = nI (dig n q)) ∧ T ≤ 110
section Y1
variable {σ μ τ : ST} {υ : Nat → Int64} {td np nr T : Nat}
theorem Y_q0 (h : YY μ τ υ td np nr T) : τ.2 0 0 = nI td := h.1.1
theorem Y_q1 (h : YY μ τ υ td np nr T) : τ.2 0 1 = nI np := h.1.2.1
theorem Y_q2 (h : YY μ τ υ td np nr T) : τ.2 0 2 = nI nr := h.1.2.2
theorem Y_p (h : YY μ τ υ td np nr T) {q : Nat} (hq : q < np) : τ.2 1 q = μ.2 3 q := (h.2.1 q hq).1
theorem Y_n (h : YY μ τ υ td np nr T) {q : Nat} (hq : q < np) : τ.2 1 (8 + q) = μ.2 4 q := (h.2.1 q hq).2
theorem Y_c (h : YY μ τ υ td np nr T) {j : Nat} (hj : j < 6) : τ.2 1 (16 + j) = μ.2 5 j := (h.2.2.1 j hj).1
theorem Y_h (h : YY μ τ υ td np nr T) {j : Nat} (hj : j < 6) : τ.2 1 (22 + j) = μ.2 14 j := (h.2.2.1 j hj).2
theorem Y_r (h : YY μ τ υ td np nr T) {k : Nat} (hk : k < nr) : τ.2 2 k = m_subj μ.2 k := (h.2.2.2.1 k hk).1
theorem Y_l (h : YY μ τ υ td np nr T) {k : Nat} (hk : k < nr) : τ.2 3 k = m_belk (μ.2 9) k nr := (h.2.2.2.1 k hk).2.1
theorem Y_g (h : YY μ τ υ td np nr T) {k : Nat} (hk : k < nr) : τ.2 4 k = μ.2 10 k := (h.2.2.2.1 k hk).2.2.1
theorem Y_a (h : YY μ τ υ td np nr T) {k : Nat} (hk : k < nr) : τ.2 5 k = μ.2 11 k := (h.2.2.2.1 k hk).2.2.2.1
theorem Y_t (h : YY μ τ υ td np nr T) {k : Nat} (hk : k < nr) : τ.2 6 k = μ.2 12 k := (h.2.2.2.1 k hk).2.2.2.2.1
theorem Y_f (h : YY μ τ υ td np nr T) {k : Nat} (hk : k < nr) : τ.2 7 k = μ.2 9 k := (h.2.2.2.1 k hk).2.2.2.2.2.1
theorem Y_o (h : YY μ τ υ td np nr T) {k : Nat} (hk : k < nr) : (τ.2 6 (30 + k) = 1 ↔ μ.2 9 k = 0) := (h.2.2.2.1 k hk).2.2.2.2.2.2
theorem Y_z (h : YY μ τ υ td np nr T) {k : Nat} (hk : nr ≤ k) (h30 : k < 30) : τ.2 3 k = 0 ∧ τ.2 6 k = 0 ∧ τ.2 7 k = 0 := h.2.2.2.2.1 k hk h30
theorem Y_d (h : YY μ τ υ td np nr T) {i : Nat} (hi : i < 48) : τ.2 8 i = μ.2 6 i := h.2.2.2.2.2.1 i hi
theorem Y_s (h : YY μ τ υ td np nr T) {k : Nat} (hk : k < nr) : ∀ z, 6 ≤ z → z < 32 → bt (m_subj μ.2 k) z = false := h.2.2.2.2.2.2.1 k hk
theorem Y_u (h : YY μ τ υ td np nr T) {k : Nat} (hk : k < 30) : ∃ n, n ≤ T * 2 ^ 49 ∧ υ k = lN n ∧ ∀ q, q < 8 → dig n q ≤ T ∧ μ.2 13 (8 * k + q) = nI (dig n q) := h.2.2.2.2.2.2.2.1 k hk
theorem Y_T (h : YY μ τ υ td np nr T) : T ≤ 110 := h.2.2.2.2.2.2.2.2
theorem m_alf_hi {cs : Nat → Int32} {q : Nat} {of : Int32} (h : ∀ z, 6 ≤ z → z < 32 → bt of z = false) : m_alf cs q of 12 = m_alf cs q of 6 := by
  show ((((((m_alf cs q of 6 && (!bt of 6 || bt (cs 6) q)) && (!bt of 7 || bt (cs 7) q)) && (!bt of 8 || bt (cs 8) q)) && (!bt of 9 || bt (cs 9) q)) && (!bt of 10 || bt (cs 10) q)) && (!bt of 11 || bt (cs 11) q)) = _
  rw [h 6 (by decide) (by decide), h 7 (by decide) (by decide), h 8 (by decide) (by decide), h 9 (by decide) (by decide), h 10 (by decide) (by decide), h 11 (by decide) (by decide)]
  simp
theorem y_alf_eq {p cs : Nat → Int32} {q : Nat} {nd of : Int32} (h8 : p (8 + q) = nd) (hc : ∀ j, j < 6 → p (16 + j) = cs j) : ∀ k, k ≤ 6 → y_alf p q of k = if nd = 0 then true else m_alf cs q of k
  | 0, _ => by
    by_cases e : nd = 0
    · rw [if_pos e]; rfl
    · rw [if_neg e]; rfl
  | k + 1, hk => by
    rw [y_alf, y_alf_eq h8 hc k (by omega), h8, hc k (by omega)]
    by_cases e : nd = 0
    · rw [if_pos e, if_pos e, decide_eq_true e]; rfl
    · rw [if_neg e, if_neg e, decide_eq_f e, m_alf, Bool.false_or]
theorem Y_alw (h : YY μ τ υ td np nr T) {q : Nat} (hq : q < np) {of : Int32} (hof : ∀ z, 6 ≤ z → z < 32 → bt of z = false) : y_alf (τ.2 1) q of 6 = m_alw μ.2 q of := by
  rw [y_alf_eq (Y_n h hq) (fun j hj => Y_c h hj) 6 (by omega), m_alw, m_alf_hi hof]
theorem Y_opf (hR : RR σ μ td np nr) (h : YY μ τ υ td np nr T) {w of a : Int32} (hof : ∀ z, 6 ≤ z → z < 32 → bt of z = false) : ∀ n, n ≤ np → y_opf τ.2 w of a n = x_any σ (w &&& x_alw σ np of) a n
  | 0, _ => rfl
  | n + 1, hn => by
    rw [y_opf, x_any, Y_opf hR h hof n (by omega), b_and, alw_bt hR.1 (by omega), Y_alw h (by omega) hof, x_ret, R_x0 hR, Y_q0 h, Y_p h (by omega), R_e2 hR]
theorem Y_open (hR : RR σ μ td np nr) (h : YY μ τ υ td np nr T) {w of a : Int32} (hof : ∀ z, 6 ≤ z → z < 32 → bt of z = false) : y_opf τ.2 w of a np = x_open σ np w of a := Y_opf hR h hof np (Nat.le_refl _)
theorem Y_rsn (hR : RR σ μ td np nr) (h : YY μ τ υ td np nr T) {r q : Nat} (hr : r < nr) (hq : q < np) : y_rsn τ.2 r q = m_rsn μ.2 (μ.1 1) r q := by
  unfold y_rsn m_rsn
  rw [Y_t h hr, Y_g h hr, Y_alw h hq (by rw [Y_r h hr]; exact Y_s h hr), Y_r h hr, Y_q0 h, Y_a h hr, Y_p h hq, R_t1 hR]
  rcases R_st hR r hr with g | g | g
  · rw [g.1, if_neg (by decide), if_neg (by decide), if_neg (c := ¬ (0 : Int32) = 0) (by decide)]
  · rw [g.1, if_neg (by decide), if_pos rfl, if_pos (by decide), if_neg (by decide)]
  · rw [g.1, if_pos rfl, if_pos (by decide), if_pos rfl]
theorem Y_why (hR : RR σ μ td np nr) (h : YY μ τ υ td np nr T) {r q : Nat} (hr : r < nr) (hq : q < np) : x_why σ np r q = y_rsn τ.2 r q := (why_eq hR hr hq).trans (Y_rsn hR h hr hq).symm
theorem Y_held (h : YY μ τ υ td np nr T) : y_held τ.2 = x_held (μ.2 14) 6 := by
  show τ.2 1 22 ||| τ.2 1 23 ||| τ.2 1 24 ||| τ.2 1 25 ||| τ.2 1 26 ||| τ.2 1 27 = 0 ||| μ.2 14 0 ||| μ.2 14 1 ||| μ.2 14 2 ||| μ.2 14 3 ||| μ.2 14 4 ||| μ.2 14 5
  rw [show τ.2 1 22 = μ.2 14 0 from Y_h h (j := 0) (by decide), show τ.2 1 23 = μ.2 14 1 from Y_h h (j := 1) (by decide), show τ.2 1 24 = μ.2 14 2 from Y_h h (j := 2) (by decide), show τ.2 1 25 = μ.2 14 3 from Y_h h (j := 3) (by decide), show τ.2 1 26 = μ.2 14 4 from Y_h h (j := 4) (by decide), show τ.2 1 27 = μ.2 14 5 from Y_h h (j := 5) (by decide), Int32.zero_or]
/-- below a record: higher numbers alone -/
theorem belk_lo (hR : RR σ μ td np nr) {r k : Nat} (hk : k < 32) (h : bt (m_belk (μ.2 9) r nr) k = true) : r < k ∧ k < nr := m_belk_bit hk nr (by have := R_nr hR; omega) h
theorem st_cases (hR : RR σ μ td np nr) {k : Nat} (hk : k < nr) : μ.2 12 k = 0 ∨ μ.2 12 k = 1 ∨ μ.2 12 k = 2 := by
  rcases R_st hR k hk with g | g | g
  · exact Or.inl g.1
  · exact Or.inr (Or.inl g.1)
  · exact Or.inr (Or.inr g.1)
theorem st_lt2 (hR : RR σ μ td np nr) {k : Nat} (hk : k < nr) : (μ.2 12 k < 2 ↔ ¬ μ.2 12 k = 2) := by
  rcases st_cases hR hk with g | g | g <;> rw [g] <;> decide
theorem Y_kpf (hR : RR σ μ td np nr) (h : YY μ τ υ td np nr T) {r : Nat} (hr : r < nr) (h0 : y_k0 τ.2 r = 0) : ∀ n, n ≤ nr → y_kpf τ.2 r n = m_kpf (μ.2 12) (m_belk (μ.2 9) r nr) r n
  | 0, _ => h0
  | n + 1, hn => by
    have hn30 := R_nr hR
    have e2 := st_lt2 hR (k := n) (by omega)
    rw [y_kpf, m_kpf, Y_kpf hR h hr h0 n (by omega), Y_l h hr, Y_t h (by omega)]
    by_cases c : bt (m_belk (μ.2 9) r nr) n = true ∧ ¬ μ.2 12 n = 2
    · have c2 := belk_lo hR (by omega) c.1
      rw [if_pos (c := r < n ∧ _) ⟨c2.1, c.1, c.2⟩]
      by_cases d : m_kpf (μ.2 12) (m_belk (μ.2 9) r nr) r n = 0
      · rw [if_pos ⟨d, c.1, e2.mpr c.2⟩]
      · rw [if_neg (fun g => d g.1)]
        rcases kpf_0 (st := μ.2 12) (w := m_belk (μ.2 9) r nr) (r := r) n with g | g
        · exact absurd g.1 d
        · exact g.1
    · rw [if_neg (fun g => c ⟨g.2.1, e2.mp g.2.2⟩), if_neg (fun g => c g.2)]
theorem kpf_ne {ρ : RW} {r : Nat} (h0 : ¬ y_k0 ρ r = 0) : ∀ n, y_kpf ρ r n = y_k0 ρ r
  | 0 => rfl
  | n + 1 => by rw [y_kpf, kpf_ne h0 n, if_neg (fun g => h0 g.1)]
theorem Y_kept (hR : RR σ μ td np nr) (h : YY μ τ υ td np nr T) {r : Nat} (hr : r < nr) : y_kept τ.2 nr r = m_kept μ.2 nr r := by
  unfold y_kept m_kept
  have e : y_k0 τ.2 r = if μ.2 12 r = 2 then 1 else if μ.2 12 r = 0 then 2 else if bt (x_held (μ.2 14) 6) r = true then 3 else 0 := by
    unfold y_k0; rw [Y_t h hr, Y_held h]
  rcases st_cases hR hr with g | g | g
  · rw [g, if_neg (by decide), if_pos rfl] at e
    rw [kpf_ne (by rw [e]; decide), e, g, if_pos (by decide), if_neg (by decide)]
  · rw [g, if_neg (by decide), if_neg (by decide)] at e
    rw [g, if_neg (by decide)]
    by_cases c : bt (x_held (μ.2 14) 6) r = true
    · rw [if_pos c] at e
      rw [kpf_ne (by rw [e]; decide), e, if_pos c]
    · rw [if_neg c] at e
      rw [if_neg c]
      exact Y_kpf hR h hr e nr (Nat.le_refl _)
  · rw [g, if_pos rfl] at e
    rw [kpf_ne (by rw [e]; decide), e, g, if_pos (by decide), if_pos rfl]
theorem Y_pr (hR : RR σ μ td np nr) (h : YY μ τ υ td np nr T) {k : Nat} (hk : k < nr) : (bt (σ.1 12) k = true ↔ τ.2 6 k = 0) := by rw [Y_t h hk]; exact R_pr hR hk
/-- due, a record more -/
theorem Y_due (hR : RR σ μ td np nr) (h : YY μ τ υ td np nr T) {k : Nat} (hk : k < nr) : x_due σ np (k + 1) = if τ.2 6 k = 0 ∧ y_opf τ.2 (τ.2 4 k) (τ.2 2 k) (τ.2 5 k) np = false then x_due σ np k ||| bI k else x_due σ np k := by
  have R := R_rows hR
  have e : y_opf τ.2 (τ.2 4 k) (τ.2 2 k) (τ.2 5 k) np = x_open σ np (σ.2 8 k) (σ.2 9 k) (σ.2 7 k) := by
    rw [Y_open hR h (by rw [Y_r h hk]; exact Y_s h hk), Y_g h hk, Y_r h hk, Y_a h hk, R.2.2.1, R.2.1, R_su hR k hk]
  rw [x_due, e]
  by_cases c : bt (σ.1 12) k = true ∧ x_open σ np (σ.2 8 k) (σ.2 9 k) (σ.2 7 k) = false
  · rw [if_pos c, if_pos ⟨(Y_pr hR h hk).mp c.1, c.2⟩]
  · rw [if_neg c, if_neg (fun g => c ⟨(Y_pr hR h hk).mpr g.1, g.2⟩)]
theorem end_nat (hR : RR σ μ td np nr) {k : Nat} (hk : k < nr) : ∃ e, e ≤ 1003650 ∧ x_end σ np k = nI e := by
  obtain ⟨a, ha, ea⟩ := R_add hR k hk
  have htd := R_td hR
  obtain ⟨L, hL, e1, e2, -⟩ := end_all (P := σ.2 8 k) (sub := σ.2 9 k) hR.1 ha np (Nat.le_refl _)
  exact ⟨a + L, by omega, by unfold x_end; rw [ea, e1, nI_add]⟩
theorem nend_neg (hR : RR σ μ td np nr) : ∀ n, n ≤ nr → (x_nend σ np n < 0 ↔ x_nend σ np n = -1)
  | 0, _ => by rw [x_nend]; decide
  | n + 1, hn => by
    have ih := nend_neg hR n (by omega)
    obtain ⟨e, he, ee⟩ := end_nat hR (k := n) (by omega)
    have hE : x_end σ np n < 0 ↔ x_end σ np n = -1 := by
      rw [ee]
      exact ⟨fun g => absurd g (nI_pos (by omega)), fun g => absurd g (nI_ne_m1 (by omega))⟩
    rw [x_nend]
    by_cases c : bt (σ.1 12) n = true
    · rw [if_pos c]
      by_cases d : x_nend σ np n = -1
      · rw [if_pos d]; exact hE
      · rw [if_neg d]
        unfold x_min
        by_cases f : x_end σ np n < x_nend σ np n
        · rw [if_pos f]; exact hE
        · rw [if_neg f]; exact ih
    · rw [if_neg c]; exact ih
/-- the next end, a record more -/
theorem Y_nend (hR : RR σ μ td np nr) (h : YY μ τ υ td np nr T) {k : Nat} (hk : k < nr) : x_nend σ np (k + 1) = if τ.2 6 k = 0 ∧ (x_nend σ np k < 0 ∨ m_end μ.2 np k < x_nend σ np k) then m_end μ.2 np k else x_nend σ np k := by
  have en := nend_neg hR k (by omega)
  rw [x_nend, endR_eq hR hk]
  by_cases c : bt (σ.1 12) k = true
  · rw [if_pos c]
    have c2 := (Y_pr hR h hk).mp c
    by_cases d : x_nend σ np k = -1
    · rw [if_pos d, if_pos ⟨c2, Or.inl (en.mpr d)⟩]
    · rw [if_neg d]
      unfold x_min
      by_cases f : m_end μ.2 np k < x_nend σ np k
      · rw [if_pos f, if_pos ⟨c2, Or.inr f⟩]
      · rw [if_neg f, if_neg (fun g => g.2.elim (fun g => d (en.mp g)) f)]
  · rw [if_neg c, if_neg (fun g => c ((Y_pr hR h hk).mpr g.1))]
def y_us (ρ : RW) (υ : Nat → Int64) (s q : Nat) : Nat → Int64
  | 0 => 0
  | k + 1 => if bt (ρ 2 k) s = true then y_us ρ υ s q k + ((υ k >>> ((nI (7 * q)).toInt64 &&& 63)) &&& 127) else y_us ρ υ s q k + 0
theorem Y_us1 (hR : RR σ μ td np nr) (h : YY μ τ υ td np nr T) (s : Nat) {q : Nat} (hq : q < 8) : ∀ n, n ≤ nr → ∃ S, S ≤ 128 * n ∧ m_uses μ.2 s q n = nI S ∧ y_us τ.2 υ s q n = lN S
  | 0, _ => ⟨0, by omega, rfl, rfl⟩
  | n + 1, hn => by
    obtain ⟨S, hS, e1, e2⟩ := Y_us1 hR h s hq n (by omega)
    have hn30 := R_nr hR
    rw [m_uses, y_us, Y_r h (by omega)]
    by_cases c : bt (m_subj μ.2 n) s = true
    · rw [if_pos c, if_pos c]
      obtain ⟨m, hm, em, hd⟩ := Y_u h (k := n) (by omega)
      have hT := Y_T h
      have hm2 : m < 2 ^ 62 := by
        have : T * 2 ^ 49 ≤ 110 * 2 ^ 49 := Nat.mul_le_mul_right _ hT
        omega
      refine ⟨S + dig m q, by have := dig_lt m q; omega, ?_, ?_⟩
      · rw [e1, (hd q hq).2, nI_add]
      · rw [e2, em, u_dig hm2 hq, lN_add]
    · rw [if_neg c, if_neg c]
      exact ⟨S, by omega, e1, by rw [e2]; exact Int64.add_zero _⟩
theorem Y_uses (hR : RR σ μ td np nr) (h : YY μ τ υ td np nr T) (s : Nat) {q : Nat} (hq : q < 8) : (x_uses (σ.2 11) (σ.2 9) s q nr).toInt64 = y_us τ.2 υ s q nr := by
  have hn30 := R_nr hR
  obtain ⟨S, hS, e1, e2⟩ := Y_us1 hR h s hq nr (Nat.le_refl _)
  rw [uses_eq hR s q nr (Nat.le_refl _), e1, e2, nI_l (by omega)]
/-- traces, a record more -/
theorem Y_trc (hR : RR σ μ td np nr) (h : YY μ τ υ td np nr T) {s k : Nat} (hk : k < nr) : m_trc μ.2 s (k + 1) = if bt (m_subj μ.2 k) s = true ∧ τ.2 6 k < 2 then m_trc μ.2 s k ||| bI k else m_trc μ.2 s k := by
  have e2 := st_lt2 hR hk
  rw [m_trc, Y_t h hk]
  by_cases c : ¬ μ.2 12 k = 2 ∧ bt (m_subj μ.2 k) s = true
  · rw [if_pos c, if_pos ⟨c.2, e2.mpr c.1⟩]
  · rw [if_neg c, if_neg (fun g => c ⟨e2.mp g.2, g.1⟩)]
end Y1
