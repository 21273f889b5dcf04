/-! ===== the relation of the two states; what reads agree ===== -/
def RR (σ τ : ST) (td np nr : Nat) : Prop :=
  RO σ τ.2 td np ∧ τ.1 1 = nI td ∧ σ.1 1 = nI np ∧ τ.1 2 = nI np ∧ σ.1 6 = nI nr ∧ τ.1 7 = nI nr ∧ nr ≤ 30 ∧
  (σ.2 5 = τ.2 6 ∧ σ.2 7 = τ.2 11 ∧ σ.2 8 = τ.2 10 ∧ σ.2 10 = τ.2 9 ∧ σ.2 11 = τ.2 13 ∧ σ.2 15 = τ.2 14) ∧
  (∀ q, np ≤ q → q < 32 → bt (σ.1 3) q = false) ∧
  (∀ j, j < 12 → ∀ q, np ≤ q → q < 8 → bt (σ.2 4 j) q = false) ∧
  (∀ r, r < nr → ∃ a, a ≤ td ∧ σ.2 7 r = nI a) ∧
  SL (σ.2 10) nr ∧ (∀ r, r < nr → σ.2 10 r = 0 → ∃ j, j < 12 ∧ τ.2 8 r = nI j) ∧
  (∀ r, r < nr → σ.2 9 r = m_subj τ.2 r) ∧
  (∀ r, r < nr → RS1 (σ.1 12) (σ.1 13) (σ.1 14) (τ.2 12) r) ∧
  (∀ r, nr ≤ r → r < 32 → bt (σ.1 12) r = false ∧ bt (σ.1 13) r = false ∧ bt (σ.1 14) r = false) ∧
  (∀ i, i < 6 → ∀ r, nr ≤ r → r < 32 → bt (σ.2 15 i) r = false)
def PC (td : Nat) (σ' τ' : ST) (code : Nat) : Prop := τ'.1 0 = nI code ∧ ∃ td' np' nr', td' ≤ td + 1000 ∧ RR σ' τ' td' np' nr'
section P4
variable {σ τ : ST} {td np nr : Nat}
theorem RR_thr (h : RR σ τ td np nr) (v : Int32) : RR σ (s_set τ 0 v) td np nr := h
theorem PC_of {σ' τ' : ST} {code : Nat} (h : RR σ' τ' td np nr) (h0 : τ'.1 0 = nI code) : PC td σ' τ' code := ⟨h0, td, np, nr, by omega, h⟩
theorem PC_0 (h : RR σ τ td np nr) : PC td σ (s_set τ 0 0) 0 := PC_of (RR_thr h 0) rfl
theorem PC_1 (h : RR σ τ td np nr) : PC td σ (s_set (s_set τ 0 0) 0 1) 1 := PC_of (RR_thr (RR_thr h 0) 1) rfl
theorem PC_2 (h : RR σ τ td np nr) : PC td σ (s_set (s_set τ 0 0) 0 2) 2 := PC_of (RR_thr (RR_thr h 0) 2) rfl
theorem PC_3 (h : RR σ τ td np nr) : PC td σ (s_set (s_set τ 0 0) 0 3) 3 := PC_of (RR_thr (RR_thr h 0) 3) rfl
theorem ix2 (x : Int32) {n : Nat} (hn : n < 2 ^ 31) : (x < 0 ∨ nI n ≤ x) ∨ ∃ j : Nat, j < n ∧ x = nI j := by
  rcases pk_ix x hn with h | h | h
  · exact Or.inl (Or.inl h)
  · exact Or.inl (Or.inr h)
  · exact Or.inr h
theorem in_S {v : Int32} (h : v < 0 ∨ nI 12 ≤ v) : m_in v 0 11 = false := m_in_f (n := 12) (by decide) (by decide) h
theorem in_C {v : Int32} (h : v < 0 ∨ nI 6 ≤ v) : m_in v 0 5 = false := m_in_f (n := 6) (by decide) (by decide) h
theorem in_P (h : RR σ τ td np nr) {v : Int32} (hv : v < 0 ∨ nI np ≤ v) : m_in v 0 (τ.1 2 - 1) = false := m_in_f (n := np) (by rw [h.2.2.2.1]) (by have := h.1.2.2.2.1; omega) hv
theorem in_R (h : RR σ τ td np nr) {v : Int32} (hv : v < 0 ∨ nI nr ≤ v) : m_in v 0 (τ.1 7 - 1) = false := m_in_f (n := nr) (by rw [h.2.2.2.2.2.1]) (by have := h.2.2.2.2.2.2.1; omega) hv
theorem bad_P (h : RR σ τ td np nr) {v : Int32} (hv : v < 0 ∨ nI np ≤ v) : v < 0 ∨ σ.1 1 ≤ v := by rw [h.2.2.1]; exact hv
theorem bad_R (h : RR σ τ td np nr) {v : Int32} (hv : v < 0 ∨ nI nr ≤ v) : v < 0 ∨ σ.1 6 ≤ v := by rw [h.2.2.2.2.1]; exact hv
theorem R_np (h : RR σ τ td np nr) : np ≤ 8 := h.1.2.2.2.1
theorem R_nr (h : RR σ τ td np nr) : nr ≤ 30 := h.2.2.2.2.2.2.1
theorem R_x1 (h : RR σ τ td np nr) : σ.1 1 = nI np := h.2.2.1
theorem R_t2 (h : RR σ τ td np nr) : τ.1 2 = nI np := h.2.2.2.1
theorem R_x6 (h : RR σ τ td np nr) : σ.1 6 = nI nr := h.2.2.2.2.1
theorem R_t7 (h : RR σ τ td np nr) : τ.1 7 = nI nr := h.2.2.2.2.2.1
theorem R_x0 (h : RR σ τ td np nr) : σ.1 0 = nI td := h.1.1
theorem R_t1 (h : RR σ τ td np nr) : τ.1 1 = nI td := h.2.1
theorem R_td (h : RR σ τ td np nr) : td ≤ 1000000 := h.1.2.2.2.2.1
theorem R_e4 (h : RR σ τ td np nr) : σ.2 4 = τ.2 5 := h.1.2.1
theorem R_e2 (h : RR σ τ td np nr) : σ.2 2 = τ.2 3 := h.1.2.2.1
theorem R_rows (h : RR σ τ td np nr) : σ.2 5 = τ.2 6 ∧ σ.2 7 = τ.2 11 ∧ σ.2 8 = τ.2 10 ∧ σ.2 10 = τ.2 9 ∧ σ.2 11 = τ.2 13 ∧ σ.2 15 = τ.2 14 := h.2.2.2.2.2.2.2.1
theorem R_add (h : RR σ τ td np nr) : ∀ r, r < nr → ∃ a, a ≤ td ∧ σ.2 7 r = nI a := h.2.2.2.2.2.2.2.2.2.2.1
theorem R_sl (h : RR σ τ td np nr) : SL (σ.2 10) nr := h.2.2.2.2.2.2.2.2.2.2.2.1
theorem R_rt (h : RR σ τ td np nr) : ∀ r, r < nr → σ.2 10 r = 0 → ∃ j, j < 12 ∧ τ.2 8 r = nI j := h.2.2.2.2.2.2.2.2.2.2.2.2.1
theorem R_su (h : RR σ τ td np nr) : ∀ r, r < nr → σ.2 9 r = m_subj τ.2 r := h.2.2.2.2.2.2.2.2.2.2.2.2.2.1
theorem R_st (h : RR σ τ td np nr) : ∀ r, r < nr → RS1 (σ.1 12) (σ.1 13) (σ.1 14) (τ.2 12) r := h.2.2.2.2.2.2.2.2.2.2.2.2.2.2.1
theorem R_ou (h : RR σ τ td np nr) : ∀ r, nr ≤ r → r < 32 → bt (σ.1 12) r = false ∧ bt (σ.1 13) r = false ∧ bt (σ.1 14) r = false := h.2.2.2.2.2.2.2.2.2.2.2.2.2.2.2.1
theorem R_ho (h : RR σ τ td np nr) : ∀ i, i < 6 → ∀ r, nr ≤ r → r < 32 → bt (σ.2 15 i) r = false := h.2.2.2.2.2.2.2.2.2.2.2.2.2.2.2.2
theorem R_cb (h : RR σ τ td np nr) : ∀ j, j < 12 → ∀ q, np ≤ q → q < 8 → bt (σ.2 4 j) q = false := h.2.2.2.2.2.2.2.2.2.1
theorem R_wo (h : RR σ τ td np nr) : ∀ q, np ≤ q → q < 32 → bt (σ.1 3) q = false := h.2.2.2.2.2.2.2.2.1
/-- a present record of the class is in state 0 of the reference -/
theorem R_pr (h : RR σ τ td np nr) {r : Nat} (hr : r < nr) : (bt (σ.1 12) r = true ↔ τ.2 12 r = 0) := by
  rcases R_st h r hr with g | g | g
  · rw [g.1, g.2.1]; exact ⟨fun _ => rfl, fun _ => rfl⟩
  · rw [g.1, g.2.1]; exact ⟨fun h => (by cases h), fun h => absurd h (by decide)⟩
  · rw [g.1, g.2.1]; exact ⟨fun h => (by cases h), fun h => absurd h (by decide)⟩
theorem R_er (h : RR σ τ td np nr) {r : Nat} (hr : r < nr) : (bt (σ.1 14) r = true ↔ τ.2 12 r = 2) := by
  rcases R_st h r hr with g | g | g
  · rw [g.1, g.2.2.2]; exact ⟨fun h => (by cases h), fun h => absurd h (by decide)⟩
  · rw [g.1, g.2.2.2]; exact ⟨fun h => (by cases h), fun h => absurd h (by decide)⟩
  · rw [g.1, g.2.2.2]; exact ⟨fun _ => rfl, fun _ => rfl⟩
theorem R_rq (h : RR σ τ td np nr) {r : Nat} (hr : r < nr) : (bt (σ.1 13) r = true ↔ τ.2 12 r = 1) := by
  rcases R_st h r hr with g | g | g
  · rw [g.1, g.2.2.1]; exact ⟨fun h => (by cases h), fun h => absurd h (by decide)⟩
  · rw [g.1, g.2.2.1]; exact ⟨fun _ => rfl, fun _ => rfl⟩
  · rw [g.1, g.2.2.1]; exact ⟨fun h => (by cases h), fun h => absurd h (by decide)⟩
theorem state_eq (h : RR σ τ td np nr) {r : Nat} (hr : r < nr) : x_state σ r = τ.2 12 r := by
  unfold x_state
  rcases R_st h r hr with g | g | g
  · rw [g.1, g.2.2.2, g.2.2.1, if_neg (by decide), if_neg (by decide)]
  · rw [g.1, g.2.2.2, g.2.2.1, if_neg (by decide), if_pos rfl]
  · rw [g.1, g.2.2.2, if_pos rfl]
theorem endR_eq (h : RR σ τ td np nr) {r : Nat} (hr : r < nr) : x_end σ np r = m_end τ.2 np r := by
  obtain ⟨a, ha, e⟩ := R_add h r hr
  unfold x_end m_end
  rw [R_su h r hr, e, end_nI h.1 ha, (R_rows h).2.2.1, ← (R_rows h).2.1, e]
theorem openR_eq (h : RR σ τ td np nr) {r : Nat} (hr : r < nr) : (x_open σ np (σ.2 8 r) (σ.2 9 r) (σ.2 7 r) = true ↔ τ.1 1 < m_end τ.2 np r) := by
  obtain ⟨a, ha, e⟩ := R_add h r hr
  unfold m_end
  rw [R_su h r hr, e, open_iff h.1 ha, R_t1 h, (R_rows h).2.2.1, ← (R_rows h).2.1, e]
theorem due_eq (h : RR σ τ td np nr) : ∀ n, n ≤ nr → x_due σ np n = m_due τ.2 (τ.1 1) np n
  | 0, _ => rfl
  | n + 1, hn => by
    rw [x_due, m_due, due_eq h n (by omega)]
    have e1 := R_pr h (r := n) (by omega)
    have e2 := openR_eq h (r := n) (by omega)
    by_cases c : bt (σ.1 12) n = true ∧ x_open σ np (σ.2 8 n) (σ.2 9 n) (σ.2 7 n) = false
    · rw [if_pos c, if_pos ⟨e1.mp c.1, fun g => by rw [e2.mpr g] at c; cases c.2⟩]
    · rw [if_neg c, if_neg (fun g => c ⟨e1.mpr g.1, bl_f (fun z => g.2 (e2.mp z))⟩)]
theorem nend_eq (h : RR σ τ td np nr) : ∀ n, n ≤ nr → x_nend σ np n = m_nend τ.2 np n
  | 0, _ => rfl
  | n + 1, hn => by
    rw [x_nend, m_nend, nend_eq h n (by omega), endR_eq h (r := n) (by omega)]
    have e1 := R_pr h (r := n) (by omega)
    by_cases c : bt (σ.1 12) n = true
    · rw [if_pos c]
      by_cases d : m_nend τ.2 np n = -1
      · rw [if_pos d, if_pos ⟨e1.mp c, Or.inl d⟩]
      · rw [if_neg d]
        unfold x_min
        by_cases f : m_end τ.2 np n < m_nend τ.2 np n
        · rw [if_pos f, if_pos ⟨e1.mp c, Or.inr f⟩]
        · rw [if_neg f, if_neg (fun g => g.2.elim d f)]
    · rw [if_neg c, if_neg (fun g => c (e1.mpr g.1))]
theorem uses_eq (h : RR σ τ td np nr) (j q : Nat) : ∀ n, n ≤ nr → x_uses (σ.2 11) (σ.2 9) j q n = m_uses τ.2 j q n
  | 0, _ => rfl
  | n + 1, hn => by
    rw [x_uses, m_uses, uses_eq h j q n (by omega), R_su h n (by omega), (R_rows h).2.2.2.2.1, show n * 8 + q = 8 * n + q by omega]
theorem why_eq (h : RR σ τ td np nr) {r q : Nat} (hr : r < nr) (hq : q < np) : x_why σ np r q = m_rsn τ.2 (τ.1 1) r q := by
  obtain ⟨a, ha, ea⟩ := R_add h r hr
  obtain ⟨v, hv, ev⟩ := h.1.2.2.2.2.2.2 q hq
  have hret : (x_ret σ q (σ.2 7 r) = true ↔ τ.1 1 < τ.2 11 r + τ.2 3 q) := by
    unfold x_ret
    rw [decide_eq_true_eq, R_x0 h, R_t1 h, R_e2 h, ← (R_rows h).2.1]
  have hb := alw_bt (sub := σ.2 9 r) h.1 hq
  unfold x_why m_rsn
  rw [hb, R_su h r hr, (R_rows h).2.2.1]
  rcases R_st h r hr with g | g | g
  · rw [g.1, g.2.2.2, g.2.2.1, if_neg (by decide), if_neg (by decide), if_neg (c := ¬ (0 : Int32) = 0) (by decide)]
    by_cases c1 : bt (τ.2 10 r) q = false
    · rw [if_pos c1, if_pos c1]
    · rw [if_neg c1, if_neg c1]
      by_cases c2 : m_alw τ.2 q (m_subj τ.2 r) = false
      · rw [if_pos c2, if_pos c2]
      · rw [if_neg c2, if_neg c2]
        by_cases c3 : x_ret σ q (σ.2 7 r) = true
        · rw [if_pos c3, if_pos (hret.mp c3)]
        · rw [if_neg c3, if_neg (fun z => c3 (hret.mpr z))]
  · rw [g.1, g.2.2.2, g.2.2.1, if_neg (by decide), if_pos rfl, if_pos (by decide), if_neg (by decide)]
  · rw [g.1, g.2.2.2, if_pos rfl, if_pos (by decide), if_pos rfl]
theorem rof_bits {sb : Nat → Int32} {j i : Nat} (hi : i < 32) : ∀ n, n ≤ 32 → (bt (x_rof sb j n) i = true ↔ i < n ∧ bt (sb i) j = true)
  | 0, _ => by rw [x_rof, b_0]; exact ⟨fun h => (by cases h), fun h => absurd h.1 (by omega)⟩
  | n + 1, hn => by
    rw [x_rof]
    by_cases c : bt (sb n) j = true
    · rw [if_pos c, b_or, Bool.or_eq_true, rof_bits hi n (by omega), bt_bI (by omega) hi, decide_eq_true_eq]
      constructor
      · rintro (g | g)
        · exact ⟨by omega, g.2⟩
        · subst g; exact ⟨by omega, c⟩
      · rintro ⟨g1, g2⟩
        by_cases e : i = n
        · exact Or.inr e
        · exact Or.inl ⟨by omega, g2⟩
    · rw [if_neg c, rof_bits hi n (by omega)]
      constructor
      · rintro ⟨g1, g2⟩; exact ⟨by omega, g2⟩
      · rintro ⟨g1, g2⟩
        by_cases e : i = n
        · subst e; exact absurd g2 c
        · exact ⟨by omega, g2⟩
theorem trc_bits {ρ : RW} {j i : Nat} (hi : i < 32) : ∀ n, n ≤ 32 → (bt (m_trc ρ j n) i = true ↔ i < n ∧ ¬ ρ 12 i = 2 ∧ bt (m_subj ρ i) j = true)
  | 0, _ => by rw [m_trc, b_0]; exact ⟨fun h => (by cases h), fun h => absurd h.1 (by omega)⟩
  | n + 1, hn => by
    rw [m_trc]
    by_cases c : ¬ ρ 12 n = 2 ∧ bt (m_subj ρ n) j = true
    · rw [if_pos c, b_or, Bool.or_eq_true, trc_bits hi n (by omega), bt_bI (by omega) hi, decide_eq_true_eq]
      constructor
      · rintro (g | g)
        · exact ⟨by omega, g.2⟩
        · subst g; exact ⟨by omega, c⟩
      · rintro ⟨g1, g2⟩
        by_cases e : i = n
        · exact Or.inr e
        · exact Or.inl ⟨by omega, g2⟩
    · rw [if_neg c, trc_bits hi n (by omega)]
      constructor
      · rintro ⟨g1, g2⟩; exact ⟨by omega, g2⟩
      · rintro ⟨g1, g2⟩
        by_cases e : i = n
        · subst e; exact absurd g2 c
        · exact ⟨by omega, g2⟩
theorem roots_bits {so sb : Nat → Int32} {j i : Nat} (hi : i < 32) : ∀ n, n ≤ 32 → (bt (x_roots so sb j n) i = true ↔ i < n ∧ so i = 0 ∧ bt (sb i) j = true)
  | 0, _ => by rw [x_roots, b_0]; exact ⟨fun h => (by cases h), fun h => absurd h.1 (by omega)⟩
  | n + 1, hn => by
    rw [x_roots]
    by_cases c : so n = 0 ∧ bt (sb n) j = true
    · rw [if_pos c, b_or, Bool.or_eq_true, roots_bits hi n (by omega), bt_bI (by omega) hi, decide_eq_true_eq]
      constructor
      · rintro (g | g)
        · exact ⟨by omega, g.2⟩
        · subst g; exact ⟨by omega, c⟩
      · rintro ⟨g1, g2⟩
        by_cases e : i = n
        · exact Or.inr e
        · exact Or.inl ⟨by omega, g2⟩
    · rw [if_neg c, roots_bits hi n (by omega)]
      constructor
      · rintro ⟨g1, g2⟩; exact ⟨by omega, g2⟩
      · rintro ⟨g1, g2⟩
        by_cases e : i = n
        · subst e; exact absurd g2 c
        · exact ⟨by omega, g2⟩
theorem tr_eq (h : RR σ τ td np nr) (j : Nat) : x_rof (σ.2 9) j nr &&& (σ.1 14 ^^^ (-1)) = m_trc τ.2 j nr := by
  apply b_ext
  intro i hi
  apply bool_ext
  rw [b_and, bt_not hi, Bool.and_eq_true, rof_bits hi nr (by have := R_nr h; omega), trc_bits hi nr (by have := R_nr h; omega)]
  constructor
  · rintro ⟨⟨h1, h2⟩, h3⟩
    refine ⟨h1, fun g => ?_, by rw [← R_su h i h1]; exact h2⟩
    rw [(R_er h h1).mpr g] at h3; cases h3
  · rintro ⟨h1, h2, h3⟩
    refine ⟨⟨h1, by rw [R_su h i h1]; exact h3⟩, ?_⟩
    rw [bl_f (fun g => h2 ((R_er h h1).mp g))]; rfl
/-- the records of a subject are those found down from its roots -/
theorem roots_sub (h : RR σ τ td np nr) (j : Nat) : ∀ i, i < nr → (bt (x_wab (σ.2 10) (x_roots (σ.2 10) (σ.2 9) j nr) nr) i = true ↔ bt (m_subj τ.2 i) j = true) := by
  have hn := R_nr h
  have e9 := (R_rows h).2.2.2.1
  intro i
  induction i using Nat.strongRecOn with
  | ind i ih =>
    intro hi
    rw [wab_rec (R_sl h) (by omega) hi, roots_bits (by omega) nr (by omega)]
    by_cases c : σ.2 10 i = 0
    · constructor
      · rintro (⟨_, _, g⟩ | ⟨k, hk, g, _⟩)
        · rw [← R_su h i hi]; exact g
        · rw [c, b_0] at g; cases g
      · intro g
        exact Or.inl ⟨hi, c, by rw [R_su h i hi]; exact g⟩
    · rw [subj_rec (fun k hk z hz hb => R_sl h k (by omega) z hz (by rw [e9]; exact hb)) (by omega) (by rw [← e9]; exact c)]
      constructor
      · rintro (⟨_, g, _⟩ | ⟨k, hk, g1, g2⟩)
        · exact absurd g c
        · exact ⟨k, hk, by rw [← e9]; exact g1, (ih k hk (by omega)).mp g2⟩
      · rintro ⟨k, hk, g1, g2⟩
        exact Or.inr ⟨k, hk, by rw [e9]; exact g1, (ih k hk (by omega)).mpr g2⟩
theorem trr_eq (h : RR σ τ td np nr) (j : Nat) : x_wab (σ.2 10) (x_roots (σ.2 10) (σ.2 9) j nr) nr &&& (σ.1 14 ^^^ (-1)) = m_trc τ.2 j nr := by
  have hn := R_nr h
  apply b_ext
  intro i hi
  apply bool_ext
  rw [b_and, bt_not hi, Bool.and_eq_true, trc_bits hi nr (by omega)]
  by_cases c : i < nr
  · rw [roots_sub h j i c]
    constructor
    · rintro ⟨h2, h3⟩
      refine ⟨c, fun g => ?_, h2⟩
      rw [(R_er h c).mpr g] at h3; cases h3
    · rintro ⟨h1, h2, h3⟩
      refine ⟨h3, ?_⟩
      rw [bl_f (fun g => h2 ((R_er h h1).mp g))]; rfl
  · rw [wab_out (by omega) (by omega) hi, roots_bits hi nr (by omega)]
    exact ⟨fun g => absurd g.1.1 c, fun g => absurd g.1 c⟩
end P4
