/-! ===== the calls that change: sources, use, cases, requests, days, erasing ===== -/
theorem bI_ne0 {r : Nat} (hr : r < 32) : ¬ bI r = 0 := fun e => by
  have e2 : bt (bI r) r = bt 0 r := by rw [e]
  rw [bt_bI hr hr, b_0, decide_eq_true rfl] at e2; cases e2
section P7
variable {σ τ : ST} {td np nr : Nat}
theorem R_s12 (h : RR σ τ td np nr) {z : Nat} (hz : z < 32) : ∀ i, i < nr → bt (m_subj τ.2 i) z = true → z < 12 := by
  have hn := R_nr h
  have e9 := (R_rows h).2.2.2.1
  intro i
  induction i using Nat.strongRecOn with
  | ind i ih =>
    intro hi hb
    by_cases c : τ.2 9 i = 0
    · obtain ⟨j, hj, e⟩ := R_rt h i hi (by rw [e9]; exact c)
      rw [subj_root c, e] at hb
      have hb : bt (bI j) z = true := hb
      rw [bt_bI (by omega) hz] at hb
      have := of_decide_eq_true hb; omega
    · obtain ⟨k, h1, h2, h3⟩ := (subj_rec (fun k hk y hy hb => R_sl h k (by omega) y hy (by rw [e9]; exact hb)) (by omega) c).mp hb
      exact ih k h1 (by omega) h3
theorem as_subj (h : RR σ τ td np nr) {r sr : Nat} (hr : r < nr) (hs : sr < r) (h0 : ¬ τ.2 9 r = 0) (hsl : SL (upd (τ.2 9) r (τ.2 9 r ||| bI sr)) nr) (z : Nat) : ∀ i, i < nr → (bt (m_subj (s_put (s_set τ 0 0) 9 r (τ.2 9 r ||| bI sr)).2 i) z = true ↔ bt (m_subj τ.2 i) z = true ∨ (bt (wC (upd (τ.2 9) r (τ.2 9 r ||| bI sr)) nr r) i = true ∧ bt (m_subj τ.2 sr) z = true)) := by
  have hn := R_nr h
  have hsl0 : SL (τ.2 9) nr := by rw [← (R_rows h).2.2.2.1]; exact R_sl h
  have e9 : ∀ k, (s_put (s_set τ 0 0) 9 r (τ.2 9 r ||| bI sr)).2 9 k = upd (τ.2 9) r (τ.2 9 r ||| bI sr) k := fun _ => rfl
  have hr0 : ¬ (τ.2 9 r ||| bI sr) = 0 := fun e => by
    have e2 : bt (τ.2 9 r ||| bI sr) sr = bt 0 sr := by rw [e]
    rw [b_or, bt_bI (by omega) (by omega), b_0, decide_eq_true rfl, Bool.or_true] at e2; cases e2
  intro i
  induction i using Nat.strongRecOn with
  | ind i ih =>
    intro hi
    by_cases e : i = r
    · subst e
      rw [subj_rec (r := i) (fun k hk y hy hb => hsl k (by omega) y hy (by rw [← e9]; exact hb)) (by omega) (by rw [e9, upd_self]; exact hr0), e9, upd_self]
      have hrec := subj_rec (ρ := τ.2) (r := i) (j := z) (fun k hk y hy hb => hsl0 k (by omega) y hy hb) (by omega) h0
      have hw : ∀ k, k < i → ¬ bt (wC (upd (τ.2 9) i (τ.2 9 i ||| bI sr)) nr i) k = true := fun k hk hb => by
        have := wC_ge hsl (by omega) (by omega) (by omega) hb; omega
      constructor
      · rintro ⟨k, h1, h2, h3⟩
        rw [ih k h1 (by omega)] at h3
        have h5 : bt (m_subj τ.2 k) z = true := h3.elim (fun g => g) (fun g => absurd g.1 (hw k h1))
        rw [b_or, bt_bI (by omega) (by omega), Bool.or_eq_true, decide_eq_true_eq] at h2
        rcases h2 with h2 | h2
        · exact Or.inl (hrec.mpr ⟨k, h1, h2, h5⟩)
        · subst h2; exact Or.inr ⟨wC_self (by omega) (by omega), h5⟩
      · rintro (g | ⟨-, g⟩)
        · obtain ⟨k, h1, h2, h3⟩ := hrec.mp g
          exact ⟨k, h1, by rw [b_or, h2, Bool.true_or], (ih k h1 (by omega)).mpr (Or.inl h3)⟩
        · exact ⟨sr, hs, by rw [b_or, bt_bI (by omega) (by omega), decide_eq_true rfl, Bool.or_true], (ih sr hs (by omega)).mpr (Or.inl g)⟩
    · have ei : upd (τ.2 9) r (τ.2 9 r ||| bI sr) i = τ.2 9 i := upd_ne e
      have hrw := wab_rec (so := upd (τ.2 9) r (τ.2 9 r ||| bI sr)) (w := bI r) hsl (by omega) hi
      rw [bt_bI (by omega) (by omega), decide_eq_false e, ei] at hrw
      by_cases c : τ.2 9 i = 0
      · rw [subj_root (ρ := (s_put (s_set τ 0 0) 9 r (τ.2 9 r ||| bI sr)).2) (by rw [e9, ei]; exact c), subj_root c]
        constructor
        · intro g; exact Or.inl g
        · rintro (g | ⟨g, -⟩)
          · exact g
          · rcases hrw.mp g with g | ⟨k, _, g, _⟩
            · cases g
            · rw [c, b_0] at g; cases g
      · rw [subj_rec (r := i) (fun k hk y hy hb => hsl k (by omega) y hy (by rw [← e9]; exact hb)) (by omega) (by rw [e9, ei]; exact c), e9, ei, subj_rec (ρ := τ.2) (r := i) (fun k hk y hy hb => hsl0 k (by omega) y hy hb) (by omega) c]
        constructor
        · rintro ⟨k, h1, h2, h3⟩
          rcases (ih k h1 (by omega)).mp h3 with g | ⟨g1, g2⟩
          · exact Or.inl ⟨k, h1, h2, g⟩
          · exact Or.inr ⟨hrw.mpr (Or.inr ⟨k, h1, h2, g1⟩), g2⟩
        · rintro (⟨k, h1, h2, h3⟩ | ⟨g1, g2⟩)
          · exact ⟨k, h1, h2, (ih k h1 (by omega)).mpr (Or.inl h3)⟩
          · rcases hrw.mp g1 with g | ⟨k, h1, h2, h3⟩
            · cases g
            · exact ⟨k, h1, h2, (ih k h1 (by omega)).mpr (Or.inr ⟨h3, g2⟩)⟩
theorem RR_as (h : RR σ τ td np nr) {r sr : Nat} (hr : r < nr) (hs : sr < r) (h0 : ¬ τ.2 9 r = 0) : RR (x_asS σ nr r sr) (s_put (s_set τ 0 0) 9 r (τ.2 9 r ||| bI sr)) td np nr := by
  have R := R_rows h
  have hn := R_nr h
  have e10 : upd (σ.2 10) r (σ.2 10 r ||| bI sr) = upd (τ.2 9) r (τ.2 9 r ||| bI sr) := by rw [R.2.2.2.1]
  have hsl : SL (upd (σ.2 10) r (σ.2 10 r ||| bI sr)) nr := by
    intro k hk i hi hb
    by_cases e : k = r
    · subst e
      rw [upd_self, b_or, bt_bI (by omega) hi, Bool.or_eq_true, decide_eq_true_eq] at hb
      rcases hb with hb | hb
      · exact R_sl h k hk i hi hb
      · omega
    · rw [upd_ne e] at hb; exact R_sl h k hk i hi hb
  refine ⟨⟨(R_x0 h :), (R_e4 h :), (R_e2 h :), (R_np h :), (R_td h :), h.1.2.2.2.2.2.1, h.1.2.2.2.2.2.2⟩, (R_t1 h :), (R_x1 h :), (R_t2 h :), (R_x6 h :), (R_t7 h :), hn, ⟨R.1, R.2.1, R.2.2.1, e10, R.2.2.2.2.1, R.2.2.2.2.2⟩, (R_wo h :), (R_cb h :), (R_add h :), hsl, ?_, ?_, (R_st h :), (R_ou h :), (R_ho h :)⟩
  · intro i hi hz
    have hz : upd (σ.2 10) r (σ.2 10 r ||| bI sr) i = 0 := hz
    show ∃ j, j < 12 ∧ τ.2 8 i = nI j
    by_cases e : i = r
    · subst e
      rw [upd_self] at hz
      have e2 : bt (σ.2 10 i ||| bI sr) sr = bt 0 sr := by rw [hz]
      rw [b_or, bt_bI (by omega) (by omega), b_0, decide_eq_true rfl, Bool.or_true] at e2; cases e2
    · rw [upd_ne e] at hz; exact R_rt h i hi hz
  · intro i hi
    show (if i < nr ∧ bt (wC (upd (σ.2 10) r (σ.2 10 r ||| bI sr)) nr r) i = true then σ.2 9 i ||| σ.2 9 sr else σ.2 9 i) = _
    rw [e10] at hsl ⊢
    apply b_ext
    intro z _
    apply bool_ext
    rw [as_subj h hr hs h0 hsl z i hi]
    by_cases c : bt (wC (upd (τ.2 9) r (τ.2 9 r ||| bI sr)) nr r) i = true
    · rw [if_pos ⟨hi, c⟩, b_or, Bool.or_eq_true, R_su h i hi, R_su h sr (by omega)]
      exact ⟨fun g => g.elim Or.inl (fun g => Or.inr ⟨c, g⟩), fun g => g.elim Or.inl (fun g => Or.inr g.2)⟩
    · rw [if_neg (fun g => c g.2), R_su h i hi]
      exact ⟨Or.inl, fun g => g.elim (fun g => g) (fun g => absurd g.1 c)⟩
theorem P_addSource (h : RR σ τ td np nr) (a1 a2 : Int32) : ∃ (code : Nat) (val : Int32) (σ' τ' : ST), x_out_addSource σ a1 a2 code val σ' ∧ m_out_addSource τ a1 a2 val τ' ∧ PC td σ' τ' code := by
  have h30 := R_nr h
  have R := R_rows h
  rcases ix2 a1 (n := nr) (by omega) with hb | ⟨r, hr, rfl⟩
  · exact ⟨1, 0, σ, _, xo_addSource_tA a1 (bad_R h hb) a2, mo_addSource_f a1 a2 (Or.inl (in_R h hb)), PC_1 h⟩
  · rcases ix2 a2 (n := nr) (by omega) with hb | ⟨sr, hs, rfl⟩
    · exact ⟨1, 0, σ, _, xo_addSource_tB r nr (R_x6 h) h30 hr a2 (bad_R h hb), mo_addSource_f (nI r) a2 (Or.inr (in_R h hb)), PC_1 h⟩
    · by_cases b1 : r ≤ sr
      · exact ⟨2, 0, σ, _, xo_addSource_tC r sr nr (R_x6 h) h30 hr hs b1, mo_addSource_g r sr nr (R_t7 h) h30 hr hs (Or.inl b1), PC_2 h⟩
      · have b1 : sr < r := by omega
        by_cases b2 : bt (σ.2 10 r) sr = true
        · exact ⟨2, 0, σ, _, xo_addSource_tD r sr nr (R_x6 h) h30 hr hs b1 b2, mo_addSource_g r sr nr (R_t7 h) h30 hr hs (Or.inr (by rw [← R.2.2.2.1]; exact b2)), PC_2 h⟩
        · have b2 := bl_f b2
          have b2m : bt (τ.2 9 r) sr = false := by rw [← R.2.2.2.1]; exact b2
          by_cases b3 : σ.2 10 r = 0
          · exact ⟨3, 0, σ, _, xo_addSource_tE r sr nr (R_x6 h) h30 hr hs b1 b2 b3, mo_addSource_h r sr nr (R_t7 h) h30 hr hs b1 b2m (Or.inl (by rw [← R.2.2.2.1]; exact b3)), PC_3 h⟩
          · have b3m : ¬ τ.2 9 r = 0 := by rw [← R.2.2.2.1]; exact b3
            by_cases b4 : bt (σ.1 12) r = true
            · by_cases b5 : bt (σ.1 12) sr = true
              · have hR := RR_as h hr b1 b3m
                refine ⟨0, _, _, _, xo_addSource r sr nr (R_x6 h) h30 hr hs b1 b2 b3 b4 b5, ?_, rfl, td, np, nr, by omega, hR⟩
                have e : (x_asS σ nr r sr).2 9 r = m_subj (s_put (s_set τ 0 0) 9 r (τ.2 9 r ||| bI sr)).2 r := R_su hR r hr
                rw [e, pop_size _ (fun i hi h32 => bl_f (fun g => by have := R_s12 hR h32 r hr g; omega))]
                exact mo_addSource r sr nr (R_t7 h) h30 hr hs b1 b2m b3m ((R_pr h hr).mp b4) ((R_pr h hs).mp b5)
              · exact ⟨3, 0, σ, _, xo_addSource_tF r sr nr (R_x6 h) h30 hr hs b1 b2 b3 (Or.inr (bl_f b5)), mo_addSource_h r sr nr (R_t7 h) h30 hr hs b1 b2m (Or.inr (Or.inr (fun z => b5 ((R_pr h hs).mpr z)))), PC_3 h⟩
            · exact ⟨3, 0, σ, _, xo_addSource_tF r sr nr (R_x6 h) h30 hr hs b1 b2 b3 (Or.inl (bl_f b4)), mo_addSource_h r sr nr (R_t7 h) h30 hr hs b1 b2m (Or.inr (Or.inl (fun z => b4 ((R_pr h hr).mpr z)))), PC_3 h⟩
theorem rsn_pos (ρ : RW) (t : Int32) (r q : Nat) : m_rsn ρ t r q = 0 ∨ 0 < m_rsn ρ t r q := by
  unfold m_rsn
  by_cases c1 : ¬ ρ 12 r = 0
  · rw [if_pos c1]
    by_cases c2 : ρ 12 r = 2
    · rw [if_pos c2]; exact Or.inr (by decide)
    · rw [if_neg c2]; exact Or.inr (by decide)
  · rw [if_neg c1]
    by_cases c2 : bt (ρ 10 r) q = false
    · rw [if_pos c2]; exact Or.inr (by decide)
    · rw [if_neg c2]
      by_cases c3 : m_alw ρ q (m_subj ρ r) = false
      · rw [if_pos c3]; exact Or.inr (by decide)
      · rw [if_neg c3]
        by_cases c4 : t < ρ 11 r + ρ 3 q
        · rw [if_pos c4]; exact Or.inl rfl
        · rw [if_neg c4]; exact Or.inr (by decide)
theorem P_use (h : RR σ τ td np nr) (a1 a2 : Int32) : ∃ (code : Nat) (val : Int32) (σ' τ' : ST), x_out_use σ a1 a2 code val σ' ∧ m_out_use τ a1 a2 val τ' ∧ PC td σ' τ' code := by
  have h30 := R_nr h
  have R := R_rows h
  rcases ix2 a1 (n := nr) (by omega) with hb | ⟨r, hr, rfl⟩
  · exact ⟨1, 0, σ, _, xo_use_tA a1 (bad_R h hb) a2, mo_use_f a1 a2 (Or.inl (in_R h hb)), PC_1 h⟩
  · rcases ix2 a2 (n := np) (by have := R_np h; omega) with hb | ⟨q, hq, rfl⟩
    · exact ⟨1, 0, σ, _, xo_use_tB r nr (R_x6 h) h30 hr a2 (bad_P h hb), mo_use_f (nI r) a2 (Or.inr (in_P h hb)), PC_1 h⟩
    · have ew := why_eq h hr hq
      by_cases c : x_why σ np r q = 0
      · refine ⟨0, _, _, _, xo_use r q nr (R_x6 h) h30 hr np (R_x1 h) (R_np h) hq c, by rw [R.2.2.2.2.1, show r * 8 + q = 8 * r + q by omega]; exact mo_use r q nr (R_t7 h) h30 hr np (R_t2 h) (R_np h) hq (by rw [← ew, c]; decide), rfl, td, np, nr, by omega, ?_⟩
        have e11 : upd (σ.2 11) (r * 8 + q) (σ.2 11 (r * 8 + q) + 1) = upd (τ.2 13) (8 * r + q) (τ.2 13 (8 * r + q) + 1) := by rw [R.2.2.2.2.1, show r * 8 + q = 8 * r + q by omega]
        rw [R.2.2.2.2.1] at e11
        rw [R.2.2.2.2.1]
        exact ⟨⟨(R_x0 h :), (R_e4 h :), (R_e2 h :), (R_np h :), (R_td h :), h.1.2.2.2.2.2.1, h.1.2.2.2.2.2.2⟩, (R_t1 h :), (R_x1 h :), (R_t2 h :), (R_x6 h :), (R_t7 h :), h30, ⟨R.1, R.2.1, R.2.2.1, R.2.2.2.1, by show upd (σ.2 11) _ _ = _; rw [R.2.2.2.2.1]; exact e11, R.2.2.2.2.2⟩, (R_wo h :), (R_cb h :), (R_add h :), (R_sl h :), (R_rt h :), (R_su h :), (R_st h :), (R_ou h :), (R_ho h :)⟩
      · exact ⟨2, 0, σ, _, xo_use_tC r q nr (R_x6 h) h30 hr np (R_x1 h) (R_np h) hq c, mo_use_g r q nr (R_t7 h) h30 hr np (R_t2 h) (R_np h) hq ((rsn_pos τ.2 (τ.1 1) r q).elim (fun z => absurd (by rw [ew]; exact z) c) (fun z => z)), PC_2 h⟩
theorem held_bits {hc : Nat → Int32} {z : Nat} : ∀ n, (bt (x_held hc n) z = true ↔ ∃ k, k < n ∧ bt (hc k) z = true)
  | 0 => by rw [x_held, b_0]; exact ⟨fun h => (by cases h), fun ⟨k, h, _⟩ => absurd h (by omega)⟩
  | n + 1 => by
    rw [x_held, b_or, Bool.or_eq_true, held_bits n]
    constructor
    · rintro (⟨k, h1, h2⟩ | h)
      · exact ⟨k, by omega, h2⟩
      · exact ⟨n, by omega, h⟩
    · rintro ⟨k, h1, h2⟩
      by_cases e : k = n
      · subst e; exact Or.inr h2
      · exact Or.inl ⟨k, by omega, h2⟩
theorem P_hold (h : RR σ τ td np nr) (a1 a2 : Int32) : ∃ (code : Nat) (val : Int32) (σ' τ' : ST), x_out_hold σ a1 a2 code val σ' ∧ m_out_hold τ a1 a2 val τ' ∧ PC td σ' τ' code := by
  have h30 := R_nr h
  have R := R_rows h
  rcases ix2 a1 (n := 6) (by decide) with hb | ⟨i, hi, rfl⟩
  · exact ⟨1, 0, σ, _, xo_hold_tA a1 hb a2, mo_hold_f a1 a2 (Or.inl (in_C hb)), PC_1 h⟩
  · rcases ix2 a2 (n := nr) (by omega) with hb | ⟨r, hr, rfl⟩
    · exact ⟨1, 0, σ, _, xo_hold_tB i hi a2 (bad_R h hb), mo_hold_f (nI i) a2 (Or.inr (in_R h hb)), PC_1 h⟩
    · by_cases b1 : bt (σ.1 14) r = true
      · exact ⟨2, 0, σ, _, xo_hold_tC i r nr (R_x6 h) h30 hr hi b1, mo_hold_g i r nr (R_t7 h) h30 hr hi (Or.inl ((R_er h hr).mp b1)), PC_2 h⟩
      · by_cases b2 : bt (σ.2 15 i) r = true
        · exact ⟨2, 0, σ, _, xo_hold_tD i r nr (R_x6 h) h30 hr hi (bl_f b1) b2, mo_hold_g i r nr (R_t7 h) h30 hr hi (Or.inr (by rw [← R.2.2.2.2.2]; exact b2)), PC_2 h⟩
        · refine ⟨0, _, _, s_put (s_set τ 0 0) 14 i (τ.2 14 i ||| bI r), xo_hold i r nr (R_x6 h) h30 hr hi (bl_f b1) (bl_f b2), ?_, rfl, td, np, nr, by omega, ?_⟩
          · rw [pop_size _ (fun k hk h32 => by rw [b_or, bt_bI (by omega) h32, R_ho h i hi k (by omega) h32, decide_eq_false (by omega)]; rfl), R.2.2.2.2.2]
            exact mo_hold i r nr (R_t7 h) h30 hr hi (fun z => b1 ((R_er h hr).mpr z)) (by rw [← R.2.2.2.2.2]; exact bl_f b2)
          · have e15 : upd (σ.2 15) i (σ.2 15 i ||| bI r) = upd (τ.2 14) i (τ.2 14 i ||| bI r) := by rw [R.2.2.2.2.2]
            exact ⟨⟨(R_x0 h :), (R_e4 h :), (R_e2 h :), (R_np h :), (R_td h :), h.1.2.2.2.2.2.1, h.1.2.2.2.2.2.2⟩, (R_t1 h :), (R_x1 h :), (R_t2 h :), (R_x6 h :), (R_t7 h :), h30, ⟨R.1, R.2.1, R.2.2.1, R.2.2.2.1, R.2.2.2.2.1, e15⟩, (R_wo h :), (R_cb h :), (R_add h :), (R_sl h :), (R_rt h :), (R_su h :), (R_st h :), (R_ou h :), fun k hk z hz h32 => by
              show bt (upd (σ.2 15) i (σ.2 15 i ||| bI r) k) z = false
              by_cases e : k = i
              · subst e; rw [upd_self, b_or, bt_bI (by omega) h32, R_ho h k hk z hz h32, decide_eq_false (by omega)]; rfl
              · rw [upd_ne e]; exact R_ho h k hk z hz h32⟩
theorem P_close (h : RR σ τ td np nr) (a1 : Int32) : ∃ (code : Nat) (val : Int32) (σ' τ' : ST), x_out_close σ a1 code val σ' ∧ m_out_close τ a1 val τ' ∧ PC td σ' τ' code := by
  have h30 := R_nr h
  have R := R_rows h
  rcases ix2 a1 (n := 6) (by decide) with hb | ⟨i, hi, rfl⟩
  · exact ⟨1, 0, σ, _, xo_close_t a1 hb, mo_close_f a1 (in_C hb), PC_1 h⟩
  · refine ⟨0, _, _, s_put (s_set τ 0 0) 14 i 0, xo_close i hi, ?_, rfl, td, np, nr, by omega, ?_⟩
    · have e1 : (s_put σ 15 i 0).2 15 = upd (σ.2 15) i 0 := rfl
      have e2 : (s_put (s_set τ 0 0) 14 i 0).2 14 = upd (σ.2 15) i 0 := by rw [R.2.2.2.2.2]; rfl
      have hm := mo_close (σ := τ) i hi
      rw [e2, ← R.2.2.2.2.2] at hm
      rw [e1]
      have hsub : ∀ z, bt (x_held (upd (σ.2 15) i 0) 6) z = true → bt (x_held (σ.2 15) 6) z = true := fun z hz => by
        obtain ⟨k, h1, h2⟩ := (held_bits 6).mp hz
        by_cases e : k = i
        · subst e; rw [upd_self, b_0] at h2; cases h2
        · rw [upd_ne e] at h2; exact (held_bits 6).mpr ⟨k, h1, h2⟩
      have htop : ∀ z, 30 ≤ z → z < 32 → bt (x_held (σ.2 15) 6) z = false := fun z hz h32 => bl_f (fun g => by
        obtain ⟨k, h1, h2⟩ := (held_bits 6).mp g
        rw [R_ho h k h1 z (by omega) h32] at h2; cases h2)
      have hd : ct (bt (x_held (σ.2 15) 6)) 30 = ct (bt (x_held (σ.2 15) 6 &&& (x_held (upd (σ.2 15) i 0) 6 ^^^ (-1)))) 30 + ct (bt (x_held (upd (σ.2 15) i 0) 6)) 30 := by
        rw [← ct_or 30 (fun k hk g => by
          rw [b_and, bt_not (by omega), g.2] at g
          have := (and_t g.1).2; cases this)]
        refine ct_cong 30 (fun k hk => bool_ext ?_)
        rw [Bool.or_eq_true, b_and, bt_not (by omega), Bool.and_eq_true]
        constructor
        · intro g
          cases c : bt (x_held (upd (σ.2 15) i 0) 6) k
          · exact Or.inl ⟨g, rfl⟩
          · exact Or.inr rfl
        · rintro (g | g)
          · exact g.1
          · exact hsub k g
      rw [pop_size _ (fun z hz h32 => by rw [b_and, htop z hz h32]; rfl), m_size_ct _ 30 (by omega)]
      rw [m_size_ct _ 30 (by omega), m_size_ct _ 30 (by omega), pk_sub (by omega), hd, Nat.add_sub_cancel] at hm
      exact hm
    · have e15 : upd (σ.2 15) i 0 = upd (τ.2 14) i 0 := by rw [R.2.2.2.2.2]
      exact ⟨⟨(R_x0 h :), (R_e4 h :), (R_e2 h :), (R_np h :), (R_td h :), h.1.2.2.2.2.2.1, h.1.2.2.2.2.2.2⟩, (R_t1 h :), (R_x1 h :), (R_t2 h :), (R_x6 h :), (R_t7 h :), h30, ⟨R.1, R.2.1, R.2.2.1, R.2.2.2.1, R.2.2.2.2.1, e15⟩, (R_wo h :), (R_cb h :), (R_add h :), (R_sl h :), (R_rt h :), (R_su h :), (R_st h :), (R_ou h :), fun k hk z hz h32 => by
        show bt (upd (σ.2 15) i 0 k) z = false
        by_cases e : k = i
        · subst e; rw [upd_self, b_0]
        · rw [upd_ne e]; exact R_ho h k hk z hz h32⟩
end P7
