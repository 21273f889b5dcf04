/-! ===== a derived record, a source more ===== -/
section Y3
variable {σ μ τ : ST} {υ : Nat → Int64} {td np nr T : Nat}
theorem RR_der (h : RR σ μ td np nr) (h30 : nr < 30) {r : Nat} (hr : r < nr) (P : Int32) : RR (x_addR σ nr (σ.2 9 r) P (bI r)) (m_lay (s_set μ 0 0) nr (-1) (bI r) P) td np (nr + 1) := by
  have hb0 : ¬ bI r = 0 := bI_ne0 (by omega)
  have hso : ∀ i, i < 32 → bt (bI r) i = true → i < nr := fun i hi hb => by
    rw [bt_bI (by omega) hi] at hb; have := of_decide_eq_true hb; omega
  refine RR_lay h (by omega) hso (fun e => absurd e hb0) ?_
  have e9 : ∀ k, (m_lay (s_set μ 0 0) nr (-1) (bI r) P).2 9 k = upd (μ.2 9) nr (bI r) k := fun k => rfl
  have hsl : SL (μ.2 9) nr := by rw [← (R_rows h).2.2.2.1]; exact R_sl h
  have hcg : m_subj (m_lay (s_set μ 0 0) nr (-1) (bI r) P).2 r = m_subj μ.2 r := subj_cong (ρ := μ.2) (n := nr) hsl (by omega) (fun k hk => by rw [e9]; exact upd_ne (by omega)) (fun k hk _ => by show upd (μ.2 8) nr (-1) k = _; exact upd_ne (by omega)) r hr
  rw [R_su h r hr, ← hcg]
  apply b_ext
  intro z _
  apply bool_ext
  rw [subj_rec (r := nr) (fun k hk i hi hb => by
    rw [e9] at hb
    by_cases e : k = nr
    · subst e; rw [upd_self] at hb; exact hso i hi hb
    · rw [upd_ne e] at hb; exact hsl k (by omega) i hi hb) (by omega) (by rw [e9, upd_self]; exact hb0), e9, upd_self]
  constructor
  · intro hz; exact ⟨r, hr, by rw [bt_bI (by omega) (by omega), decide_eq_true rfl], hz⟩
  · rintro ⟨i, hi, hb, hz⟩
    rw [bt_bI (by omega) (by omega)] at hb
    rw [of_decide_eq_true hb] at hz; exact hz
theorem Y_layD (hR : RR σ μ td np nr) (h : YY μ τ υ td np nr T) (hr30 : nr < 30) {r : Nat} (hr : r < nr) (P : Int32) : YY (m_lay (s_set μ 0 0) nr (-1) (bI r) P) (s_put (y_layD τ nr (τ.2 2 r) P r) 7 nr (bI r)) υ td np (nr + 1) T := by
  have hR' := RR_der hR hr30 hr P
  have hsl : SL (μ.2 9) nr := by rw [← (R_rows hR).2.2.2.1]; exact R_sl hR
  have hz := Y_z h (Nat.le_refl nr) hr30
  have hsu : m_subj (m_lay (s_set μ 0 0) nr (-1) (bI r) P).2 nr = m_subj μ.2 r := by
    have := R_su hR' nr (by omega)
    rw [← this, ← R_su hR r hr]
    show upd (σ.2 9) nr (σ.2 9 r) nr = _
    exact upd_self
  have hcg : ∀ k, k < nr → m_subj (m_lay (s_set μ 0 0) nr (-1) (bI r) P).2 k = m_subj μ.2 k := subj_cong (ρ := μ.2) (n := nr) hsl (by omega) (fun k hk => by show upd (μ.2 9) nr (bI r) k = _; exact upd_ne (by omega)) (fun k hk _ => by show upd (μ.2 8) nr (-1) k = _; exact upd_ne (by omega))
  have e3 : ∀ k, (s_put (y_layD τ nr (τ.2 2 r) P r) 7 nr (bI r)).2 3 k = if k < nr ∧ (decide (k = r) || bt (τ.2 3 k) r) = true then τ.2 3 k ||| bI nr else τ.2 3 k := fun k => rfl
  refine ⟨⟨?_, ?_, ?_⟩, h.2.1, h.2.2.1, fun k hk => ?_, fun k hk h30 => ?_, h.2.2.2.2.2.1, fun k hk z hz6 h32 => ?_, h.2.2.2.2.2.2.2.1, Y_T h⟩
  · show upd (τ.2 0) 2 (nI (nr + 1)) 0 = _
    rw [upd_ne (by decide)]; exact Y_q0 h
  · show upd (τ.2 0) 2 (nI (nr + 1)) 1 = _
    rw [upd_ne (by decide)]; exact Y_q1 h
  · show upd (τ.2 0) 2 (nI (nr + 1)) 2 = _
    exact upd_self
  · rw [e3]
    show upd (τ.2 2) nr (τ.2 2 r) k = m_subj (m_lay (s_set μ 0 0) nr (-1) (bI r) P).2 k ∧ (if k < nr ∧ (decide (k = r) || bt (τ.2 3 k) r) = true then τ.2 3 k ||| bI nr else τ.2 3 k) = m_belk (upd (μ.2 9) nr (bI r)) k (nr + 1) ∧ upd (τ.2 4) nr P k = upd (μ.2 10) nr P k ∧ upd (τ.2 5) nr (τ.2 0 0) k = upd (μ.2 11) nr (μ.1 1) k ∧ upd (τ.2 6) (30 + nr) 0 k = upd (μ.2 12) nr 0 k ∧ upd (τ.2 7) nr (bI r) k = upd (μ.2 9) nr (bI r) k ∧ (upd (τ.2 6) (30 + nr) 0 (30 + k) = 1 ↔ upd (μ.2 9) nr (bI r) k = 0)
    rw [upd_ne (i := 30 + nr) (j := k) (by omega)]
    by_cases e : k = nr
    · subst e
      rw [if_neg (fun g => absurd g.1 (Nat.lt_irrefl k)), upd_self, upd_self, upd_self, upd_self, upd_self, upd_self, upd_self, upd_self, upd_self, m_belk_lo _ (Nat.le_refl _), hz.1, hz.2.1, Y_q0 h, R_t1 hR, hsu, Y_r h hr]
      exact ⟨rfl, rfl, rfl, rfl, rfl, rfl, ⟨fun g => absurd g (by decide), fun g => absurd g (bI_ne0 (by omega))⟩⟩
    · have hk2 : k < nr := by omega
      have hkk := h.2.2.2.1 k hk2
      rw [upd_ne e, upd_ne e, upd_ne e, upd_ne e, upd_ne e, upd_ne e, upd_ne e, upd_ne e, upd_ne (i := 30 + nr) (j := 30 + k) (by omega), belk_ext, hcg k hk2]
      refine ⟨hkk.1, ?_, hkk.2.2⟩
      rw [hkk.2.1]
      by_cases c : (decide (k = r) || bt (m_belk (μ.2 9) k nr) r) = true
      · have c2 : bt (bI r) k = true ∨ ¬ bI r &&& m_belk (μ.2 9) k nr = 0 := by
          rcases Bool.or_eq_true _ _ ▸ c with g | g
          · exact Or.inl (by rw [bt_bI (by omega) (by omega)]; exact g)
          · exact Or.inr ((bI_and (by omega)).mpr g)
        rw [if_pos ⟨hk2, c⟩, if_pos ⟨hk2, c2⟩]
      · rw [if_neg (fun g => c g.2), if_neg]
        rintro ⟨_, g⟩
        rw [bt_bI (by omega) (by omega), bI_and (by omega)] at g
        rcases g with g | g
        · exact c (by rw [g]; rfl)
        · exact c (by rw [g, Bool.or_true])
  · show (if k < nr ∧ (decide (k = r) || bt (τ.2 3 k) r) = true then τ.2 3 k ||| bI nr else τ.2 3 k) = 0 ∧ upd (τ.2 6) (30 + nr) 0 k = 0 ∧ upd (τ.2 7) nr (bI r) k = 0
    rw [if_neg (fun g => by omega), upd_ne (by omega), upd_ne (by omega)]
    exact Y_z h (by omega) h30
  · by_cases e : k = nr
    · subst e; rw [hsu]; exact Y_s h hr z hz6 h32
    · rw [hcg k (by omega)]; exact Y_s h (by omega) z hz6 h32
/-- what is reached with a source more -/
theorem wC_src {so : Nat → Int32} {n r sr : Nat} (hn : n ≤ 30) (hr : r < n) (hs : sr < r) (h0 : SL so n) (h1 : SL (upd so r (so r ||| bI sr)) n) {k : Nat} (hk : k < n) : ∀ i, i < n → (bt (wC (upd so r (so r ||| bI sr)) n k) i = true ↔ bt (wC so n k) i = true ∨ (bt (wC so n k) sr = true ∧ bt (wC (upd so r (so r ||| bI sr)) n r) i = true)) := by
  have hb : ∀ i j, bt (so i) j = true → bt (upd so r (so r ||| bI sr) i) j = true := fun i j h => by
    by_cases e : i = r
    · subst e; rw [upd_self, b_or, h]; rfl
    · rw [upd_ne e]; exact h
  have hmono : ∀ i, i < n → bt (wC so n k) i = true → bt (wC (upd so r (so r ||| bI sr)) n k) i = true := by
    refine wab_least (Z := fun i => bt (wC (upd so r (so r ||| bI sr)) n k) i = true) h0 (by omega) (fun i hi h => ?_) (fun i j hi hj hbit hz => ?_)
    · rw [bt_bI (by omega) (by omega)] at h
      rw [of_decide_eq_true h]; exact wC_self (by omega) (by omega)
    · exact (wab_rec h1 (by omega) hi).mpr (Or.inr ⟨j, hj, hb i j hbit, hz⟩)
  have hsr : bt (wC (upd so r (so r ||| bI sr)) n sr) r = true := (wab_rec h1 (by omega) hr).mpr (Or.inr ⟨sr, hs, by rw [upd_self, b_or, bt_bI (by omega) (by omega), decide_eq_true rfl, Bool.or_true], wC_self (by omega) (by omega)⟩)
  intro i hi
  constructor
  · refine wab_least (Z := fun i => bt (wC so n k) i = true ∨ (bt (wC so n k) sr = true ∧ bt (wC (upd so r (so r ||| bI sr)) n r) i = true)) h1 (by omega) (fun i hi h => ?_) (fun i j hi hj hbit hz => ?_) i hi
    · rw [bt_bI (by omega) (by omega)] at h
      rw [of_decide_eq_true h]; exact Or.inl (wC_self (by omega) (by omega))
    · by_cases e : i = r
      · subst e
        rw [upd_self, b_or, bt_bI (by omega) (by omega), Bool.or_eq_true, decide_eq_true_eq] at hbit
        rcases hbit with g | g
        · rcases hz with z | z
          · exact Or.inl ((wab_rec h0 (by omega) hi).mpr (Or.inr ⟨j, hj, g, z⟩))
          · exact Or.inr ⟨z.1, wC_self (by omega) (by omega)⟩
        · subst g
          rcases hz with z | z
          · exact Or.inr ⟨z, wC_self (by omega) (by omega)⟩
          · exact Or.inr ⟨z.1, wC_self (by omega) (by omega)⟩
      · rw [upd_ne e] at hbit
        rcases hz with z | z
        · exact Or.inl ((wab_rec h0 (by omega) hi).mpr (Or.inr ⟨j, hj, hbit, z⟩))
        · exact Or.inr ⟨z.1, (wab_rec h1 (by omega) hi).mpr (Or.inr ⟨j, hj, by rw [upd_ne e]; exact hbit, z.2⟩)⟩
  · rintro (g | g)
    · exact hmono i hi g
    · exact wC_trans h1 (by omega) hr hi (wC_trans h1 (by omega) (by omega) hr (hmono sr (by omega) g.1) hsr) g.2
theorem wC_belk {so : Nat → Int32} {n r : Nat} (hs : SL so n) (hn : n ≤ 32) (hr : r < 32) {i : Nat} (hi : i < n) : (bt (wC so n r) i = true ↔ i = r ∨ bt (m_belk so r n) i = true) := by
  rw [belk_wC hs hn hr i hi]
  constructor
  · intro g
    by_cases e : i = r
    · exact Or.inl e
    · exact Or.inr ⟨e, g⟩
  · rintro (g | g)
    · subst g; exact wC_self hn hr
    · exact g.2
theorem Y_src (hR : RR σ μ td np nr) (h : YY μ τ υ td np nr T) {r sr : Nat} (hr : r < nr) (hs : sr < r) (h0 : ¬ μ.2 9 r = 0) : YY (s_put (s_set μ 0 0) 9 r (μ.2 9 r ||| bI sr)) (y_so3 τ nr r sr nr) υ td np nr T := by
  have hn := R_nr hR
  have hR' := RR_as hR hr hs h0
  have hsl0 : SL (μ.2 9) nr := by rw [← (R_rows hR).2.2.2.1]; exact R_sl hR
  have hsl : SL (upd (μ.2 9) r (μ.2 9 r ||| bI sr)) nr := by
    have := R_sl hR'
    rw [(R_rows hR').2.2.2.1] at this; exact this
  have hbr : m_belk (upd (μ.2 9) r (μ.2 9 r ||| bI sr)) r nr = m_belk (μ.2 9) r nr := belk_cong nr (fun i hi hri => upd_ne (by omega))
  have hwr : ∀ i, i < nr → (bt (wC (upd (μ.2 9) r (μ.2 9 r ||| bI sr)) nr r) i = true ↔ (decide (i = r) || bt (m_belk (μ.2 9) r nr) i) = true) := fun i hi => by
    rw [wC_belk hsl (by omega) (by omega) hi, hbr, Bool.or_eq_true, decide_eq_true_eq]
  have hsub : ∀ k, k < nr → (if (decide (k = r) || bt (m_belk (μ.2 9) r nr) k) = true then m_subj μ.2 k ||| m_subj μ.2 sr else m_subj μ.2 k) = m_subj (s_put (s_set μ 0 0) 9 r (μ.2 9 r ||| bI sr)).2 k := fun k hk => by
    apply b_ext
    intro z _
    apply bool_ext
    rw [as_subj hR hr hs h0 hsl z k hk]
    have hw := hwr k hk
    by_cases c : (decide (k = r) || bt (m_belk (μ.2 9) r nr) k) = true
    · rw [if_pos c, b_or, Bool.or_eq_true]
      exact ⟨fun g => g.elim Or.inl (fun g => Or.inr ⟨hw.mpr c, g⟩), fun g => g.elim Or.inl (fun g => Or.inr g.2)⟩
    · rw [if_neg c]
      exact ⟨Or.inl, fun g => g.elim (fun g => g) (fun g => absurd (hw.mp g.1) c)⟩
  have hbel : ∀ k, k < nr → (if (decide (k = sr) || bt (m_belk (μ.2 9) k nr) sr) = true then m_belk (μ.2 9) k nr ||| (bI r ||| m_belk (μ.2 9) r nr) else m_belk (μ.2 9) k nr) = m_belk (upd (μ.2 9) r (μ.2 9 r ||| bI sr)) k nr := fun k hk => by
    apply b_ext
    intro i h32
    apply bool_ext
    by_cases hi : i < nr
    · have hA := belk_wC hsl (by omega) (show k < 32 by omega) i hi
      have hB := wC_src hn hr hs hsl0 hsl hk i hi
      have hC := belk_wC hsl0 (by omega) (show k < 32 by omega) i hi
      have hD := wC_belk hsl0 (by omega) (show k < 32 by omega) (show sr < nr by omega)
      have hE := hwr i hi
      have hge : bt (wC (upd (μ.2 9) r (μ.2 9 r ||| bI sr)) nr r) i = true → r ≤ i := fun g => wC_ge hsl (by omega) (by omega) hi g
      have hks : bt (wC (μ.2 9) nr k) sr = true → k ≤ sr := fun g => wC_ge hsl0 (by omega) (by omega) (by omega) g
      rw [hA, hB]
      by_cases c : (decide (k = sr) || bt (m_belk (μ.2 9) k nr) sr) = true
      · have c2 : bt (wC (μ.2 9) nr k) sr = true := hD.mpr (by
          rcases Bool.or_eq_true _ _ ▸ c with g | g
          · exact Or.inl (of_decide_eq_true g).symm
          · exact Or.inr g)
        rw [if_pos c, b_or, b_or, bt_bI (by omega) h32, Bool.or_eq_true, hC, ← hE]
        constructor
        · rintro (g | g)
          · exact ⟨g.1, Or.inl g.2⟩
          · exact ⟨by have := hge g; have := hks c2; omega, Or.inr ⟨c2, g⟩⟩
        · rintro ⟨g1, g | g⟩
          · exact Or.inl ⟨g1, g⟩
          · exact Or.inr g.2
      · have c2 : ¬ bt (wC (μ.2 9) nr k) sr = true := fun g => c (by
          rcases hD.mp g with z | z
          · rw [decide_eq_true z.symm]; rfl
          · rw [z, Bool.or_true])
        rw [if_neg c, hC]
        exact ⟨fun g => ⟨g.1, Or.inl g.2⟩, fun g => ⟨g.1, g.2.elim (fun z => z) (fun z => absurd z.1 c2)⟩⟩
    · have hx : ∀ (so : Nat → Int32) (q : Nat), bt (m_belk so q nr) i = false := fun so q => bl_f (fun g => by have := m_belk_bit h32 nr (by omega) g; omega)
      rw [hx]
      by_cases c : (decide (k = sr) || bt (m_belk (μ.2 9) k nr) sr) = true
      · rw [if_pos c, b_or, b_or, hx, hx, bt_bI (by omega) h32, decide_eq_false (by omega)]; exact Iff.rfl
      · rw [if_neg c, hx]
  have e2 : ∀ k, (y_so3 τ nr r sr nr).2 2 k = if k < nr ∧ (decide (k = r) || bt (τ.2 3 r) k) = true then τ.2 2 k ||| τ.2 2 sr else τ.2 2 k := fun k => rfl
  have e3 : ∀ k, (y_so3 τ nr r sr nr).2 3 k = if k < nr ∧ (decide (k = sr) || bt (τ.2 3 k) sr) = true then τ.2 3 k ||| (bI r ||| τ.2 3 r) else τ.2 3 k := fun k => rfl
  refine ⟨h.1, h.2.1, h.2.2.1, fun k hk => ?_, fun k hk h30 => ?_, h.2.2.2.2.2.1, fun k hk z hz6 h32 => ?_, h.2.2.2.2.2.2.2.1, Y_T h⟩
  · have hkk := h.2.2.2.1 k hk
    rw [e2, e3]
    show (if k < nr ∧ (decide (k = r) || bt (τ.2 3 r) k) = true then τ.2 2 k ||| τ.2 2 sr else τ.2 2 k) = m_subj (s_put (s_set μ 0 0) 9 r (μ.2 9 r ||| bI sr)).2 k ∧ (if k < nr ∧ (decide (k = sr) || bt (τ.2 3 k) sr) = true then τ.2 3 k ||| (bI r ||| τ.2 3 r) else τ.2 3 k) = m_belk (upd (μ.2 9) r (μ.2 9 r ||| bI sr)) k nr ∧ τ.2 4 k = μ.2 10 k ∧ τ.2 5 k = μ.2 11 k ∧ τ.2 6 k = μ.2 12 k ∧ upd (τ.2 7) r (τ.2 7 r ||| bI sr) k = upd (μ.2 9) r (μ.2 9 r ||| bI sr) k ∧ (τ.2 6 (30 + k) = 1 ↔ upd (μ.2 9) r (μ.2 9 r ||| bI sr) k = 0)
    rw [← hsub k hk, ← hbel k hk, Y_r h hk, Y_r h (show sr < nr by omega), Y_l h hr, Y_l h hk]
    have hi1 : (if k < nr ∧ (decide (k = r) || bt (m_belk (μ.2 9) r nr) k) = true then m_subj μ.2 k ||| m_subj μ.2 sr else m_subj μ.2 k) = (if (decide (k = r) || bt (m_belk (μ.2 9) r nr) k) = true then m_subj μ.2 k ||| m_subj μ.2 sr else m_subj μ.2 k) := by
      by_cases c : (decide (k = r) || bt (m_belk (μ.2 9) r nr) k) = true
      · rw [if_pos c, if_pos ⟨hk, c⟩]
      · rw [if_neg c, if_neg (fun g => c g.2)]
    have hi2 : (if k < nr ∧ (decide (k = sr) || bt (m_belk (μ.2 9) k nr) sr) = true then m_belk (μ.2 9) k nr ||| (bI r ||| m_belk (μ.2 9) r nr) else m_belk (μ.2 9) k nr) = (if (decide (k = sr) || bt (m_belk (μ.2 9) k nr) sr) = true then m_belk (μ.2 9) k nr ||| (bI r ||| m_belk (μ.2 9) r nr) else m_belk (μ.2 9) k nr) := by
      by_cases c : (decide (k = sr) || bt (m_belk (μ.2 9) k nr) sr) = true
      · rw [if_pos c, if_pos ⟨hk, c⟩]
      · rw [if_neg c, if_neg (fun g => c g.2)]
    refine ⟨hi1, hi2, hkk.2.2.1, hkk.2.2.2.1, hkk.2.2.2.2.1, ?_, ?_⟩
    · by_cases e : k = r
      · subst e; rw [upd_self, upd_self, Y_f h hk]
      · rw [upd_ne e, upd_ne e]; exact Y_f h hk
    · by_cases e : k = r
      · subst e
        rw [upd_self, Y_o h hk]
        exact ⟨fun g => absurd g h0, fun g => by
          have e2 : bt (μ.2 9 k ||| bI sr) sr = bt 0 sr := by rw [g]
          rw [b_or, bt_bI (by omega) (by omega), b_0, decide_eq_true rfl, Bool.or_true] at e2; cases e2⟩
      · rw [upd_ne e]; exact Y_o h hk
  · rw [e3]
    show (if k < nr ∧ (decide (k = sr) || bt (τ.2 3 k) sr) = true then τ.2 3 k ||| (bI r ||| τ.2 3 r) else τ.2 3 k) = 0 ∧ τ.2 6 k = 0 ∧ upd (τ.2 7) r (τ.2 7 r ||| bI sr) k = 0
    rw [if_neg (fun g => by omega), upd_ne (by omega)]
    exact Y_z h hk h30
  · rw [← hsub k hk]
    by_cases c : (decide (k = r) || bt (m_belk (μ.2 9) r nr) k) = true
    · rw [if_pos c, b_or, Y_s h hk z hz6 h32, Y_s h (show sr < nr by omega) z hz6 h32]; rfl
    · rw [if_neg c]; exact Y_s h hk z hz6 h32
end Y3
