/-! ===== what is below: the sources' graph ===== -/
theorem and_t {a b : Bool} (h : (a && b) = true) : a = true ∧ b = true := by
  cases a
  · cases h
  · exact ⟨rfl, h⟩
theorem bl_f {b : Bool} (h : ¬ b = true) : b = false := by
  cases b
  · rfl
  · exact absurd rfl h
def SL (so : Nat → Int32) (n : Nat) : Prop := ∀ k, k < n → ∀ i, i < 32 → bt (so k) i = true → i < k
theorem and0 (a b : Int32) : a &&& b = 0 ↔ ∀ i, i < 32 → ¬ (bt a i = true ∧ bt b i = true) := by
  constructor
  · intro h i hi c
    have h1 : bt (a &&& b) i = bt 0 i := by rw [h]
    rw [b_and, b_0, c.1, c.2] at h1
    cases h1
  · intro h
    apply b_ext
    intro i hi
    rw [b_and, b_0]
    have := h i hi
    cases ha : bt a i
    · rfl
    · cases hb : bt b i
      · rfl
      · exact absurd ⟨ha, hb⟩ this
theorem and0n {a b : Int32} (h : ¬ a &&& b = 0) : ∃ i, i < 32 ∧ bt a i = true ∧ bt b i = true := by
  rcases Classical.em (∃ i, i < 32 ∧ bt a i = true ∧ bt b i = true) with c | c
  · exact c
  · exact absurd ((and0 a b).mpr (fun i hi h2 => c ⟨i, hi, h2.1, h2.2⟩)) h
theorem bt_not {x : Int32} {i : Nat} (hi : i < 32) : bt (x ^^^ (-1)) i = !bt x i := by rw [b_xor, b_m1 i hi]; cases bt x i <;> rfl
theorem wab_bits {so : Nat → Int32} {w : Int32} {i : Nat} (hi : i < 32) : ∀ k, k ≤ 32 → (bt (x_wab so w k) i = true ↔ bt w i = true ∨ (i < k ∧ ∃ j, j < 32 ∧ bt (so i) j = true ∧ bt (x_wab so w i) j = true))
  | 0, _ => by
    rw [x_wab]
    exact ⟨Or.inl, fun h => h.elim (fun h => h) (fun h => absurd h.1 (by omega))⟩
  | k + 1, hk => by
    have ih := wab_bits (so := so) (w := w) hi k (by omega)
    rw [x_wab]
    by_cases c : so k &&& x_wab so w k = 0
    · rw [if_pos c, ih]
      constructor
      · rintro (h | h)
        · exact Or.inl h
        · exact Or.inr ⟨by omega, h.2⟩
      · rintro (h | ⟨h1, j, h2, h3, h4⟩)
        · exact Or.inl h
        · by_cases e : i = k
          · subst e; exact absurd ⟨h3, h4⟩ ((and0 _ _).mp c j h2)
          · exact Or.inr ⟨by omega, j, h2, h3, h4⟩
    · rw [if_neg c, b_or, bt_bI (by omega) hi, Bool.or_eq_true, ih, decide_eq_true_eq]
      constructor
      · rintro ((h | h) | h)
        · exact Or.inl h
        · exact Or.inr ⟨by omega, h.2⟩
        · subst h; exact Or.inr ⟨by omega, and0n c⟩
      · rintro (h | ⟨h1, h2⟩)
        · exact Or.inl (Or.inl h)
        · by_cases e : i = k
          · exact Or.inr e
          · exact Or.inl (Or.inr ⟨by omega, h2⟩)
theorem wab_same {so : Nat → Int32} {w : Int32} {j a b : Nat} (ha : j < a) (hb : j < b) (ha2 : a ≤ 32) (hb2 : b ≤ 32) : (bt (x_wab so w a) j = true ↔ bt (x_wab so w b) j = true) := by
  rw [wab_bits (by omega) a ha2, wab_bits (by omega) b hb2]
  constructor
  · rintro (h | h)
    · exact Or.inl h
    · exact Or.inr ⟨hb, h.2⟩
  · rintro (h | h)
    · exact Or.inl h
    · exact Or.inr ⟨ha, h.2⟩
/-- the closure, by its recursion along the sources -/
theorem wab_rec {so : Nat → Int32} {w : Int32} {n i : Nat} (hs : SL so n) (hn : n ≤ 32) (hi : i < n) : (bt (x_wab so w n) i = true ↔ bt w i = true ∨ ∃ j, j < i ∧ bt (so i) j = true ∧ bt (x_wab so w n) j = true) := by
  rw [wab_bits (by omega) n hn]
  constructor
  · rintro (h | ⟨-, j, h2, h3, h4⟩)
    · exact Or.inl h
    · have hj := hs i hi j h2 h3
      exact Or.inr ⟨j, hj, h3, (wab_same hj (by omega) (by omega) hn).mp h4⟩
  · rintro (h | ⟨j, hj, h3, h4⟩)
    · exact Or.inl h
    · exact Or.inr ⟨hi, j, by omega, h3, (wab_same hj (by omega) (by omega) hn).mpr h4⟩
theorem wab_out {so : Nat → Int32} {w : Int32} {n i : Nat} (hn : n ≤ 32) (hi : n ≤ i) (h32 : i < 32) : (bt (x_wab so w n) i = true ↔ bt w i = true) := by
  rw [wab_bits h32 n hn]
  exact ⟨fun h => h.elim (fun h => h) (fun h => absurd h.1 (by omega)), Or.inl⟩
/-- the closure is the least: what holds on w and goes down the sources holds on it -/
theorem wab_least {so : Nat → Int32} {w : Int32} {n : Nat} {Z : Nat → Prop} (hs : SL so n) (hn : n ≤ 32) (h0 : ∀ i, i < n → bt w i = true → Z i) (h1 : ∀ i j, i < n → j < i → bt (so i) j = true → Z j → Z i) : ∀ i, i < n → bt (x_wab so w n) i = true → Z i := by
  intro i
  induction i using Nat.strongRecOn with
  | ind i ih =>
    intro hi h
    rcases (wab_rec hs hn hi).mp h with h | ⟨j, hj, h3, h4⟩
    · exact h0 i hi h
    · exact h1 i j hi hj h3 (ih j hj (by omega) h4)
theorem wab_in {so : Nat → Int32} {w : Int32} {n i : Nat} (hn : n ≤ 32) (hi : i < 32) (h : bt w i = true) : bt (x_wab so w n) i = true := (wab_bits hi n hn).mpr (Or.inl h)
/-- what is below r, and r -/
abbrev wC (so : Nat → Int32) (n r : Nat) : Int32 := x_wab so (bI r) n
theorem wC_ge {so : Nat → Int32} {n r i : Nat} (hs : SL so n) (hn : n ≤ 32) (hr : r < 32) (hi : i < n) (h : bt (wC so n r) i = true) : r ≤ i :=
  wab_least (Z := fun i => r ≤ i) hs hn (fun i hi h => by rw [bt_bI hr (by omega)] at h; have := of_decide_eq_true h; omega) (fun i j _ hj _ h => by omega) i hi h
theorem wC_self {so : Nat → Int32} {n r : Nat} (hn : n ≤ 32) (hr : r < 32) : bt (wC so n r) r = true := wab_in hn hr (by rw [bt_bI hr hr]; simp)
theorem wC_trans {so : Nat → Int32} {n r k i : Nat} (hs : SL so n) (hn : n ≤ 32) (hk : k < n) (hi : i < n) (h1 : bt (wC so n r) k = true) (h2 : bt (wC so n k) i = true) : bt (wC so n r) i = true :=
  wab_least (Z := fun i => bt (wC so n r) i = true) hs hn (fun i hi h => by rw [bt_bI (by omega) (by omega)] at h; rw [of_decide_eq_true h]; exact h1) (fun i j hi hj h3 h4 => (wab_rec hs hn hi).mpr (Or.inr ⟨j, hj, h3, h4⟩)) i hi h2
/-- a closure by its members' closures -/
theorem wab_ex {so : Nat → Int32} {w : Int32} {n i : Nat} (hs : SL so n) (hn : n ≤ 32) (hi : i < n) : (bt (x_wab so w n) i = true ↔ ∃ r, r < n ∧ bt w r = true ∧ bt (wC so n r) i = true) := by
  constructor
  · intro h
    exact wab_least (Z := fun i => ∃ r, r < n ∧ bt w r = true ∧ bt (wC so n r) i = true) hs hn (fun i hi h => ⟨i, hi, h, wC_self hn (by omega)⟩) (fun i j hi hj h3 ⟨r, h4, h5, h6⟩ => ⟨r, h4, h5, (wab_rec hs hn hi).mpr (Or.inr ⟨j, hj, h3, h6⟩)⟩) i hi h
  · rintro ⟨r, h1, h2, h3⟩
    exact wab_least (Z := fun i => bt (x_wab so w n) i = true) hs hn (fun i hi h => by rw [bt_bI (by omega) (by omega)] at h; rw [of_decide_eq_true h]; exact wab_in hn (by omega) h2) (fun i j hi hj h3 h4 => (wab_rec hs hn hi).mpr (Or.inr ⟨j, hj, h3, h4⟩)) i hi h3
theorem belk_bits {so : Nat → Int32} {r i : Nat} (hi : i < 32) : ∀ k, k ≤ 32 → (bt (m_belk so r k) i = true ↔ i < k ∧ r < i ∧ (bt (so i) r = true ∨ ∃ j, j < 32 ∧ bt (so i) j = true ∧ bt (m_belk so r i) j = true))
  | 0, _ => by
    rw [m_belk, b_0]
    exact ⟨fun h => (by cases h), fun h => absurd h.1 (by omega)⟩
  | k + 1, hk => by
    have ih := belk_bits (so := so) (r := r) hi k (by omega)
    rw [m_belk]
    by_cases c : r < k ∧ (bt (so k) r = true ∨ ¬ so k &&& m_belk so r k = 0)
    · rw [if_pos c, b_or, bt_bI (by omega) hi, Bool.or_eq_true, ih, decide_eq_true_eq]
      constructor
      · rintro (h | h)
        · exact ⟨by omega, h.2⟩
        · subst h
          exact ⟨by omega, c.1, c.2.elim Or.inl (fun h => Or.inr (and0n h))⟩
      · rintro ⟨h1, h2⟩
        by_cases e : i = k
        · exact Or.inr e
        · exact Or.inl ⟨by omega, h2⟩
    · rw [if_neg c, ih]
      constructor
      · rintro ⟨h1, h2⟩; exact ⟨by omega, h2⟩
      · rintro ⟨h1, h2, h3⟩
        by_cases e : i = k
        · subst e
          exact absurd ⟨h2, h3.elim Or.inl (fun ⟨j, hj, h4, h5⟩ => Or.inr (fun h0 => (and0 _ _).mp h0 j hj ⟨h4, h5⟩))⟩ c
        · exact ⟨by omega, h2, h3⟩
theorem belk_wC {so : Nat → Int32} {n r : Nat} (hs : SL so n) (hn : n ≤ 32) (hr : r < 32) : ∀ i, i < n → (bt (m_belk so r n) i = true ↔ ¬ i = r ∧ bt (wC so n r) i = true) := by
  intro i
  induction i using Nat.strongRecOn with
  | ind i ih =>
    intro hi
    have hm : ∀ j, j < i → (bt (m_belk so r i) j = true ↔ bt (m_belk so r n) j = true) := fun j hj => by
      rw [belk_bits (by omega) i (by omega), belk_bits (by omega) n hn]
      exact ⟨fun h => ⟨by omega, h.2⟩, fun h => ⟨hj, h.2⟩⟩
    rw [belk_bits (by omega) n hn]
    constructor
    · rintro ⟨-, h2, h3⟩
      refine ⟨by omega, (wab_rec hs hn hi).mpr (Or.inr ?_)⟩
      rcases h3 with h3 | ⟨j, hj, h4, h5⟩
      · exact ⟨r, h2, h3, wC_self hn hr⟩
      · have hji := hs i hi j hj h4
        exact ⟨j, hji, h4, ((ih j hji (by omega)).mp ((hm j hji).mp h5)).2⟩
    · rintro ⟨h1, h2⟩
      have h3 := wC_ge hs hn hr hi h2
      refine ⟨hi, by omega, ?_⟩
      rcases (wab_rec hs hn hi).mp h2 with h | ⟨j, hj, h4, h5⟩
      · rw [bt_bI hr (by omega)] at h
        exact absurd (of_decide_eq_true h) h1
      · by_cases e : j = r
        · subst e; exact Or.inl h4
        · exact Or.inr ⟨j, by omega, h4, (hm j hj).mpr ((ih j hj (by omega)).mpr ⟨e, h5⟩)⟩
theorem bool_ext {a b : Bool} (h : a = true ↔ b = true) : a = b := by
  cases a <;> cases b
  · rfl
  · exact absurd (h.mpr rfl) (by decide)
  · exact absurd (h.mp rfl) (by decide)
  · rfl
/-- the class's answer of below is the reference's -/
theorem bel_eq {σ : ST} {n r : Nat} (hs : SL (σ.2 10) n) (hn : n ≤ 30) (hr : r < n) : x_bel σ n r = m_belk (σ.2 10) r n := by
  apply b_ext
  intro i hi
  apply bool_ext
  unfold x_bel
  rw [b_and, bt_not hi, bt_bI (by omega) hi, Bool.and_eq_true]
  by_cases c : i < n
  · rw [belk_wC hs (by omega) (by omega) i c]
    constructor
    · rintro ⟨h1, h2⟩
      refine ⟨fun e => ?_, h1⟩
      rw [e, decide_eq_true rfl] at h2; cases h2
    · rintro ⟨h1, h2⟩
      exact ⟨h2, by rw [decide_eq_false h1]; rfl⟩
  · rw [wab_out (by omega) (by omega) hi, bt_bI (by omega) hi, belk_bits hi n (by omega)]
    exact ⟨fun h => absurd (of_decide_eq_true h.1) (by omega), fun h => absurd h.1 c⟩
theorem m_cn_ct (st : Nat → Int32) (w : Int32) : ∀ n, m_cn st w n = nI (ct (fun i => bt w i && decide (st i = 0)) n)
  | 0 => rfl
  | n + 1 => by
    rw [m_cn, ct, m_cn_ct st w n]
    by_cases c : bt w n = true ∧ st n = 0
    · rw [if_pos c, if_pos (by rw [c.1, decide_eq_true c.2]; rfl)]; exact nI_1 _
    · rw [if_neg c, if_neg (fun h => c ⟨(and_t h).1, of_decide_eq_true (and_t h).2⟩)]; rfl
/-- which records are asked for by the first k of w -/
def m_M (so st : Nat → Int32) (nr : Nat) (w : Int32) : Nat → Nat → Bool
  | 0, _ => false
  | k + 1, i => m_M so st nr w k i || (bt w k && decide (st k = 0) && bt (wC so nr k) i)
theorem m_M_ex {so st : Nat → Int32} {nr : Nat} {w : Int32} {i : Nat} : ∀ k, (m_M so st nr w k i = true ↔ ∃ r, r < k ∧ bt w r = true ∧ st r = 0 ∧ bt (wC so nr r) i = true)
  | 0 => ⟨fun h => (by cases h), fun ⟨r, h, _⟩ => absurd h (by omega)⟩
  | k + 1 => by
    rw [m_M, Bool.or_eq_true, m_M_ex k, Bool.and_eq_true, Bool.and_eq_true, decide_eq_true_eq]
    constructor
    · rintro (⟨r, h1, h2⟩ | ⟨⟨h1, h2⟩, h3⟩)
      · exact ⟨r, by omega, h2⟩
      · exact ⟨k, by omega, h1, h2, h3⟩
    · rintro ⟨r, h1, h2, h3, h4⟩
      by_cases e : r = k
      · subst e; exact Or.inr ⟨⟨h2, h3⟩, h4⟩
      · exact Or.inl ⟨r, by omega, h2, h3, h4⟩
theorem m_pa_row {nr : Nat} {w : Int32} {σ : ST} {j : Nat} (hj : ¬ j = 12) : ∀ k, (m_paS nr w σ k).2 j = σ.2 j
  | 0 => rfl
  | k + 1 => by
    rw [m_paS]
    by_cases c : bt w k = true
    · rw [if_pos c]
      show (if j = 12 then _ else (m_paS nr w σ k).2 j) = _
      rw [if_neg hj]; exact m_pa_row hj k
    · rw [if_neg c]; exact m_pa_row hj k
theorem aw_bit {ρ : RW} {nr k i : Nat} (hs : SL (ρ 9) nr) (hn : nr ≤ 30) (hk : k < nr) (hi : i < nr) : (bt (m_aw ρ nr k) i = true ↔ ρ 12 k = 0 ∧ bt (wC (ρ 9) nr k) i = true) := by
  unfold m_aw
  by_cases c : ρ 12 k = 0
  · rw [if_pos c, b_or, bt_bI (by omega) (by omega), Bool.or_eq_true, belk_wC hs (by omega) (by omega) i hi, decide_eq_true_eq]
    constructor
    · rintro (h | h)
      · exact ⟨c, h.2⟩
      · subst h; exact ⟨c, wC_self (by omega) (by omega)⟩
    · rintro ⟨-, h⟩
      by_cases e : i = k
      · exact Or.inr e
      · exact Or.inl ⟨e, h⟩
  · rw [if_neg c, b_0]
    exact ⟨fun h => (by cases h), fun h => absurd h.1 c⟩
/-- the states behind asking for the first k of w -/
theorem m_pa_st {nr : Nat} {w : Int32} {σ : ST} (hs : SL (σ.2 9) nr) (hn : nr ≤ 30) : ∀ k, k ≤ nr → ∀ i, i < nr → (m_paS nr w σ k).2 12 i = if σ.2 12 i = 0 ∧ m_M (σ.2 9) (σ.2 12) nr w k i = true then 1 else σ.2 12 i
  | 0, _, i, _ => by
    rw [m_paS, if_neg]
    rintro ⟨-, h⟩; cases h
  | k + 1, hk, i, hi => by
    have ih := m_pa_st (w := w) hs hn k (by omega)
    have h9 : (m_paS nr w σ k).2 9 = σ.2 9 := m_pa_row (by decide) k
    rw [m_paS]
    by_cases c : bt w k = true
    · rw [if_pos c]
      show (if i < nr ∧ bt (m_aw (m_paS nr w σ k).2 nr k) i = true ∧ (m_paS nr w σ k).2 12 i = 0 then 1 else (m_paS nr w σ k).2 12 i) = _
      have ea := aw_bit (ρ := (m_paS nr w σ k).2) (by rw [h9]; exact hs) hn (by omega : k < nr) hi
      rw [h9, ih k (by omega)] at ea
      have e := ih i hi
      by_cases A : σ.2 12 i = 0 ∧ m_M (σ.2 9) (σ.2 12) nr w k i = true
      · rw [if_pos A] at e
        rw [e, if_neg (fun h => absurd h.2.2 (by decide)), if_pos ⟨A.1, by rw [m_M, A.2]; rfl⟩]
      · rw [if_neg A] at e
        rw [e]
        by_cases B : σ.2 12 i = 0 ∧ m_M (σ.2 9) (σ.2 12) nr w (k + 1) i = true
        · rw [if_pos B]
          have y := B.2
          rw [m_M, Bool.or_eq_true, Bool.and_eq_true, Bool.and_eq_true, decide_eq_true_eq] at y
          rcases y with y | ⟨⟨y1, y2⟩, y3⟩
          · exact absurd ⟨B.1, y⟩ A
          · have hkk : ¬ m_M (σ.2 9) (σ.2 12) nr w k k = true := fun h => by
              obtain ⟨r, h1, h2, h3, h4⟩ := (m_M_ex k).mp h
              exact A ⟨B.1, (m_M_ex k).mpr ⟨r, h1, h2, h3, wC_trans hs (by omega) (by omega) hi h4 y3⟩⟩
            rw [if_pos ⟨hi, ea.mpr ⟨by rw [if_neg (fun h => hkk h.2)]; exact y2, y3⟩, B.1⟩]
        · rw [if_neg B, if_neg]
          rintro ⟨-, h2, h3⟩
          obtain ⟨h4, h5⟩ := ea.mp h2
          have h6 : σ.2 12 k = 0 := by
            by_cases g : σ.2 12 k = 0 ∧ m_M (σ.2 9) (σ.2 12) nr w k k = true
            · exact g.1
            · rw [if_neg g] at h4; exact h4
          exact B ⟨h3, by rw [m_M, c, decide_eq_true h6, h5]; simp⟩
    · have e : m_M (σ.2 9) (σ.2 12) nr w (k + 1) i = m_M (σ.2 9) (σ.2 12) nr w k i := by
        rw [m_M, bl_f c]; simp
      rw [if_neg c, ih i hi, e]
/-- how many are asked for by the first k of w -/
theorem m_pa_ct {nr : Nat} {w : Int32} {σ : ST} (hs : SL (σ.2 9) nr) (hn : nr ≤ 30) : ∀ k, k ≤ nr → m_paC nr w σ k = nI (ct (fun i => decide (σ.2 12 i = 0) && m_M (σ.2 9) (σ.2 12) nr w k i) nr)
  | 0, _ => by
    rw [m_paC, ct_zero nr (fun i _ => by rw [m_M, Bool.and_false])]
    rfl
  | k + 1, hk => by
    have ih := m_pa_ct (w := w) hs hn k (by omega)
    have hst := m_pa_st (w := w) hs hn k (by omega)
    have h9 : (m_paS nr w σ k).2 9 = σ.2 9 := m_pa_row (by decide) k
    rw [m_paC]
    by_cases c : bt w k = true
    · rw [if_pos c, ih, m_asC, m_cn_ct, nI_add]
      congr 1
      rw [← ct_or nr (fun i hi h => ?_)]
      · refine ct_cong nr (fun i hi => bool_ext ?_)
        have ea := aw_bit (ρ := (m_paS nr w σ k).2) (by rw [h9]; exact hs) hn (by omega : k < nr) hi
        rw [h9, hst k (by omega)] at ea
        rw [Bool.or_eq_true, Bool.and_eq_true, Bool.and_eq_true, Bool.and_eq_true, decide_eq_true_eq, decide_eq_true_eq, ea, hst i hi, m_M, Bool.or_eq_true, Bool.and_eq_true, Bool.and_eq_true, decide_eq_true_eq]
        constructor
        · rintro (⟨h1, h2⟩ | ⟨⟨h1, h2⟩, h3⟩)
          · exact ⟨h1, Or.inl h2⟩
          · by_cases g : σ.2 12 i = 0 ∧ m_M (σ.2 9) (σ.2 12) nr w k i = true
            · rw [if_pos g] at h3; exact absurd h3 (by decide)
            · rw [if_neg g] at h3
              refine ⟨h3, Or.inr ⟨⟨c, ?_⟩, h2⟩⟩
              by_cases g2 : σ.2 12 k = 0 ∧ m_M (σ.2 9) (σ.2 12) nr w k k = true
              · exact g2.1
              · rw [if_neg g2] at h1; exact h1
        · rintro ⟨h1, h2⟩
          by_cases q : m_M (σ.2 9) (σ.2 12) nr w k i = true
          · exact Or.inl ⟨h1, q⟩
          · rcases h2 with h2 | ⟨⟨-, h3⟩, h4⟩
            · exact absurd h2 q
            · have hkk : ¬ m_M (σ.2 9) (σ.2 12) nr w k k = true := fun h => by
                obtain ⟨r, g1, g2, g3, g4⟩ := (m_M_ex k).mp h
                exact q ((m_M_ex k).mpr ⟨r, g1, g2, g3, wC_trans hs (by omega) (by omega) hi g4 h4⟩)
              exact Or.inr ⟨⟨by rw [if_neg (fun h => hkk h.2)]; exact h3, h4⟩, by rw [if_neg (fun h => q h.2)]; exact h1⟩
      · obtain ⟨h1, h2⟩ := h
        have h3 := and_t h1
        have h4 := and_t h2
        have h5 := of_decide_eq_true h4.2
        rw [hst i hi, if_pos ⟨of_decide_eq_true h3.1, h3.2⟩] at h5
        exact absurd h5 (by decide)
    · rw [if_neg c, ih]
      congr 1
      refine ct_cong nr (fun i _ => ?_)
      rw [m_M, show bt w k = false from bl_f c]
      simp
