/-! ===== what is open, and until when ===== -/
theorem cba_bt {cs : Nat → Int32} {sub init : Int32} {q : Nat} : ∀ n, bt (x_cba cs sub init n) q = (bt init q && m_alf cs q sub n)
  | 0 => by rw [x_cba, m_alf, Bool.and_true]
  | n + 1 => by
    have ih := cba_bt (cs := cs) (sub := sub) (init := init) (q := q) n
    rw [x_cba, m_alf]
    by_cases c : bt sub n = true
    · rw [if_pos c, b_and, ih, c]; simp [Bool.and_assoc]
    · rw [if_neg c, ih, bl_f c]; simp
theorem all_bt_nat : ∀ np, np < 9 → ∀ q, q < 32 → bt (bI np - 1) q = decide (q < np) := by decide +kernel
/-- the relation's rows that what is open rests on -/
def RO (σ : ST) (ρ : RW) (td np : Nat) : Prop := σ.1 0 = nI td ∧ σ.2 4 = ρ 5 ∧ σ.2 2 = ρ 3 ∧ np ≤ 8 ∧ td ≤ 1000000 ∧ (∀ q, q < np → (bt (σ.1 3) q = true ↔ ρ 4 q = 0)) ∧ (∀ q, q < np → ∃ v, v ≤ 3650 ∧ ρ 3 q = nI v)
theorem alw_bt {σ : ST} {ρ : RW} {td np q : Nat} {sub : Int32} (h : RO σ ρ td np) (hq : q < np) : bt (x_alw σ np sub) q = m_alw ρ q sub := by
  obtain ⟨-, h4, -, h8, -, h3, -⟩ := h
  unfold x_alw m_alw
  rw [b_or, cba_bt, all_bt_nat np (by omega) q (by omega), decide_eq_true hq, Bool.true_and, h4]
  by_cases c : ρ 4 q = 0
  · rw [if_pos c, (h3 q hq).mpr c, Bool.or_true]
  · rw [if_neg c, bl_f (fun h => c ((h3 q hq).mp h)), Bool.or_false]
theorem end_all {σ : ST} {ρ : RW} {td np a : Nat} {P sub : Int32} (h : RO σ ρ td np) (ha : a ≤ td) : ∀ n, n ≤ np → ∃ L, L ≤ 3650 ∧ x_lon σ (P &&& x_alw σ np sub) n = nI L ∧ m_enf ρ P sub (nI a) n = nI (a + L) ∧ (x_any σ (P &&& x_alw σ np sub) (nI a) n = true ↔ td < a + L)
  | 0, _ => ⟨0, by omega, rfl, rfl, ⟨fun h => (by cases h), fun h => absurd h (by omega)⟩⟩
  | n + 1, hn => by
    obtain ⟨L, h1, h2, h3, h4⟩ := end_all (P := P) (sub := sub) h ha n (by omega)
    obtain ⟨v, hv, hv2⟩ := h.2.2.2.2.2.2 n (by omega)
    have hb : bt (P &&& x_alw σ np sub) n = (bt P n && m_alw ρ n sub) := by rw [b_and, alw_bt h (by omega)]
    have h0 := h.1
    have hr := h.2.2.1
    have htd := h.2.2.2.2.1
    have hret : x_ret σ n (nI a) = decide (td < a + v) := by
      unfold x_ret
      rw [h0, hr, hv2, nI_add]
      exact bool_ext (by rw [decide_eq_true_eq, decide_eq_true_eq]; exact nI_ltI (by omega) (by omega))
    rw [x_lon, m_enf, x_any, hb]
    by_cases c : (bt P n && m_alw ρ n sub) = true
    · obtain ⟨c1, c2⟩ := and_t c
      rw [if_pos c, h2, hr, hv2, h3, nI_add, c, hret, Bool.true_and]
      by_cases m : v ≤ L
      · refine ⟨L, h1, ?_, ?_, ?_⟩
        · rw [if_neg (nI_nlt m (by omega))]
        · rw [if_neg (fun g => g.2.2 ((nI_leI (by omega) (by omega)).mpr (by omega)))]
        · rw [Bool.or_eq_true, h4, decide_eq_true_eq]; omega
      · refine ⟨v, hv, ?_, ?_, ?_⟩
        · rw [if_pos (nI_lt (by omega) (by omega))]
        · rw [if_pos ⟨c1, c2, fun g => absurd ((nI_leI (by omega) (by omega)).mp g) (by omega)⟩]
        · rw [Bool.or_eq_true, h4, decide_eq_true_eq]; omega
    · refine ⟨L, h1, ?_, ?_, ?_⟩
      · rw [if_neg c, h2]
      · rw [if_neg (fun g => c (by rw [g.1, g.2.1]; rfl)), h3]
      · rw [bl_f c, Bool.false_and, Bool.or_false, h4]
theorem open_iff {σ : ST} {ρ : RW} {td np a : Nat} {P sub : Int32} (h : RO σ ρ td np) (ha : a ≤ td) : (x_open σ np P sub (nI a) = true ↔ nI td < m_enf ρ P sub (nI a) np) := by
  obtain ⟨L, h1, h2, h3, h4⟩ := end_all (P := P) (sub := sub) h ha np (Nat.le_refl _)
  have htd := h.2.2.2.2.1
  unfold x_open
  rw [h4, h3]
  exact (nI_ltI (by omega) (by omega)).symm
theorem end_nI {σ : ST} {ρ : RW} {td np a : Nat} {P sub : Int32} (h : RO σ ρ td np) (ha : a ≤ td) : nI a + x_lon σ (P &&& x_alw σ np sub) np = m_enf ρ P sub (nI a) np := by
  obtain ⟨L, h1, h2, h3, h4⟩ := end_all (P := P) (sub := sub) h ha np (Nat.le_refl _)
  rw [h2, h3, nI_add]
/-! ===== states ===== -/
def RS1 (pr rq er : Int32) (st : Nat → Int32) (r : Nat) : Prop := (st r = 0 ∧ bt pr r = true ∧ bt rq r = false ∧ bt er r = false) ∨ (st r = 1 ∧ bt pr r = false ∧ bt rq r = true ∧ bt er r = false) ∨ (st r = 2 ∧ bt pr r = false ∧ bt rq r = false ∧ bt er r = true)
theorem kpf_0 {st : Nat → Int32} {w : Int32} {r : Nat} : ∀ n, (m_kpf st w r n = 0 ∧ ∀ k, k < n → r < k → bt w k = true → st k = 2) ∨ (m_kpf st w r n = 4 ∧ ∃ k, k < n ∧ r < k ∧ bt w k = true ∧ ¬ st k = 2)
  | 0 => Or.inl ⟨rfl, fun k h => absurd h (by omega)⟩
  | n + 1 => by
    rw [m_kpf]
    by_cases c : r < n ∧ bt w n = true ∧ ¬ st n = 2
    · rw [if_pos c]
      exact Or.inr ⟨rfl, n, by omega, c⟩
    · rw [if_neg c]
      rcases kpf_0 (st := st) (w := w) (r := r) n with ⟨h1, h2⟩ | ⟨h1, k, h2, h3⟩
      · refine Or.inl ⟨h1, fun k hk hr hb => ?_⟩
        by_cases e : k = n
        · subst e
          rcases Classical.em (st k = 2) with g | g
          · exact g
          · exact absurd ⟨hr, hb, g⟩ c
        · exact h2 k (by omega) hr hb
      · exact Or.inr ⟨h1, k, by omega, h3⟩
theorem kept_eq {σ : ST} {ρ : RW} {nr r : Nat} (hs : SL (σ.2 10) nr) (hn : nr ≤ 30) (hr : r < nr) (hst : ∀ i, i < nr → RS1 (σ.1 12) (σ.1 13) (σ.1 14) (ρ 12) i) (h10 : σ.2 10 = ρ 9) (h15 : σ.2 15 = ρ 14) : x_kept σ nr r = m_kept ρ nr r := by
  unfold x_kept m_kept
  rw [bel_eq hs hn hr, h10, h15]
  rcases hst r hr with ⟨g1, g2, g3, g4⟩ | ⟨g1, g2, g3, g4⟩ | ⟨g1, g2, g3, g4⟩
  · rw [g1, g2, g4, if_neg (by decide), if_pos rfl, if_pos (by decide), if_neg (by decide)]
  · rw [g1, g2, g4, if_neg (by decide), if_neg (by decide), if_neg (c := ¬ (1 : Int32) = 1) (by decide)]
    by_cases c : bt (x_held (ρ 14) 6) r = true
    · rw [if_pos c, if_pos c]
    · rw [if_neg c, if_neg c]
      rcases kpf_0 (st := ρ 12) (w := m_belk (ρ 9) r nr) (r := r) nr with ⟨h1, h2⟩ | ⟨h1, k, h2, h3, h4, h5⟩
      · rw [h1, if_pos]
        rw [and0]
        rintro i hi ⟨q1, q2⟩
        obtain ⟨q3, q4, -⟩ := (belk_bits hi nr (by omega)).mp q1
        have q5 := h2 i q3 q4 q1
        rw [bt_not hi] at q2
        rcases hst i q3 with z | z | z
        · rw [z.1] at q5; exact absurd q5 (by decide)
        · rw [z.1] at q5; exact absurd q5 (by decide)
        · rw [z.2.2.2] at q2; cases q2
      · rw [h1, if_neg]
        intro h0
        refine (and0 _ _).mp h0 k (by omega) ⟨h4, ?_⟩
        rw [bt_not (by omega)]
        rcases hst k h2 with z | z | z
        · rw [z.2.2.2]; rfl
        · rw [z.2.2.2]; rfl
        · exact absurd z.1 h5
  · rw [g1, g4, if_pos rfl, if_pos (by decide), if_pos rfl]
/-! ===== subjects ===== -/
def mA (so : Nat → Int32) (i : Nat) : Int32 := m_dn so i (so i)
theorem dn_bits {so : Nat → Int32} : ∀ r, ∀ (v : Int32) (j : Nat), (bt (m_dn so r v) j = true ↔ bt v j = true ∨ ∃ i, i < r ∧ bt v i = true ∧ bt (mA so i) j = true)
  | 0, v, j => by
    rw [m_dn]
    exact ⟨Or.inl, fun h => h.elim (fun h => h) (fun ⟨i, h, _⟩ => absurd h (by omega))⟩
  | r + 1, v, j => by
    rw [m_dn]
    by_cases c : bt v r = true
    · rw [if_pos c, dn_bits r, b_or, Bool.or_eq_true]
      have hA : bt (mA so r) j = true ↔ bt (so r) j = true ∨ ∃ i, i < r ∧ bt (so r) i = true ∧ bt (mA so i) j = true := dn_bits r (so r) j
      constructor
      · rintro ((h | h) | ⟨i, h1, h2, h3⟩)
        · exact Or.inl h
        · exact Or.inr ⟨r, by omega, c, hA.mpr (Or.inl h)⟩
        · rw [b_or, Bool.or_eq_true] at h2
          rcases h2 with h2 | h2
          · exact Or.inr ⟨i, by omega, h2, h3⟩
          · exact Or.inr ⟨r, by omega, c, hA.mpr (Or.inr ⟨i, h1, h2, h3⟩)⟩
      · rintro (h | ⟨i, h1, h2, h3⟩)
        · exact Or.inl (Or.inl h)
        · by_cases e : i = r
          · subst e
            rcases hA.mp h3 with h4 | ⟨k, h4, h5, h6⟩
            · exact Or.inl (Or.inr h4)
            · exact Or.inr ⟨k, h4, by rw [b_or, h5, Bool.or_true], h6⟩
          · exact Or.inr ⟨i, by omega, by rw [b_or, h2, Bool.true_or], h3⟩
    · rw [if_neg c, dn_bits r]
      constructor
      · rintro (h | ⟨i, h1, h2⟩)
        · exact Or.inl h
        · exact Or.inr ⟨i, by omega, h2⟩
      · rintro (h | ⟨i, h1, h2, h3⟩)
        · exact Or.inl h
        · by_cases e : i = r
          · subst e; exact absurd h2 c
          · exact Or.inr ⟨i, by omega, h2, h3⟩
theorem sbj_bits {so rt : Nat → Int32} {w : Int32} {j : Nat} : ∀ n, (bt (m_sbj so rt w n) j = true ↔ ∃ k, k < n ∧ bt w k = true ∧ so k = 0 ∧ bt ((1 : Int32) <<< (rt k &&& 31)) j = true)
  | 0 => by
    rw [m_sbj, b_0]
    exact ⟨fun h => (by cases h), fun ⟨k, h, _⟩ => absurd h (by omega)⟩
  | n + 1 => by
    rw [m_sbj]
    by_cases c : bt w n = true ∧ so n = 0
    · rw [if_pos c, b_or, Bool.or_eq_true, sbj_bits n]
      constructor
      · rintro (⟨k, h1, h2⟩ | h)
        · exact ⟨k, by omega, h2⟩
        · exact ⟨n, by omega, c.1, c.2, h⟩
      · rintro ⟨k, h1, h2, h3, h4⟩
        by_cases e : k = n
        · subst e; exact Or.inr h4
        · exact Or.inl ⟨k, by omega, h2, h3, h4⟩
    · rw [if_neg c, sbj_bits n]
      constructor
      · rintro ⟨k, h1, h2⟩
        exact ⟨k, by omega, h2⟩
      · rintro ⟨k, h1, h2, h3, h4⟩
        by_cases e : k = n
        · subst e; exact absurd ⟨h2, h3⟩ c
        · exact ⟨k, by omega, h2, h3, h4⟩
/-- the subjects of a derived record are those of its sources -/
theorem subj_rec {ρ : RW} {r j : Nat} (hs : ∀ k, k ≤ r → ∀ i, i < 32 → bt (ρ 9 k) i = true → i < k) (h32 : r < 32) (h0 : ¬ ρ 9 r = 0) : (bt (m_subj ρ r) j = true ↔ ∃ i, i < r ∧ bt (ρ 9 r) i = true ∧ bt (m_subj ρ i) j = true) := by
  have hA : ∀ i k, (bt (mA (ρ 9) i) k = true ↔ bt (ρ 9 i) k = true ∨ ∃ z, z < i ∧ bt (ρ 9 i) z = true ∧ bt (mA (ρ 9) z) k = true) := fun i k => dn_bits i (ρ 9 i) k
  have e : m_subj ρ r = m_sbj (ρ 9) (ρ 8) (mA (ρ 9) r) r := by unfold m_subj; rw [if_neg h0]; rfl
  rw [e, sbj_bits]
  constructor
  · rintro ⟨k, h1, h2, h3, h4⟩
    have sk : bt (m_subj ρ k) j = true := by unfold m_subj; rw [if_pos h3]; exact h4
    rcases (hA r k).mp h2 with g | ⟨z, g1, g2, g3⟩
    · exact ⟨k, h1, g, sk⟩
    · refine ⟨z, g1, g2, ?_⟩
      have hz0 : ¬ ρ 9 z = 0 := fun h => by
        rcases (hA z k).mp g3 with g | ⟨y, _, g, _⟩
        · rw [h, b_0] at g; cases g
        · rw [h, b_0] at g; cases g
      have ez : m_subj ρ z = m_sbj (ρ 9) (ρ 8) (mA (ρ 9) z) z := by unfold m_subj; rw [if_neg hz0]; rfl
      rw [ez, sbj_bits]
      have hkz : ∀ z, z ≤ r → ∀ k, k < 32 → bt (mA (ρ 9) z) k = true → k < z := by
        intro z
        induction z using Nat.strongRecOn with
        | ind z ih =>
          intro hz k hk h
          rcases (hA z k).mp h with g | ⟨y, g4, g5, g6⟩
          · exact hs z hz k hk g
          · have := ih y g4 (by omega) k hk g6; omega
      exact ⟨k, hkz z (by omega) k (by omega) g3, g3, h3, h4⟩
  · rintro ⟨i, h1, h2, h3⟩
    by_cases hi0 : ρ 9 i = 0
    · have ei : m_subj ρ i = (1 : Int32) <<< (ρ 8 i &&& 31) := by unfold m_subj; rw [if_pos hi0]
      rw [ei] at h3
      exact ⟨i, h1, (hA r i).mpr (Or.inl h2), hi0, h3⟩
    · have ei : m_subj ρ i = m_sbj (ρ 9) (ρ 8) (mA (ρ 9) i) i := by unfold m_subj; rw [if_neg hi0]; rfl
      rw [ei, sbj_bits] at h3
      obtain ⟨k, g1, g2, g3, g4⟩ := h3
      exact ⟨k, by omega, (hA r k).mpr (Or.inr ⟨i, h1, h2, g2⟩), g3, g4⟩
theorem subj_root {ρ : RW} {r : Nat} (h0 : ρ 9 r = 0) : m_subj ρ r = (1 : Int32) <<< (ρ 8 r &&& 31) := by unfold m_subj; rw [if_pos h0]
theorem big_f {x : Int32} {j : Nat} (h : 32 ≤ j) : bt x j = false := b_big h
/-- subjects depend on the rows up to the record alone -/
theorem subj_cong {ρ ρ' : RW} {n : Nat} (hs : SL (ρ 9) n) (hn : n ≤ 32) (h9 : ∀ k, k < n → ρ' 9 k = ρ 9 k) (h8 : ∀ k, k < n → ρ 9 k = 0 → ρ' 8 k = ρ 8 k) : ∀ r, r < n → m_subj ρ' r = m_subj ρ r := by
  intro r
  induction r using Nat.strongRecOn with
  | ind r ih =>
    intro hr
    by_cases c : ρ 9 r = 0
    · rw [subj_root c, subj_root (by rw [h9 r hr]; exact c), h8 r hr c]
    · apply b_ext
      intro j _
      apply bool_ext
      have hs' : ∀ k, k ≤ r → ∀ i, i < 32 → bt (ρ' 9 k) i = true → i < k := fun k hk i hi h => hs k (by omega) i hi (by rw [← h9 k (by omega)]; exact h)
      rw [subj_rec hs' (by omega) (by rw [h9 r hr]; exact c), subj_rec (fun k hk i hi h => hs k (by omega) i hi h) (by omega) c, h9 r hr]
      constructor
      · rintro ⟨i, h1, h2, h3⟩; exact ⟨i, h1, h2, by rw [← ih i h1 (by omega)]; exact h3⟩
      · rintro ⟨i, h1, h2, h3⟩; exact ⟨i, h1, h2, by rw [ih i h1 (by omega)]; exact h3⟩
