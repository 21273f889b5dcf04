/-! ===== the reference's answers, as functions of its rows ρ (slots as in TX1) ===== -/
def m_in (v a b : Int32) : Bool := decide (¬ v < a) && decide (¬ b < v)
theorem m_in_t {j n : Nat} {b : Int32} (hb : b = nI n - 1) (hj : j < n) (hn : n < 2 ^ 31) : m_in (nI j) 0 b = true := by
  have h2 : ¬ b < nI j := by
    rw [hb, show (1 : Int32) = nI 1 from rfl, pk_sub (by omega)]
    exact nI_nlt (by omega) (by omega)
  rw [m_in, decide_eq_true (nI_pos (by omega)), decide_eq_true h2]; rfl
theorem m_in_f {v b : Int32} {n : Nat} (hb : b = nI n - 1) (hn : n < 2 ^ 31) (hv : v < 0 ∨ nI n ≤ v) : m_in v 0 b = false := by
  rcases hv with h | h
  · rw [m_in, decide_eq_f (fun h2 => h2 h)]; rfl
  · have h2 : b < v := by
      rcases Nat.eq_zero_or_pos n with e | e
      · subst e
        rw [hb, show nI 0 - 1 = (-1 : Int32) by decide]
        exact Int32.lt_of_lt_of_le (show (-1 : Int32) < nI 0 by decide) h
      · rw [hb, show (1 : Int32) = nI 1 from rfl, pk_sub (by omega)]
        exact Int32.lt_of_lt_of_le (nI_lt (by omega) hn) h
    rw [m_in, decide_eq_f (q := ¬ b < v) (fun h3 => h3 h2), Bool.and_false]
theorem m_has_nat (x : Int32) {k : Nat} (hk : k < 32) : (x >>> (nI k &&& 31)) &&& 1 = if bt x k = true then 1 else 0 := by
  apply b_ext
  intro i hi
  rw [b_and, b_sshr k hk x hi]
  have h1 : bt 1 i = decide (i = 0) := by
    have := bt_bI (k := 0) (i := i) (by omega) hi
    rwa [show bI 0 = 1 by decide] at this
  rw [h1]
  by_cases e : i = 0
  · subst e
    rw [if_pos (by omega), Nat.add_zero]
    cases h : bt x k
    · simp [b_0]
    · simp; decide
  · simp [e]
    cases h : bt x k
    · simp [b_0]
    · simp [h1, e]
theorem m_has_t {x : Int32} {k : Nat} (hk : k < 32) (c : (x >>> (nI k &&& 31)) &&& 1 = 1) : bt x k = true := by
  rw [m_has_nat x hk] at c
  cases h : bt x k
  · rw [h] at c; exact absurd c (by decide)
  · rfl
theorem m_has_f {x : Int32} {k : Nat} (hk : k < 32) (c : ¬ (x >>> (nI k &&& 31)) &&& 1 = 1) : bt x k = false := by
  rw [m_has_nat x hk] at c
  cases h : bt x k
  · rfl
  · rw [h] at c; exact absurd rfl c
theorem m_ix (a b : Nat) : 8 * nI a + nI b = nI (8 * a + b) := by rw [show (8 : Int32) = nI 8 from rfl, pk_mul, nI_add]
theorem or0 (v : Int32) : v ||| 0 = v := Int32.or_zero
theorem add0 (v : Int32) : v + 0 = v := Int32.add_zero v
def m_size (set : Int32) : Nat → Int32
  | 0 => 0
  | k + 1 => m_size set k + ((set >>> (nI k &&& 31)) &&& 1)
def m_dn (so : Nat → Int32) : Nat → Int32 → Int32
  | 0, v => v
  | k + 1, v => if bt v k = true then m_dn so k (v ||| so k) else m_dn so k v
def m_sbj (so rt : Nat → Int32) (w : Int32) : Nat → Int32
  | 0 => 0
  | k + 1 => if bt w k = true ∧ so k = 0 then m_sbj so rt w k ||| ((1 : Int32) <<< (rt k &&& 31)) else m_sbj so rt w k
abbrev RW : Type := Nat → Nat → Int32
def m_subj (ρ : RW) (r : Nat) : Int32 := if ρ 9 r = 0 then (1 : Int32) <<< (ρ 8 r &&& 31) else m_sbj (ρ 9) (ρ 8) (m_dn (ρ 9) r (ρ 9 r)) r
def m_belk (so : Nat → Int32) (r : Nat) : Nat → Int32
  | 0 => 0
  | k + 1 => if r < k ∧ (bt (so k) r = true ∨ ¬ so k &&& m_belk so r k = 0) then m_belk so r k ||| bI k else m_belk so r k
theorem m_belk_lo {so : Nat → Int32} {r : Nat} : ∀ k, k ≤ r + 1 → m_belk so r k = 0
  | 0, _ => rfl
  | k + 1, h => by rw [m_belk, if_neg (by omega)]; exact m_belk_lo k (by omega)
def m_alf (cs : Nat → Int32) (q : Nat) (of : Int32) : Nat → Bool
  | 0 => true
  | k + 1 => m_alf cs q of k && (!bt of k || bt (cs k) q)
def m_alw (ρ : RW) (q : Nat) (of : Int32) : Bool := if ρ 4 q = 0 then true else m_alf (ρ 5) q of 12
def m_enf (ρ : RW) (w of day : Int32) : Nat → Int32
  | 0 => day
  | k + 1 => if bt w k = true ∧ m_alw ρ k of = true ∧ ¬ day + ρ 3 k ≤ m_enf ρ w of day k then day + ρ 3 k else m_enf ρ w of day k
def m_end (ρ : RW) (np r : Nat) : Int32 := m_enf ρ (ρ 10 r) (m_subj ρ r) (ρ 11 r) np
def m_rsn (ρ : RW) (td : Int32) (r q : Nat) : Int32 := if ¬ ρ 12 r = 0 then (if ρ 12 r = 2 then 1 else 2) else if bt (ρ 10 r) q = false then 3 else if m_alw ρ q (m_subj ρ r) = false then 4 else if td < ρ 11 r + ρ 3 q then 0 else 5
def m_due (ρ : RW) (td : Int32) (np : Nat) : Nat → Int32
  | 0 => 0
  | k + 1 => if ρ 12 k = 0 ∧ ¬ td < m_end ρ np k then m_due ρ td np k ||| bI k else m_due ρ td np k
def m_kpf (st : Nat → Int32) (w : Int32) (r : Nat) : Nat → Int32
  | 0 => 0
  | k + 1 => if r < k ∧ bt w k = true ∧ ¬ st k = 2 then 4 else m_kpf st w r k
theorem m_kpf_lo {st : Nat → Int32} {w : Int32} {r : Nat} : ∀ k, k ≤ r + 1 → m_kpf st w r k = 0
  | 0, _ => rfl
  | k + 1, h => by rw [m_kpf, if_neg (by omega)]; exact m_kpf_lo k (by omega)
def m_kept (ρ : RW) (nr r : Nat) : Int32 := if ¬ ρ 12 r = 1 then (if ρ 12 r = 2 then 1 else 2) else if bt (x_held (ρ 14) 6) r = true then 3 else m_kpf (ρ 12) (m_belk (ρ 9) r nr) r nr
def m_fo (ρ : RW) (nr : Nat) : Nat → Option Nat
  | 0 => none
  | k + 1 => if m_kept ρ nr k = 0 then some k else m_fo ρ nr k
def m_oI : Option Nat → Int32
  | none => -1
  | some k => nI k
theorem m_fo_lt {ρ : RW} {nr j : Nat} : ∀ k, m_fo ρ nr k = some j → j < k
  | 0, h => by cases h
  | k + 1, h => by
    rw [m_fo] at h
    by_cases e : m_kept ρ nr k = 0
    · rw [if_pos e] at h; cases h; omega
    · rw [if_neg e] at h; have := m_fo_lt k h; omega
theorem nI_ne_m1 {j : Nat} (h : j < 2 ^ 31) : ¬ nI j = -1 := fun e => nI_pos h (by rw [e]; decide)
/-- all erasing, by steps: at most n of them -/
def m_eaR (nr : Nat) : Nat → ST → Int32 → Option (ST × Int32)
  | 0, _, _ => none
  | n + 1, σ, cnt => match m_fo σ.2 nr nr with
    | none => some (σ, cnt)
    | some j => m_eaR nr n (s_put σ 12 j 2) (cnt + 1)
def m_trc (ρ : RW) (j : Nat) : Nat → Int32
  | 0 => 0
  | k + 1 => if ¬ ρ 12 k = 2 ∧ bt (m_subj ρ k) j = true then m_trc ρ j k ||| bI k else m_trc ρ j k
def m_nend (ρ : RW) (np : Nat) : Nat → Int32
  | 0 => -1
  | k + 1 => if ρ 12 k = 0 ∧ (m_nend ρ np k = -1 ∨ m_end ρ np k < m_nend ρ np k) then m_end ρ np k else m_nend ρ np k
def m_uses (ρ : RW) (j q : Nat) : Nat → Int32
  | 0 => 0
  | k + 1 => if bt (m_subj ρ k) j = true then m_uses ρ j q k + ρ 13 (8 * k + q) else m_uses ρ j q k
/-- asking for r and what is below: the set, the rows, how many -/
def m_aw (ρ : RW) (nr r : Nat) : Int32 := if ρ 12 r = 0 then m_belk (ρ 9) r nr ||| bI r else 0
theorem m_belk_bit {so : Nat → Int32} {r i : Nat} (hi : i < 32) : ∀ k, k ≤ 32 → bt (m_belk so r k) i = true → r < i ∧ i < k
  | 0, _, h => by rw [m_belk, b_0] at h; cases h
  | k + 1, hk, h => by
    rw [m_belk] at h
    by_cases c : r < k ∧ (bt (so k) r = true ∨ ¬ so k &&& m_belk so r k = 0)
    · rw [if_pos c, b_or, bt_bI (by omega) hi, Bool.or_eq_true] at h
      rcases h with h | h
      · have := m_belk_bit hi k (by omega) h; omega
      · have := of_decide_eq_true h; omega
    · rw [if_neg c] at h
      have := m_belk_bit hi k (by omega) h; omega
theorem m_aw_lo {ρ : RW} {nr r i : Nat} (hnr : nr ≤ 32) (hr : r < 32) (hi : i < r) : bt (m_aw ρ nr r) i = false := by
  cases h : bt (m_aw ρ nr r) i
  · rfl
  · exfalso
    rw [m_aw] at h
    by_cases c : ρ 12 r = 0
    · rw [if_pos c, b_or, bt_bI hr (by omega), Bool.or_eq_true] at h
      rcases h with h | h
      · have := m_belk_bit (by omega) nr hnr h; omega
      · have := of_decide_eq_true h; omega
    · rw [if_neg c, b_0] at h; cases h
def m_stS (σ : ST) (w : Int32) (k : Nat) : ST := (σ.1, fun j => if j = 12 then (fun i => if i < k ∧ bt w i = true ∧ σ.2 12 i = 0 then 1 else σ.2 12 i) else σ.2 j)
def m_cn (st : Nat → Int32) (w : Int32) : Nat → Int32
  | 0 => 0
  | k + 1 => if bt w k = true ∧ st k = 0 then m_cn st w k + 1 else m_cn st w k
theorem m_cn_lo {st : Nat → Int32} {w : Int32} : ∀ r, (∀ i, i < r → bt w i = false) → m_cn st w r = 0
  | 0, _ => rfl
  | k + 1, h => by
    rw [m_cn, if_neg (fun c => by rw [h k (by omega)] at c; cases c.1)]
    exact m_cn_lo k (fun i hi => h i (by omega))
theorem m_st_ext {σ : ST} {a b : RW} (h5 : ∀ i, a 12 i = b 12 i) (h : ∀ j, j ≠ 12 → a j = b j) : (σ.1, a) = (σ.1, b) := by
  apply Prod.ext
  · rfl
  · funext j
    by_cases e : j = 12
    · subst e; exact funext h5
    · exact h j e
theorem m_st_lo {σ : ST} {w : Int32} {r : Nat} (h : ∀ i, i < r → bt w i = false) : m_stS σ w r = σ := by
  refine m_st_ext (σ := σ) (b := σ.2) (fun i => ?_) (fun j e => ?_)
  · show (if i < r ∧ bt w i = true ∧ σ.2 12 i = 0 then 1 else σ.2 12 i) = _
    rw [if_neg (fun c => by rw [h i c.1] at c; cases c.2.1)]
  · show (if j = 12 then _ else _) = _
    rw [if_neg e]
theorem m_st_at {σ : ST} {w : Int32} {k : Nat} : (m_stS σ w k).2 12 k = σ.2 12 k := by
  show (if k < k ∧ bt w k = true ∧ σ.2 12 k = 0 then 1 else σ.2 12 k) = _
  rw [if_neg (by omega)]
theorem m_st_t {σ : ST} {w : Int32} {k : Nat} (h : bt w k = true) (h0 : σ.2 12 k = 0) : s_put (m_stS σ w k) 12 k 1 = m_stS σ w (k + 1) := by
  refine m_st_ext (fun i => ?_) (fun j e => ?_)
  · show upd (fun i => if i < k ∧ bt w i = true ∧ σ.2 12 i = 0 then 1 else σ.2 12 i) k 1 i = (if i < k + 1 ∧ bt w i = true ∧ σ.2 12 i = 0 then 1 else σ.2 12 i)
    by_cases e : i = k
    · subst e; rw [upd_self, if_pos ⟨by omega, h, h0⟩]
    · rw [upd_ne e]
      by_cases c : i < k ∧ bt w i = true ∧ σ.2 12 i = 0
      · rw [if_pos c, if_pos ⟨by omega, c.2⟩]
      · rw [if_neg c, if_neg (fun c2 => c ⟨by omega, c2.2⟩)]
  · show (if j = 12 then _ else _) = (if j = 12 then _ else _)
    rw [if_neg e, if_neg e]
    show (if j = 12 then _ else _) = _
    rw [if_neg e]
theorem m_st_f {σ : ST} {w : Int32} {k : Nat} (h : ¬ (bt w k = true ∧ σ.2 12 k = 0)) : m_stS σ w k = m_stS σ w (k + 1) := by
  refine m_st_ext (fun i => ?_) (fun j e => ?_)
  · show (if i < k ∧ bt w i = true ∧ σ.2 12 i = 0 then 1 else σ.2 12 i) = (if i < k + 1 ∧ bt w i = true ∧ σ.2 12 i = 0 then 1 else σ.2 12 i)
    by_cases c : i < k ∧ bt w i = true ∧ σ.2 12 i = 0
    · rw [if_pos c, if_pos ⟨by omega, c.2⟩]
    · rw [if_neg c, if_neg]
      rintro ⟨c1, c2⟩
      by_cases e : i = k
      · subst e; exact h c2
      · exact c ⟨by omega, c2⟩
  · show (if j = 12 then _ else _) = (if j = 12 then _ else _)
    rw [if_neg e, if_neg e]
def m_asS (σ : ST) (nr r : Nat) : ST := m_stS σ (m_aw σ.2 nr r) nr
def m_asC (ρ : RW) (nr r : Nat) : Int32 := m_cn (ρ 12) (m_aw ρ nr r) nr
/-- asking for all of a set, upwards -/
def m_paS (nr : Nat) (w : Int32) (σ : ST) : Nat → ST
  | 0 => σ
  | k + 1 => if bt w k = true then m_asS (m_paS nr w σ k) nr k else m_paS nr w σ k
def m_paC (nr : Nat) (w : Int32) (σ : ST) : Nat → Int32
  | 0 => 0
  | k + 1 => if bt w k = true then m_paC nr w σ k + m_asC (m_paS nr w σ k).2 nr k else m_paC nr w σ k
theorem m_pa_1 {nr : Nat} {w : Int32} {σ : ST} : ∀ k, (m_paS nr w σ k).1 = σ.1
  | 0 => rfl
  | k + 1 => by
    rw [m_paS]
    by_cases c : bt w k = true
    · rw [if_pos c]; exact m_pa_1 k
    · rw [if_neg c]; exact m_pa_1 k
/-- asking for all records of a subject, upwards -/
def m_rqS (nr j : Nat) (σ : ST) : Nat → ST
  | 0 => σ
  | k + 1 => if bt (m_subj (m_rqS nr j σ k).2 k) j = true then m_asS (m_rqS nr j σ k) nr k else m_rqS nr j σ k
def m_rqC (nr j : Nat) (σ : ST) : Nat → Int32
  | 0 => 0
  | k + 1 => if bt (m_subj (m_rqS nr j σ k).2 k) j = true then m_rqC nr j σ k + m_asC (m_rqS nr j σ k).2 nr k else m_rqC nr j σ k
theorem m_rq_1 {nr j : Nat} {σ : ST} : ∀ k, (m_rqS nr j σ k).1 = σ.1
  | 0 => rfl
  | k + 1 => by
    rw [m_rqS]
    by_cases c : bt (m_subj (m_rqS nr j σ k).2 k) j = true
    · rw [if_pos c]; exact m_rq_1 k
    · rw [if_neg c]; exact m_rq_1 k
/-- the days with consent, below the index k -/
def m_pdS (σ : ST) (dd : Int32) (k : Nat) : ST := (σ.1, fun j => if j = 6 then (fun i => if i < k ∧ bt (σ.2 5 (i / 8)) (i % 8) = true then σ.2 6 i + dd else σ.2 6 i) else σ.2 j)
theorem m_pd_ext {σ : ST} {a b : RW} (h5 : ∀ i, a 6 i = b 6 i) (h : ∀ j, j ≠ 6 → a j = b j) : (σ.1, a) = (σ.1, b) := by
  apply Prod.ext
  · rfl
  · funext j
    by_cases e : j = 6
    · subst e; exact funext h5
    · exact h j e
theorem m_pd_0 {σ : ST} {dd : Int32} : m_pdS σ dd 0 = σ := by
  refine m_pd_ext (σ := σ) (b := σ.2) (fun i => ?_) (fun j e => ?_)
  · show (if i < 0 ∧ bt (σ.2 5 (i / 8)) (i % 8) = true then σ.2 6 i + dd else σ.2 6 i) = _
    rw [if_neg (by omega)]
  · show (if j = 6 then _ else _) = _
    rw [if_neg e]
theorem m_pd_t {σ : ST} {dd : Int32} {k : Nat} (h : bt (σ.2 5 (k / 8)) (k % 8) = true) : s_put (m_pdS σ dd k) 6 k ((m_pdS σ dd k).2 6 k + dd) = m_pdS σ dd (k + 1) := by
  refine m_pd_ext (fun i => ?_) (fun j e => ?_)
  · show upd (fun i => if i < k ∧ bt (σ.2 5 (i / 8)) (i % 8) = true then σ.2 6 i + dd else σ.2 6 i) k ((if k < k ∧ bt (σ.2 5 (k / 8)) (k % 8) = true then σ.2 6 k + dd else σ.2 6 k) + dd) i = (if i < k + 1 ∧ bt (σ.2 5 (i / 8)) (i % 8) = true then σ.2 6 i + dd else σ.2 6 i)
    by_cases e : i = k
    · subst e; rw [upd_self, if_neg (by omega), if_pos ⟨by omega, h⟩]
    · rw [upd_ne e]
      by_cases c : i < k ∧ bt (σ.2 5 (i / 8)) (i % 8) = true
      · rw [if_pos c, if_pos ⟨by omega, c.2⟩]
      · rw [if_neg c, if_neg (fun c2 => c ⟨by omega, c2.2⟩)]
  · show (if j = 6 then _ else _) = (if j = 6 then _ else _)
    rw [if_neg e, if_neg e]
    show (if j = 6 then _ else _) = _
    rw [if_neg e]
theorem m_pd_f {σ : ST} {dd : Int32} {k : Nat} (h : bt (σ.2 5 (k / 8)) (k % 8) = false) : s_put (m_pdS σ dd k) 6 k ((m_pdS σ dd k).2 6 k + 0) = m_pdS σ dd (k + 1) := by
  refine m_pd_ext (fun i => ?_) (fun j e => ?_)
  · show upd (fun i => if i < k ∧ bt (σ.2 5 (i / 8)) (i % 8) = true then σ.2 6 i + dd else σ.2 6 i) k ((if k < k ∧ bt (σ.2 5 (k / 8)) (k % 8) = true then σ.2 6 k + dd else σ.2 6 k) + 0) i = (if i < k + 1 ∧ bt (σ.2 5 (i / 8)) (i % 8) = true then σ.2 6 i + dd else σ.2 6 i)
    by_cases e : i = k
    · subst e
      rw [upd_self, if_neg (by omega), if_neg (by rw [h]; simp), add0]
    · rw [upd_ne e]
      by_cases c : i < k ∧ bt (σ.2 5 (i / 8)) (i % 8) = true
      · rw [if_pos c, if_pos ⟨by omega, c.2⟩]
      · rw [if_neg c, if_neg (fun c2 => c ⟨by omega, c2.2⟩)]
  · show (if j = 6 then _ else _) = (if j = 6 then _ else _)
    rw [if_neg e, if_neg e]
    show (if j = 6 then _ else _) = _
    rw [if_neg e]
def m_lay (σ : ST) (nr : Nat) (of so P : Int32) : ST := s_set (s_put (s_put (s_put (s_put (s_put σ 8 nr of) 9 nr so) 10 nr P) 11 nr (σ.1 1)) 12 nr 0) 7 (nI (nr + 1))
def m_addP (σ : ST) (np : Nat) (len : Int32) (g : Bool) : ST := s_set (s_put (s_put (s_set σ 0 0) 3 np len) 4 np (b01 g)) 2 (nI (np + 1))
def m_consS (σ : ST) (j q : Nat) (g : Bool) : ST := if bt (σ.2 5 j) q = g then s_set σ 0 0 else s_put (s_set σ 0 0) 5 j (σ.2 5 j ^^^ bI q)
theorem ne_f {b : Bool} (h : b = true) : ¬ b = false := by rw [h]; decide
theorem ne_t {b : Bool} (h : b = false) : ¬ b = true := by rw [h]; decide
