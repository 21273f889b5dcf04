/-! ===== the law's helpers, as functions of its rows ===== -/
theorem y_ad (a b : Nat) : (nI a : Int32) + nI b = nI (a + b) := nI_add a b
def y_low (v : Int32) (n : Nat) : Int32 := (v &&& 2147483647) - (v &&& 2147483647) / nI n * nI n
def y_alf (p : Nat → Int32) (q : Nat) (of : Int32) : Nat → Bool
  | 0 => true
  | k + 1 => y_alf p q of k && (decide (p (8 + q) = 0) || !bt of k || bt (p (16 + k)) q)
def y_opf (ρ : RW) (w of a : Int32) : Nat → Bool
  | 0 => false
  | k + 1 => y_opf ρ w of a k || (bt w k && y_alf (ρ 1) k of 6 && decide (ρ 0 0 < a + ρ 1 k))
def y_held (ρ : RW) : Int32 := ρ 1 22 ||| ρ 1 23 ||| ρ 1 24 ||| ρ 1 25 ||| ρ 1 26 ||| ρ 1 27
def y_k0 (ρ : RW) (r : Nat) : Int32 := if ρ 6 r = 2 then 1 else if ρ 6 r = 0 then 2 else if bt (y_held ρ) r = true then 3 else 0
def y_kpf (ρ : RW) (r : Nat) : Nat → Int32
  | 0 => y_k0 ρ r
  | k + 1 => if y_kpf ρ r k = 0 ∧ bt (ρ 3 r) k = true ∧ ρ 6 k < 2 then 4 else y_kpf ρ r k
def y_kept (ρ : RW) (nr r : Nat) : Int32 := y_kpf ρ r nr
def y_rsn (ρ : RW) (r q : Nat) : Int32 := if ρ 6 r = 2 then 1 else if ρ 6 r = 1 then 2 else if bt (ρ 4 r) q = false then 3 else if y_alf (ρ 1) q (ρ 2 r) 6 = false then 4 else if ρ 0 0 < ρ 5 r + ρ 1 q then 0 else 5
/-- the highest record below n that can be erased -/
def y_fo (ρ : RW) (nr : Nat) : Nat → Option Nat
  | 0 => none
  | k + 1 => if y_kept ρ nr k = 0 then some k else y_fo ρ nr k
theorem y_fo_lt {ρ : RW} {nr j : Nat} : ∀ k, y_fo ρ nr k = some j → j < k
  | 0, h => by cases h
  | k + 1, h => by
    rw [y_fo] at h
    by_cases e : y_kept ρ nr k = 0
    · rw [if_pos e] at h; cases h; omega
    · rw [if_neg e] at h; have := y_fo_lt k h; omega
theorem s_put_id {σ : ST} {k i : Nat} : s_put σ k i (σ.2 k i) = σ := by
  apply Prod.ext
  · rfl
  · funext j
    show (if j = k then upd (σ.2 j) i (σ.2 k i) else σ.2 j) = σ.2 j
    by_cases e : j = k
    · rw [if_pos e]; subst e; funext z
      by_cases e2 : z = i
      · subst e2; exact upd_self
      · exact upd_ne e2
    · rw [if_neg e]
/-- entries i < k of the row j for which P is so get the bits of w -/
def y_orS (σ : ST) (j : Nat) (P : Nat → Bool) (w : Int32) (k : Nat) : ST := (σ.1, fun j' => if j' = j then (fun i => if i < k ∧ P i = true then σ.2 j' i ||| w else σ.2 j' i) else σ.2 j')
theorem row_ext {σ : ST} {j : Nat} {a b : RW} (h5 : ∀ i, a j i = b j i) (h : ∀ j', j' ≠ j → a j' = b j') : (σ.1, a) = (σ.1, b) := by
  apply Prod.ext
  · rfl
  · funext j'
    by_cases e : j' = j
    · subst e; exact funext h5
    · exact h j' e
section YO
variable {σ : ST} {j k i : Nat} {P : Nat → Bool} {w : Int32}
theorem y_or_row (h : ¬ i = j) : (y_orS σ j P w k).2 i = σ.2 i := by
  show (if i = j then _ else _) = _
  rw [if_neg h]
theorem y_or_i : (y_orS σ j P w k).2 j i = if i < k ∧ P i = true then σ.2 j i ||| w else σ.2 j i := by
  show (if j = j then _ else _ : Nat → Int32) i = _
  rw [if_pos rfl]
theorem y_or_at : (y_orS σ j P w k).2 j k = σ.2 j k := by rw [y_or_i, if_neg (by omega)]
theorem y_or_out (h : P i = false) : (y_orS σ j P w k).2 j i = σ.2 j i := by rw [y_or_i, if_neg (fun c => by rw [h] at c; cases c.2)]
theorem y_or_in (h1 : i < k) (h : P i = true) : (y_orS σ j P w k).2 j i = σ.2 j i ||| w := by rw [y_or_i, if_pos ⟨h1, h⟩]
theorem y_or_0 : y_orS σ j P w 0 = σ := by
  refine row_ext (σ := σ) (j := j) (b := σ.2) (fun i => ?_) (fun j' e => ?_)
  · show (if j = j then _ else _ : Nat → Int32) i = _
    rw [if_pos rfl, if_neg (by omega)]
  · show (if j' = j then _ else _) = _
    rw [if_neg e]
theorem y_or_t (h : P k = true) : s_put (y_orS σ j P w k) j k (σ.2 j k ||| w) = y_orS σ j P w (k + 1) := by
  refine row_ext (σ := σ) (j := j) (fun i => ?_) (fun j' e => ?_)
  · show (if j = j then upd (if j = j then _ else _ : Nat → Int32) k (σ.2 j k ||| w) else _ : Nat → Int32) i = (if j = j then _ else _ : Nat → Int32) i
    rw [if_pos rfl, if_pos rfl, if_pos rfl]
    by_cases e : i = k
    · subst e; rw [upd_self, if_pos ⟨by omega, h⟩]
    · rw [upd_ne e]
      by_cases c : i < k ∧ P i = true
      · rw [if_pos c, if_pos ⟨by omega, c.2⟩]
      · rw [if_neg c, if_neg (fun c2 => c ⟨by omega, c2.2⟩)]
  · show (if j' = j then _ else _) = (if j' = j then _ else _)
    rw [if_neg e, if_neg e]
    show (if j' = j then _ else _) = _
    rw [if_neg e]
theorem y_or_f (h : P k = false) : s_put (y_orS σ j P w k) j k (σ.2 j k ||| 0) = y_orS σ j P w (k + 1) := by
  refine row_ext (σ := σ) (j := j) (fun i => ?_) (fun j' e => ?_)
  · show (if j = j then upd (if j = j then _ else _ : Nat → Int32) k (σ.2 j k ||| 0) else _ : Nat → Int32) i = (if j = j then _ else _ : Nat → Int32) i
    rw [if_pos rfl, if_pos rfl, if_pos rfl]
    by_cases e : i = k
    · subst e; rw [upd_self, or0, if_neg (fun c => by rw [h] at c; cases c.2)]
    · rw [upd_ne e]
      by_cases c : i < k ∧ P i = true
      · rw [if_pos c, if_pos ⟨by omega, c.2⟩]
      · rw [if_neg c, if_neg (fun c2 => c ⟨by omega, c2.2⟩)]
  · show (if j' = j then _ else _) = (if j' = j then _ else _)
    rw [if_neg e, if_neg e]
    show (if j' = j then _ else _) = _
    rw [if_neg e]
end YO
/-- the states of the present entries i < k of the set w become 1 -/
def y_stS (σ : ST) (w : Int32) (k : Nat) : ST := (σ.1, fun j => if j = 6 then (fun i => if i < k ∧ bt w i = true ∧ σ.2 6 i = 0 then 1 else σ.2 6 i) else σ.2 j)
section YT
variable {σ : ST} {k i r nr : Nat} {w : Int32}
theorem y_st_i : (y_stS σ w k).2 6 i = if i < k ∧ bt w i = true ∧ σ.2 6 i = 0 then 1 else σ.2 6 i := rfl
theorem y_st_row {j : Nat} (h : ¬ j = 6) : (y_stS σ w k).2 j = σ.2 j := by
  show (if j = 6 then _ else _) = _
  rw [if_neg h]
theorem y_st_at : (y_stS σ w k).2 6 k = σ.2 6 k := by rw [y_st_i, if_neg (by omega)]
theorem y_st_z (h : bt w r = false) : (y_stS σ w k).2 6 r = σ.2 6 r := by rw [y_st_i, if_neg (fun c => by rw [h] at c; cases c.2.1)]
theorem y_st_0 : y_stS σ w 0 = σ := by
  refine row_ext (σ := σ) (j := 6) (b := σ.2) (fun i => ?_) (fun j' e => ?_)
  · show (if i < 0 ∧ bt w i = true ∧ σ.2 6 i = 0 then 1 else σ.2 6 i) = _
    rw [if_neg (by omega)]
  · show (if j' = 6 then _ else _) = _
    rw [if_neg e]
theorem y_st_t (h : bt w k = true) (h0 : σ.2 6 k = 0) : s_put (y_stS σ w k) 6 k 1 = y_stS σ w (k + 1) := by
  refine row_ext (σ := σ) (j := 6) (fun i => ?_) (fun j' e => ?_)
  · show upd (fun i => if i < k ∧ bt w i = true ∧ σ.2 6 i = 0 then 1 else σ.2 6 i) k 1 i = (if i < k + 1 ∧ bt w i = true ∧ σ.2 6 i = 0 then 1 else σ.2 6 i)
    by_cases e : i = k
    · subst e; rw [upd_self, if_pos ⟨by omega, h, h0⟩]
    · rw [upd_ne e]
      by_cases c : i < k ∧ bt w i = true ∧ σ.2 6 i = 0
      · rw [if_pos c, if_pos ⟨by omega, c.2⟩]
      · rw [if_neg c, if_neg (fun c2 => c ⟨by omega, c2.2⟩)]
  · show (if j' = 6 then _ else _) = (if j' = 6 then _ else _)
    rw [if_neg e, if_neg e]
    show (if j' = 6 then _ else _) = _
    rw [if_neg e]
theorem y_st_f (h : ¬ (bt w k = true ∧ σ.2 6 k = 0)) : y_stS σ w k = y_stS σ w (k + 1) := by
  refine row_ext (σ := σ) (j := 6) (fun i => ?_) (fun j' e => ?_)
  · show (if i < k ∧ bt w i = true ∧ σ.2 6 i = 0 then 1 else σ.2 6 i) = (if i < k + 1 ∧ bt w i = true ∧ σ.2 6 i = 0 then 1 else σ.2 6 i)
    by_cases c : i < k ∧ bt w i = true ∧ σ.2 6 i = 0
    · rw [if_pos c, if_pos ⟨by omega, c.2⟩]
    · rw [if_neg c, if_neg]
      rintro ⟨c1, c2⟩
      by_cases e : i = k
      · subst e; exact h c2
      · exact c ⟨by omega, c2⟩
  · show (if j' = 6 then _ else _) = (if j' = 6 then _ else _)
    rw [if_neg e, if_neg e]
/-- with the record itself -/
theorem y_st_self (hr : r < k) (h32 : k ≤ 32) (h0 : σ.2 6 r = 0) (hw : bt w r = false) : s_put (y_stS σ w k) 6 r 1 = y_stS σ (w ||| bI r) k := by
  refine row_ext (σ := σ) (j := 6) (fun i => ?_) (fun j' e => ?_)
  · show upd (fun i => if i < k ∧ bt w i = true ∧ σ.2 6 i = 0 then 1 else σ.2 6 i) r 1 i = (if i < k ∧ bt (w ||| bI r) i = true ∧ σ.2 6 i = 0 then 1 else σ.2 6 i)
    by_cases e : i = r
    · subst e
      rw [upd_self, if_pos ⟨hr, by rw [b_or, bt_bI (by omega) (by omega)]; simp, h0⟩]
    · rw [upd_ne e]
      by_cases c : i < k ∧ bt w i = true ∧ σ.2 6 i = 0
      · rw [if_pos c, if_pos ⟨c.1, by rw [b_or, c.2.1]; rfl, c.2.2⟩]
      · rw [if_neg c, if_neg]
        rintro ⟨c1, c2, c3⟩
        rw [b_or, bt_bI (by omega) (by omega), decide_eq_false e, Bool.or_false] at c2
        exact c ⟨c1, c2, c3⟩
  · show (if j' = 6 then _ else _) = (if j' = 6 then _ else _)
    rw [if_neg e, if_neg e]
    show (if j' = 6 then _ else _) = _
    rw [if_neg e]
end YT
theorem y_cn_self {st : Nat → Int32} {w : Int32} {r : Nat} (hr : r < 32) (h0 : st r = 0) (hw : bt w r = false) : ∀ n, n ≤ 32 → m_cn st (w ||| bI r) n = if r < n then m_cn st w n + 1 else m_cn st w n
  | 0, _ => by rw [if_neg (by omega)]; rfl
  | n + 1, hn => by
    have ih := y_cn_self hr h0 hw n (by omega)
    rw [m_cn, m_cn, ih]
    by_cases e : n = r
    · subst e
      rw [if_pos ⟨by rw [b_or, bt_bI (by omega) (by omega)]; simp, h0⟩, if_neg (by omega), if_pos (by omega), if_neg (fun c => by rw [hw] at c; cases c.1)]
    · have eb : bt (w ||| bI r) n = bt w n := by rw [b_or, bt_bI hr (by omega), decide_eq_false e, Bool.or_false]
      rw [eb]
      by_cases c : bt w n = true ∧ st n = 0
      · rw [if_pos c, if_pos c]
        by_cases d : r < n
        · rw [if_pos d, if_pos (by omega)]
        · rw [if_neg d, if_neg (by omega)]
      · rw [if_neg c, if_neg c]
        by_cases d : r < n
        · rw [if_pos d, if_pos (by omega)]
        · rw [if_neg d, if_neg (by omega)]
def y_erA (ρ : RW) (nr : Nat) : Int32 := match y_fo ρ nr nr with
  | none => -1
  | some k => nI k
def y_erS (σ : ST) (nr : Nat) : ST := match y_fo σ.2 nr nr with
  | none => σ
  | some k => s_put σ 6 k 2
def y_layR (σ : ST) (nr : Nat) (sub w : Int32) : ST := s_put (s_put (s_put (s_put (s_put σ 2 nr sub) 4 nr w) 5 nr (σ.2 0 0)) 6 (30 + nr) 1) 0 2 (nI (nr + 1))
def y_layB (σ : ST) (nr : Nat) (sub w : Int32) : ST := s_put (s_put (s_put (s_put σ 2 nr sub) 4 nr w) 5 nr (σ.2 0 0)) 6 (30 + nr) 0
def y_layD (σ : ST) (nr : Nat) (sub w : Int32) (sr : Nat) : ST := s_put (y_orS (y_layB σ nr sub w) 3 (fun i => decide (i = sr) || bt (σ.2 3 i) sr) (bI nr) nr) 0 2 (nI (nr + 1))
def y_so1 (σ : ST) (r sr : Nat) : ST := s_put σ 7 r (σ.2 7 r ||| bI sr)
def y_so2 (σ : ST) (nr r sr k : Nat) : ST := y_orS (y_so1 σ r sr) 2 (fun i => decide (i = r) || bt (σ.2 3 r) i) (σ.2 2 sr) k
def y_so3 (σ : ST) (nr r sr k : Nat) : ST := y_orS (y_so2 σ nr r sr nr) 3 (fun i => decide (i = sr) || bt (σ.2 3 i) sr) (bI r ||| σ.2 3 r) k
/-- a day more with consent, entries i < k -/
def y_dS (σ : ST) (k : Nat) : ST := (σ.1, fun j => if j = 8 then (fun i => if i < k ∧ bt (σ.2 1 (16 + i / 8)) (i % 8) = true then σ.2 8 i + 1 else σ.2 8 i) else σ.2 j)
section YD
variable {σ : ST} {k i : Nat}
theorem y_d_i : (y_dS σ k).2 8 i = if i < k ∧ bt (σ.2 1 (16 + i / 8)) (i % 8) = true then σ.2 8 i + 1 else σ.2 8 i := rfl
theorem y_d_at : (y_dS σ k).2 8 k = σ.2 8 k := by rw [y_d_i, if_neg (by omega)]
theorem y_d_0 : y_dS σ 0 = σ := by
  refine row_ext (σ := σ) (j := 8) (b := σ.2) (fun i => ?_) (fun j' e => ?_)
  · show (if i < 0 ∧ bt (σ.2 1 (16 + i / 8)) (i % 8) = true then σ.2 8 i + 1 else σ.2 8 i) = _
    rw [if_neg (by omega)]
  · show (if j' = 8 then _ else _) = _
    rw [if_neg e]
theorem y_d_t (h : bt (σ.2 1 (16 + k / 8)) (k % 8) = true) : s_put (y_dS σ k) 8 k (σ.2 8 k + 1) = y_dS σ (k + 1) := by
  refine row_ext (σ := σ) (j := 8) (fun i => ?_) (fun j' e => ?_)
  · show upd (fun i => if i < k ∧ bt (σ.2 1 (16 + i / 8)) (i % 8) = true then σ.2 8 i + 1 else σ.2 8 i) k (σ.2 8 k + 1) i = (if i < k + 1 ∧ bt (σ.2 1 (16 + i / 8)) (i % 8) = true then σ.2 8 i + 1 else σ.2 8 i)
    by_cases e : i = k
    · subst e; rw [upd_self, if_pos ⟨by omega, h⟩]
    · rw [upd_ne e]
      by_cases c : i < k ∧ bt (σ.2 1 (16 + i / 8)) (i % 8) = true
      · rw [if_pos c, if_pos ⟨by omega, c.2⟩]
      · rw [if_neg c, if_neg (fun c2 => c ⟨by omega, c2.2⟩)]
  · show (if j' = 8 then _ else _) = (if j' = 8 then _ else _)
    rw [if_neg e, if_neg e]
    show (if j' = 8 then _ else _) = _
    rw [if_neg e]
theorem y_d_f (h : bt (σ.2 1 (16 + k / 8)) (k % 8) = false) : s_put (y_dS σ k) 8 k (σ.2 8 k + 0) = y_dS σ (k + 1) := by
  refine row_ext (σ := σ) (j := 8) (fun i => ?_) (fun j' e => ?_)
  · show upd (fun i => if i < k ∧ bt (σ.2 1 (16 + i / 8)) (i % 8) = true then σ.2 8 i + 1 else σ.2 8 i) k (σ.2 8 k + 0) i = (if i < k + 1 ∧ bt (σ.2 1 (16 + i / 8)) (i % 8) = true then σ.2 8 i + 1 else σ.2 8 i)
    by_cases e : i = k
    · subst e; rw [upd_self, if_neg (fun c => by rw [h] at c; cases c.2), add0]
    · rw [upd_ne e]
      by_cases c : i < k ∧ bt (σ.2 1 (16 + i / 8)) (i % 8) = true
      · rw [if_pos c, if_pos ⟨by omega, c.2⟩]
      · rw [if_neg c, if_neg (fun c2 => c ⟨by omega, c2.2⟩)]
  · show (if j' = 8 then _ else _) = (if j' = 8 then _ else _)
    rw [if_neg e, if_neg e]
    show (if j' = 8 then _ else _) = _
    rw [if_neg e]
end YD
def y_day (σ : ST) : ST := s_put (y_dS σ 48) 0 0 (σ.2 0 0 + 1)
def y_pa (nr np : Nat) (σ : ST) : Nat → ST
  | 0 => σ
  | k + 1 => if (y_pa nr np σ k).2 6 k = 0 ∧ y_opf (y_pa nr np σ k).2 ((y_pa nr np σ k).2 4 k) ((y_pa nr np σ k).2 2 k) ((y_pa nr np σ k).2 5 k) np = false then y_stS (y_pa nr np σ k) ((y_pa nr np σ k).2 3 k ||| bI k) nr else y_pa nr np σ k
def y_pc (nr np : Nat) (σ : ST) : Nat → Int32
  | 0 => 0
  | k + 1 => if (y_pa nr np σ k).2 6 k = 0 ∧ y_opf (y_pa nr np σ k).2 ((y_pa nr np σ k).2 4 k) ((y_pa nr np σ k).2 2 k) ((y_pa nr np σ k).2 5 k) np = false then y_pc nr np σ k + m_cn ((y_pa nr np σ k).2 6) ((y_pa nr np σ k).2 3 k ||| bI k) nr else y_pc nr np σ k
theorem y_pa_row {nr np : Nat} {σ : ST} {j : Nat} (hj : ¬ j = 6) : ∀ k, (y_pa nr np σ k).2 j = σ.2 j
  | 0 => rfl
  | k + 1 => by
    rw [y_pa]
    by_cases c : (y_pa nr np σ k).2 6 k = 0 ∧ y_opf (y_pa nr np σ k).2 ((y_pa nr np σ k).2 4 k) ((y_pa nr np σ k).2 2 k) ((y_pa nr np σ k).2 5 k) np = false
    · rw [if_pos c, y_st_row hj, y_pa_row hj k]
    · rw [if_neg c, y_pa_row hj k]
def y_dys (nr np : Nat) (σ : ST) : Nat → ST
  | 0 => σ
  | n + 1 => y_pa nr np (y_day (y_dys nr np σ n)) nr
def y_dyc (nr np : Nat) (σ : ST) : Nat → Int32
  | 0 => 0
  | n + 1 => y_dyc nr np σ n + y_pc nr np (y_day (y_dys nr np σ n)) nr
theorem y_day_row {σ : ST} {j : Nat} (h0 : ¬ j = 0) (h8 : ¬ j = 8) : (y_day σ).2 j = σ.2 j := by
  show (if j = 0 then _ else (if j = 8 then _ else σ.2 j)) = _
  rw [if_neg h0, if_neg h8]
theorem y_day_q {σ : ST} {i : Nat} (h : ¬ i = 0) : (y_day σ).2 0 i = σ.2 0 i := by
  show upd ((y_dS σ 48).2 0) 0 (σ.2 0 0 + 1) i = _
  rw [upd_ne h]; rfl
theorem y_day_0 {σ : ST} : (y_day σ).2 0 0 = σ.2 0 0 + 1 := by
  show upd ((y_dS σ 48).2 0) 0 (σ.2 0 0 + 1) 0 = _
  exact upd_self
theorem y_dys_row {nr np : Nat} {σ : ST} {j : Nat} (h0 : ¬ j = 0) (h6 : ¬ j = 6) (h8 : ¬ j = 8) : ∀ n, (y_dys nr np σ n).2 j = σ.2 j
  | 0 => rfl
  | n + 1 => by rw [y_dys, y_pa_row h6, y_day_row h0 h8, y_dys_row h0 h6 h8 n]
theorem y_dys_q {nr np : Nat} {σ : ST} {i : Nat} (h : ¬ i = 0) : ∀ n, (y_dys nr np σ n).2 0 i = σ.2 0 i
  | 0 => rfl
  | n + 1 => by rw [y_dys, y_pa_row (by decide), y_day_q h, y_dys_q h n]
/-! ===== x & x - 1 ===== -/
theorem ct_head (p : Nat → Bool) (n : Nat) : ct p (n + 1) = (if p 0 = true then 1 else 0) + ct (fun k => p (k + 1)) n := by
  rw [Nat.add_comm n 1, ct_split p 1 n]
  congr 1
  · show ct p 0 + _ = _
    show 0 + (if p 0 = true then 1 else 0) = _
    rw [Nat.zero_add]
  · refine ct_cong n (fun k _ => ?_)
    show p (1 + k) = p (k + 1)
    rw [Nat.add_comm]
theorem and_pred_ct : ∀ N n : Nat, 0 < n → n < 2 ^ N → ct (fun i => (n &&& (n - 1)).testBit i) N + 1 = ct (fun i => n.testBit i) N
  | 0, n, h0, hn => by omega
  | N + 1, n, h0, hn => by
    rw [ct_head, ct_head]
    have hs : ∀ (m k : Nat), m.testBit (k + 1) = (m / 2).testBit k := fun m k => by rw [Nat.testBit_succ]
    have h2 : (n &&& (n - 1)) / 2 = n / 2 &&& (n - 1) / 2 := by
      apply Nat.eq_of_testBit_eq
      intro i
      rw [← Nat.testBit_succ, Nat.testBit_and, Nat.testBit_and, Nat.testBit_succ, Nat.testBit_succ]
    have hb : ∀ m : Nat, m.testBit 0 = decide (m % 2 = 1) := fun m => Nat.testBit_zero m
    rcases Nat.mod_two_eq_zero_or_one n with e | e
    · have ih := and_pred_ct N (n / 2) (by omega) (by rw [Nat.pow_succ] at hn; omega)
      have e3 : (n - 1) / 2 = n / 2 - 1 := by omega
      have e4 : (n &&& (n - 1)).testBit 0 = false := by rw [Nat.testBit_and, hb n, e]; rfl
      have e5 : n.testBit 0 = false := by rw [hb n, e]; rfl
      rw [e4, e5]
      rw [ct_cong (p := fun k => (n &&& (n - 1)).testBit (k + 1)) (q := fun k => (n / 2 &&& (n / 2 - 1)).testBit k) N (fun k _ => by show (n &&& (n - 1)).testBit (k + 1) = _; rw [hs, h2, e3]), ct_cong (p := fun k => n.testBit (k + 1)) (q := fun k => (n / 2).testBit k) N (fun k _ => hs n k), ← ih]
      simp only [Bool.false_eq_true, if_false]
      omega
    · have e3 : (n - 1) / 2 = n / 2 := by omega
      have e4 : (n &&& (n - 1)).testBit 0 = false := by
        rw [Nat.testBit_and, hb (n - 1), show (n - 1) % 2 = 0 by omega, Bool.and_comm]; rfl
      have e5 : n.testBit 0 = true := by rw [hb n, e]; rfl
      rw [e4, e5]
      rw [ct_cong (p := fun k => (n &&& (n - 1)).testBit (k + 1)) (q := fun k => (n / 2).testBit k) N (fun k _ => by show (n &&& (n - 1)).testBit (k + 1) = _; rw [hs, h2, e3, Nat.and_self]), ct_cong (p := fun k => n.testBit (k + 1)) (q := fun k => (n / 2).testBit k) N (fun k _ => hs n k)]
      simp only [Bool.false_eq_true, if_false, if_true]
      omega
theorem y_sz_s (x : Int32) (hx : ¬ x = 0) : ct (bt (x &&& (x - 1))) 32 + 1 = ct (bt x) 32 := by
  obtain ⟨n, hn, rfl⟩ := nw_of x
  have h0 : 0 < n := by
    rcases Nat.eq_zero_or_pos n with e | e
    · subst e; exact absurd rfl hx
    · exact e
  have e1 : (nI n : Int32) - 1 = nI (n - 1) := by
    rw [show (1 : Int32) = nI 1 from rfl, pk_sub (by omega)]
  rw [e1, nw_and, ct_cong (q := fun i => (n &&& (n - 1)).testBit i) 32 (fun k hk => bt_nI hk), ct_cong (q := fun i => n.testBit i) 32 (fun k hk => bt_nI hk)]
  exact and_pred_ct 32 n h0 hn
theorem y_sz_0 (x : Int32) (h : ct (bt x) 32 = 0) : x = 0 := by
  apply b_ext
  intro i hi
  rw [b_0]
  cases hb : bt x i
  · rfl
  · exfalso
    have h1 := ct_split (bt x) (i + 1) (31 - i)
    rw [show i + 1 + (31 - i) = 32 by omega, h] at h1
    have h2 : ct (bt x) (i + 1) = ct (bt x) i + (if bt x i = true then 1 else 0) := rfl
    rw [hb, if_pos rfl] at h2
    omega
theorem y_sz_n (x : Int32) {k : Nat} (h : ct (bt x) 32 = k + 1) : ¬ x = 0 := fun e => by
  have h1 : ct (bt x) 32 = 0 := ct_zero 32 (fun i _ => by rw [e, b_0])
  omega
