/-! ===== the class's answers, as functions of its state (σ.1: int fields, σ.2: rows; slots as in TX0) ===== -/
def bI (k : Nat) : Int32 := (1 : Int32) <<< (nI k &&& 31)
theorem ge_t {x : Int32} {n k : Nat} (hx : x = nI n) (hn : n < 2 ^ 31) (hk : k < 2 ^ 31) (c : x ≤ nI k) : n ≤ k := by
  rw [hx] at c; exact (nI_leI hn hk).mp c
theorem ge_f {x : Int32} {n k : Nat} (hx : x = nI n) (hk : k < 2 ^ 31) (c : ¬ x ≤ nI k) : k < n := by
  rcases Nat.lt_or_ge k n with h | h
  · exact h
  · exact absurd (by rw [hx]; exact nI_le h hk) c
theorem bt_bI_nat : ∀ k, k < 32 → ∀ i, i < 32 → bt (bI k) i = decide (i = k) := by decide +kernel
theorem bt_bI {k i : Nat} (hk : k < 32) (hi : i < 32) : bt (bI k) i = decide (i = k) := bt_bI_nat k hk i hi
theorem and_bI (x : Int32) {k : Nat} (hk : k < 32) : x &&& bI k = 0 ↔ bt x k = false := by
  constructor
  · intro h
    have h1 : bt (x &&& bI k) k = bt 0 k := by rw [h]
    rw [b_and, bt_bI hk hk, b_0] at h1
    simpa using h1
  · intro h
    apply b_ext
    intro i hi
    rw [b_and, bt_bI hk hi, b_0]
    by_cases e : i = k
    · subst e; rw [h]; rfl
    · simp [e]
def x_wab (so : Nat → Int32) (set : Int32) : Nat → Int32
  | 0 => set
  | k + 1 => if so k &&& x_wab so set k = 0 then x_wab so set k else x_wab so set k ||| bI k
def x_bel (σ : ST) (nr r : Nat) : Int32 := x_wab (σ.2 10) (bI r) nr &&& (bI r ^^^ (-1))
def x_cba (cs : Nat → Int32) (sub init : Int32) : Nat → Int32
  | 0 => init
  | k + 1 => if bt sub k = true then x_cba cs sub init k &&& cs k else x_cba cs sub init k
def x_alw (σ : ST) (np : Nat) (sub : Int32) : Int32 := x_cba (σ.2 4) sub (bI np - 1) 12 ||| σ.1 3
def x_ret (σ : ST) (q : Nat) (a : Int32) : Bool := decide (σ.1 0 < a + σ.2 2 q)
def x_any (σ : ST) (w a : Int32) : Nat → Bool
  | 0 => false
  | k + 1 => x_any σ w a k || (bt w k && x_ret σ k a)
theorem x_any_in {σ : ST} {w a : Int32} {k n : Nat} (h : k < n) (h1 : bt w k = true) (h2 : x_ret σ k a = true) : x_any σ w a n = true := by
  induction n with
  | zero => omega
  | succ n ih =>
    rcases Nat.lt_or_ge k n with q | q
    · rw [x_any, ih q]; rfl
    · have e : n = k := by omega
      rw [x_any, e, h1, h2]; simp
def x_open (σ : ST) (np : Nat) (P sub a : Int32) : Bool := x_any σ (P &&& x_alw σ np sub) a np
def x_due (σ : ST) (np : Nat) : Nat → Int32
  | 0 => 0
  | k + 1 => if bt (σ.1 12) k = true ∧ x_open σ np (σ.2 8 k) (σ.2 9 k) (σ.2 7 k) = false then x_due σ np k ||| bI k else x_due σ np k
def x_lon (σ : ST) (w : Int32) : Nat → Int32
  | 0 => 0
  | k + 1 => if bt w k = true then (if x_lon σ w k < σ.2 2 k then σ.2 2 k else x_lon σ w k) else x_lon σ w k
def x_end (σ : ST) (np r : Nat) : Int32 := σ.2 7 r + x_lon σ (σ.2 8 r &&& x_alw σ np (σ.2 9 r)) np
def x_rof (sb : Nat → Int32) (j : Nat) : Nat → Int32
  | 0 => 0
  | k + 1 => if bt (sb k) j = true then x_rof sb j k ||| bI k else x_rof sb j k
def x_roots (so sb : Nat → Int32) (j : Nat) : Nat → Int32
  | 0 => 0
  | k + 1 => if so k = 0 ∧ bt (sb k) j = true then x_roots so sb j k ||| bI k else x_roots so sb j k
def x_held (hc : Nat → Int32) : Nat → Int32
  | 0 => 0
  | k + 1 => x_held hc k ||| hc k
def x_min (a b : Int32) : Int32 := if b < a then b else a
def x_nend (σ : ST) (np : Nat) : Nat → Int32
  | 0 => -1
  | k + 1 => if bt (σ.1 12) k = true then (if x_nend σ np k = -1 then x_end σ np k else x_min (x_nend σ np k) (x_end σ np k)) else x_nend σ np k
def x_uses (us sb : Nat → Int32) (j q : Nat) : Nat → Int32
  | 0 => 0
  | k + 1 => if bt (sb k) j = true then x_uses us sb j q k + us (k * 8 + q) else x_uses us sb j q k
theorem decide_eq_f {q : Prop} [Decidable q] (h : ¬ q) : decide q = false := decide_eq_false h
theorem bl_t {b : Bool} (h : ¬ b = false) : b = true := by
  cases b with
  | false => exact absurd rfl h
  | true => rfl
/-- Integer.bitCount, as its code computes it -/
def x_popA (x : Int32) : Int32 := x - ((x.toUInt32 >>> ((1 : Int32).toUInt32 &&& Int32.toUInt32 31)).toInt32 &&& 1431655765)
def x_popB (x : Int32) : Int32 := (x &&& 858993459) + ((x.toUInt32 >>> ((2 : Int32).toUInt32 &&& Int32.toUInt32 31)).toInt32 &&& 858993459)
def x_popC (x : Int32) : Int32 := (x + (x.toUInt32 >>> ((4 : Int32).toUInt32 &&& Int32.toUInt32 31)).toInt32) &&& 252645135
def x_popD (x : Int32) : Int32 := x + (x.toUInt32 >>> ((8 : Int32).toUInt32 &&& Int32.toUInt32 31)).toInt32
def x_popE (x : Int32) : Int32 := x + (x.toUInt32 >>> ((16 : Int32).toUInt32 &&& Int32.toUInt32 31)).toInt32
def x_pop (x : Int32) : Int32 := x_popE (x_popD (x_popC (x_popB (x_popA x)))) &&& 63
theorem b01_inj {a b : Bool} : b01 a = b01 b ↔ a = b := by cases a <;> cases b <;> decide
theorem upd_self {f : Nat → Int32} {i : Nat} {x : Int32} : upd f i x i = x := by simp [upd]
theorem upd_ne {f : Nat → Int32} {i j : Nat} {x : Int32} (h : j ≠ i) : upd f i x j = f j := by simp [upd, h]
def x_mv (σ : ST) (r : Nat) : ST := s_set (s_set σ 13 (σ.1 13 &&& (bI r ^^^ (-1)))) 14 (σ.1 14 ||| bI r)
def x_rq (σ : ST) (w : Int32) (nr : Nat) : Int32 := x_wab (σ.2 10) w nr &&& σ.1 12
def x_req (σ : ST) (w : Int32) (nr : Nat) : ST := s_set (s_set σ 12 (σ.1 12 &&& (x_rq σ w nr ^^^ (-1)))) 13 (σ.1 13 ||| x_rq σ w nr)
/-- rows i < k with bit i in w get the bits of sub -/
def x_sbS (σ : ST) (w sub : Int32) (k : Nat) : ST := (σ.1, fun j => if j = 9 then (fun i => if i < k ∧ bt w i = true then σ.2 9 i ||| sub else σ.2 9 i) else σ.2 j)
theorem x_sb_0 {σ : ST} {w sub : Int32} : x_sbS σ w sub 0 = σ := by
  apply Prod.ext
  · rfl
  · funext j
    show (if j = 9 then _ else _) = _
    by_cases e : j = 9
    · rw [if_pos e, e]; funext i; simp
    · rw [if_neg e]
theorem x_sb_t {σ : ST} {w sub : Int32} {k : Nat} (h : bt w k = true) : s_put (x_sbS σ w sub k) 9 k ((x_sbS σ w sub k).2 9 k ||| sub) = x_sbS σ w sub (k + 1) := by
  apply Prod.ext
  · rfl
  · funext j
    by_cases e : j = 9
    · subst e
      funext i
      show upd (fun i => if i < k ∧ bt w i = true then σ.2 9 i ||| sub else σ.2 9 i) k ((if k < k ∧ bt w k = true then σ.2 9 k ||| sub else σ.2 9 k) ||| sub) i = (if i < k + 1 ∧ bt w i = true then σ.2 9 i ||| sub else σ.2 9 i)
      by_cases e2 : i = k
      · subst e2; rw [upd_self, if_neg (by omega), if_pos ⟨by omega, h⟩]
      · rw [upd_ne e2]
        by_cases e3 : i < k ∧ bt w i = true
        · rw [if_pos e3, if_pos ⟨by omega, e3.2⟩]
        · rw [if_neg e3, if_neg (fun h3 => e3 ⟨by omega, h3.2⟩)]
    · show (if j = 9 then _ else _) = (if j = 9 then _ else _)
      rw [if_neg e, if_neg e]
      show (if j = 9 then _ else _) = _
      rw [if_neg e]
theorem x_sb_f {σ : ST} {w sub : Int32} {k : Nat} (h : bt w k = false) : x_sbS σ w sub k = x_sbS σ w sub (k + 1) := by
  apply Prod.ext
  · rfl
  · funext j
    show (if j = 9 then _ else _) = (if j = 9 then _ else _)
    by_cases e : j = 9
    · rw [if_pos e, if_pos e]
      funext i
      by_cases e3 : i < k ∧ bt w i = true
      · rw [if_pos e3, if_pos ⟨by omega, e3.2⟩]
      · rw [if_neg e3, if_neg]
        rintro ⟨h1, h2⟩
        by_cases e2 : i = k
        · subst e2; rw [h] at h2; cases h2
        · exact e3 ⟨by omega, h2⟩
    · rw [if_neg e, if_neg e]
/-- the days with consent, after the subjects below s and the purposes below q of s -/
def x_cdC (σ : ST) (np s q i : Nat) : Prop := (i / 8 < s ∨ (i / 8 = s ∧ i % 8 < q)) ∧ i % 8 < np ∧ bt (σ.2 4 (i / 8)) (i % 8) = true
def x_cd (σ : ST) (np : Nat) (dd : Int32) (s q : Nat) : ST := (σ.1, fun j => if j = 5 then (fun i => if (i / 8 < s ∨ (i / 8 = s ∧ i % 8 < q)) ∧ i % 8 < np ∧ bt (σ.2 4 (i / 8)) (i % 8) = true then σ.2 5 i + dd else σ.2 5 i) else σ.2 j)
theorem x_cd_ext {σ : ST} {a b : Nat → Nat → Int32} (h5 : ∀ i, a 5 i = b 5 i) (h : ∀ j, j ≠ 5 → a j = b j) : (σ.1, a) = (σ.1, b) := by
  apply Prod.ext
  · rfl
  · funext j
    by_cases e : j = 5
    · subst e; exact funext h5
    · exact h j e
theorem x_cd_0 {σ : ST} {np : Nat} {dd : Int32} : x_cd σ np dd 0 0 = σ := by
  refine x_cd_ext (σ := σ) (b := σ.2) (fun i => ?_) (fun j e => ?_)
  · show (if (i / 8 < 0 ∨ (i / 8 = 0 ∧ i % 8 < 0)) ∧ _ then _ else _) = _
    rw [if_neg (by omega)]
  · show (if j = 5 then _ else _) = _
    rw [if_neg e]
theorem x_cd_t {σ : ST} {np : Nat} {dd : Int32} {s q : Nat} (hq : q < np) (h8 : np ≤ 8) (h : bt (σ.2 4 s) q = true) : s_put (x_cd σ np dd s q) 5 (s * 8 + q) ((x_cd σ np dd s q).2 5 (s * 8 + q) + dd) = x_cd σ np dd s (q + 1) := by
  refine x_cd_ext (fun i => ?_) (fun j e => ?_)
  · show upd (fun i => if (i / 8 < s ∨ (i / 8 = s ∧ i % 8 < q)) ∧ i % 8 < np ∧ bt (σ.2 4 (i / 8)) (i % 8) = true then σ.2 5 i + dd else σ.2 5 i) (s * 8 + q) ((if ((s * 8 + q) / 8 < s ∨ ((s * 8 + q) / 8 = s ∧ (s * 8 + q) % 8 < q)) ∧ (s * 8 + q) % 8 < np ∧ bt (σ.2 4 ((s * 8 + q) / 8)) ((s * 8 + q) % 8) = true then σ.2 5 (s * 8 + q) + dd else σ.2 5 (s * 8 + q)) + dd) i = (if (i / 8 < s ∨ (i / 8 = s ∧ i % 8 < q + 1)) ∧ i % 8 < np ∧ bt (σ.2 4 (i / 8)) (i % 8) = true then σ.2 5 i + dd else σ.2 5 i)
    have e1 : (s * 8 + q) / 8 = s := by omega
    have e2 : (s * 8 + q) % 8 = q := by omega
    by_cases e : i = s * 8 + q
    · subst e
      rw [upd_self, e1, e2, if_neg (by omega), if_pos ⟨Or.inr ⟨rfl, by omega⟩, hq, h⟩]
    · rw [upd_ne e]
      by_cases c : (i / 8 < s ∨ (i / 8 = s ∧ i % 8 < q)) ∧ i % 8 < np ∧ bt (σ.2 4 (i / 8)) (i % 8) = true
      · rw [if_pos c, if_pos ⟨by rcases c.1 with h1 | h1; exact Or.inl h1; exact Or.inr ⟨h1.1, by omega⟩, c.2⟩]
      · rw [if_neg c, if_neg]
        rintro ⟨h1, h2⟩
        refine c ⟨?_, h2⟩
        rcases h1 with h1 | h1
        · exact Or.inl h1
        · exact Or.inr ⟨h1.1, by omega⟩
  · show (if j = 5 then _ else _) = (if j = 5 then _ else _)
    rw [if_neg e, if_neg e]
    show (if j = 5 then _ else _) = _
    rw [if_neg e]
theorem x_cd_f {σ : ST} {np : Nat} {dd : Int32} {s q : Nat} (h : bt (σ.2 4 s) q = false) : x_cd σ np dd s q = x_cd σ np dd s (q + 1) := by
  refine x_cd_ext (fun i => ?_) (fun j e => ?_)
  · show (if (i / 8 < s ∨ (i / 8 = s ∧ i % 8 < q)) ∧ i % 8 < np ∧ bt (σ.2 4 (i / 8)) (i % 8) = true then σ.2 5 i + dd else σ.2 5 i) = (if (i / 8 < s ∨ (i / 8 = s ∧ i % 8 < q + 1)) ∧ i % 8 < np ∧ bt (σ.2 4 (i / 8)) (i % 8) = true then σ.2 5 i + dd else σ.2 5 i)
    by_cases c : (i / 8 < s ∨ (i / 8 = s ∧ i % 8 < q)) ∧ i % 8 < np ∧ bt (σ.2 4 (i / 8)) (i % 8) = true
    · rw [if_pos c, if_pos ⟨by rcases c.1 with h1 | h1; exact Or.inl h1; exact Or.inr ⟨h1.1, by omega⟩, c.2⟩]
    · rw [if_neg c, if_neg]
      rintro ⟨h1, h2⟩
      rcases h1 with h1 | h1
      · exact c ⟨Or.inl h1, h2⟩
      · by_cases e : i % 8 = q
        · rw [h1.1, e, h] at h2; cases h2.2
        · exact c ⟨Or.inr ⟨h1.1, by omega⟩, h2⟩
  · show (if j = 5 then _ else _) = (if j = 5 then _ else _)
    rw [if_neg e, if_neg e]
theorem x_cd_s {σ : ST} {np : Nat} {dd : Int32} {s : Nat} : x_cd σ np dd s np = x_cd σ np dd (s + 1) 0 := by
  refine x_cd_ext (fun i => ?_) (fun j e => ?_)
  · show (if (i / 8 < s ∨ (i / 8 = s ∧ i % 8 < np)) ∧ i % 8 < np ∧ bt (σ.2 4 (i / 8)) (i % 8) = true then σ.2 5 i + dd else σ.2 5 i) = (if (i / 8 < s + 1 ∨ (i / 8 = s + 1 ∧ i % 8 < 0)) ∧ i % 8 < np ∧ bt (σ.2 4 (i / 8)) (i % 8) = true then σ.2 5 i + dd else σ.2 5 i)
    by_cases c : (i / 8 < s ∨ (i / 8 = s ∧ i % 8 < np)) ∧ i % 8 < np ∧ bt (σ.2 4 (i / 8)) (i % 8) = true
    · rw [if_pos c, if_pos ⟨by rcases c.1 with h1 | h1 <;> omega, c.2⟩]
    · rw [if_neg c, if_neg]
      rintro ⟨h1, h2⟩
      exact c ⟨by rcases h1 with h1 | h1 <;> omega, h2⟩
  · show (if j = 5 then _ else _) = (if j = 5 then _ else _)
    rw [if_neg e, if_neg e]
def x_cdA (σ : ST) (np : Nat) (dd : Int32) : ST := x_cd σ np dd 12 0
def x_addR (σ : ST) (nr : Nat) (sub P so : Int32) : ST := s_set (s_set (s_put (s_put (s_put (s_put σ 7 nr (σ.1 0)) 8 nr P) 9 nr sub) 10 nr so) 12 (σ.1 12 ||| bI nr)) 6 (nI (nr + 1))
def x_kept (σ : ST) (nr r : Nat) : Int32 := if bt (σ.1 14) r = true then 1 else if bt (σ.1 12) r = true then 2 else if bt (x_held (σ.2 15) 6) r = true then 3 else if x_bel σ nr r &&& (σ.1 14 ^^^ (-1)) = 0 then 0 else 4
def x_why (σ : ST) (np r q : Nat) : Int32 := if bt (σ.1 14) r = true then 1 else if bt (σ.1 13) r = true then 2 else if bt (σ.2 8 r) q = false then 3 else if bt (x_alw σ np (σ.2 9 r)) q = false then 4 else if x_ret σ q (σ.2 7 r) = true then 0 else 5
def x_state (σ : ST) (r : Nat) : Int32 := if bt (σ.1 14) r = true then 2 else if bt (σ.1 13) r = true then 1 else 0
/-- the highest record below n that can be erased -/
def x_find (σ : ST) (nr : Nat) : Nat → Option Nat
  | 0 => none
  | k + 1 => if x_kept σ nr k = 0 then some k else x_find σ nr k
def x_erA (σ : ST) (nr : Nat) : Int32 := match x_find σ nr nr with
  | none => -1
  | some k => nI k
def x_erS (σ : ST) (nr : Nat) : ST := match x_find σ nr nr with
  | none => σ
  | some k => x_mv σ k
/-- all that can be erased, from n down: how many are added to cnt, and the state -/
def x_eaC (nr : Nat) : Nat → ST → Int32 → Int32
  | 0, _, cnt => cnt
  | k + 1, σ, cnt => if x_kept σ nr k = 0 then x_eaC nr k (x_mv σ k) (cnt + 1) else x_eaC nr k σ cnt
def x_eaS (nr : Nat) : Nat → ST → ST
  | 0, σ => σ
  | k + 1, σ => if x_kept σ nr k = 0 then x_eaS nr k (x_mv σ k) else x_eaS nr k σ
def x_addP (σ : ST) (np : Nat) (len : Int32) (g : Bool) : ST := s_set (if g = true then s_put σ 2 np len else s_set (s_put σ 2 np len) 3 (σ.1 3 ||| bI np)) 1 (nI (np + 1))
def x_consS (σ : ST) (j q : Nat) (g : Bool) : ST := if bt (σ.2 4 j) q = g then σ else s_put σ 4 j (σ.2 4 j ^^^ bI q)
def x_asS (σ : ST) (nr r sr : Nat) : ST := x_sbS (s_put σ 10 r (σ.2 10 r ||| bI sr)) (x_wab ((s_put σ 10 r (σ.2 10 r ||| bI sr)).2 10) (bI r) nr) (σ.2 9 sr) nr
theorem sub1 (x : Int32) : x + (-1) = x - 1 := (Int32.sub_eq_add_neg x 1).symm
theorem s_put_self {σ : ST} {k i : Nat} {v : Int32} : (s_put σ k i v).2 k i = v := by
  show (if k = k then upd (σ.2 k) i v else σ.2 k) i = v
  rw [if_pos rfl]; exact upd_self
