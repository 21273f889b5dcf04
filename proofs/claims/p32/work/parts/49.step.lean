/-! ===== a turn of the law: what the class does, what the law's rows do ===== -/
def ZZ (σ τ : ST) (υ : Nat → Int64) (T : Nat) : Prop := ∃ (μ : ST) (td np nr : Nat), td ≤ 4 * T ∧ RR σ μ td np nr ∧ YY μ τ υ td np nr T
theorem y_low_lt (v : Int32) {n : Nat} (h0 : 0 < n) (hn : n < 2 ^ 31) : ∃ k, k < n ∧ y_low v n = nI k := by
  obtain ⟨m, hm, rfl⟩ := nw_of v
  have e : nI m &&& 2147483647 = nI (m % 2 ^ 31) := by
    rw [show (2147483647 : Int32) = nI (2 ^ 31 - 1) from rfl, nw_and, Nat.and_two_pow_sub_one_eq_mod]
  refine ⟨m % 2 ^ 31 % n, Nat.mod_lt _ h0, ?_⟩
  unfold y_low
  rw [e]
  exact pk_rem (Nat.mod_lt _ (by decide)) h0 hn
theorem set_ok {k np : Nat} (hk : k < 2 ^ np) (hn8 : np ≤ 8) : nI k &&& ((bI np - 1) ^^^ (-1)) = 0 := by
  apply b_ext
  intro i hi
  rw [b_and, bt_not hi, all_bt_nat np (by omega) i hi, b_0, bt_nI hi]
  by_cases c : i < np
  · rw [decide_eq_true c]; simp
  · rw [decide_eq_false c, Nat.testBit_lt_two_pow (Nat.lt_of_lt_of_le hk (Nat.pow_le_pow_right (by decide) (by omega)))]; rfl
theorem bI_hi {j : Nat} (hj : j < 6) : ∀ z, 6 ≤ z → z < 32 → bt (bI j) z = false := fun z h6 h32 => by
  rw [bt_bI (by omega) h32]; exact decide_eq_false (by omega)
section ST9
variable {σ μ τ : ST} {υ : Nat → Int64} {td np nr T : Nat}
theorem St_0 (hR : RR σ μ td np nr) (hY : YY μ τ υ td np nr T) (hT : T < 110) (htd : td ≤ 4 * T) : ZZ σ τ υ (T + 1) := ⟨μ, td, np, nr, by omega, hR, Y_mono hY (by omega) hT⟩
theorem St_ap8 (hR : RR σ μ td np nr) (hY : YY μ τ υ td np nr T) (hT : T < 110) (htd : td ≤ 4 * T) {ln : Nat} (hln : ln ≤ 3650) (g : Bool) (h8 : τ.2 0 1 = 8) : ∃ (code : Nat) (val : Int32) (σ' : ST), x_out_addPurpose σ (nI ln) g code val σ' ∧ y_out (-2) (-3) 0 code val = -3 ∧ ZZ σ' τ υ (T + 1) :=
  ⟨2, 0, σ, xo_addPurpose_tB (nI ln) g (nI_pos (by omega)) (nI_le (b := 3650) hln (by decide)) (by rw [R_x1 hR, ← Y_q1 hY]; exact h8), rfl, St_0 hR hY hT htd⟩
theorem St_ap (hR : RR σ μ td np nr) (hY : YY μ τ υ td np nr T) (hT : T < 110) (htd : td ≤ 4 * T) {ln : Nat} (hln : ln ≤ 3650) (g : Bool) (hlt : np < 8) : ∃ (code : Nat) (val : Int32) (σ' : ST), x_out_addPurpose σ (nI ln) g code val σ' ∧ y_out (-2) (-3) 0 code val = nI np ∧ ZZ σ' (s_put (s_put (s_put τ 1 np (nI ln)) 1 (8 + np) (b01 g)) 0 1 (nI (np + 1))) υ (T + 1) :=
  ⟨0, nI np, _, xo_addPurpose (nI ln) g (nI_pos (by omega)) (nI_le (b := 3650) hln (by decide)) np (R_x1 hR) hlt, rfl, ⟨_, td, np + 1, nr, by omega, RR_addP hR (nI ln) g (nI_pos (by omega)) (nI_le (b := 3650) hln (by decide)) hlt, Y_mono (Y_addP hY (nI ln) g hlt) (by omega) hT⟩⟩
theorem np_8 (hR : RR σ μ td np nr) (hY : YY μ τ υ td np nr T) (h8 : ¬ τ.2 0 1 = 8) : np < 8 := by
  have hn8 := R_np hR
  have : ¬ np = 8 := fun e => h8 (by rw [Y_q1 hY, e]; rfl)
  omega
theorem nr_30 (hR : RR σ μ td np nr) (hY : YY μ τ υ td np nr T) (h : ¬ τ.2 0 2 = 30) : nr < 30 := by
  have hn := R_nr hR
  have : ¬ nr = 30 := fun e => h (by rw [Y_q2 hY, e]; rfl)
  omega
theorem nr_30e (hR : RR σ μ td np nr) (hY : YY μ τ υ td np nr T) (h : τ.2 0 2 = 30) : nr = 30 := by
  have hn := R_nr hR
  rw [Y_q2 hY] at h
  exact (nI_eq (b := 30) (by omega) (by decide)).mp h
theorem St_sr (hR : RR σ μ td np nr) (hY : YY μ τ υ td np nr T) (hT : T < 110) (htd : td ≤ 4 * T) {q ln : Nat} (hq : q < np) (hln : ln ≤ 3650) : ∃ (code : Nat) (val : Int32) (σ' : ST), x_out_setRetention σ (nI q) (nI ln) code val σ' ∧ y_out (-1) (-2) 0 code val = τ.2 1 q ∧ ZZ σ' (s_put τ 1 q (nI ln)) υ (T + 1) :=
  ⟨0, _, _, xo_setRetention q (nI ln) np (R_x1 hR) (R_np hR) hq (nI_pos (by omega)) (nI_le (b := 3650) hln (by decide)), by rw [Y_p hY hq, ← R_e2 hR]; rfl, ⟨_, td, np, nr, by omega, RR_setR hR hq (nI ln) (nI_pos (by omega)) (nI_le (b := 3650) hln (by decide)), Y_mono (Y_setR hY (by have := R_np hR; omega) (nI ln)) (by omega) hT⟩⟩
theorem St_cons (hR : RR σ μ td np nr) (hY : YY μ τ υ td np nr T) (hT : T < 110) (htd : td ≤ 4 * T) {j q : Nat} (hj : j < 6) (hq : q < np) (g : Bool) : bt (σ.2 4 j) q = bt (τ.2 1 (16 + j)) q ∧ (bt (τ.2 1 (16 + j)) q = g → ZZ (x_consS σ j q g) (s_put τ 1 (16 + j) (τ.2 1 (16 + j))) υ (T + 1)) ∧ (¬ bt (τ.2 1 (16 + j)) q = g → ZZ (x_consS σ j q g) (s_put τ 1 (16 + j) (τ.2 1 (16 + j) ^^^ bI q)) υ (T + 1)) := by
  have hn8 := R_np hR
  have h9 := Y_mono (Y_cons hY hn8 hj (show q < 8 by omega) g) (show T ≤ T + 1 by omega) hT
  have hC := RR_cons hR (show j < 12 by omega) hq g
  refine ⟨by rw [R_e4 hR, Y_c hY hj], fun c => ?_, fun c => ?_⟩
  · rw [if_pos c] at h9; exact ⟨_, td, np, nr, by omega, hC, h9⟩
  · rw [if_neg c] at h9; exact ⟨_, td, np, nr, by omega, hC, h9⟩
/-- adding -/
theorem St_add0 (hR : RR σ μ td np nr) (hY : YY μ τ υ td np nr T) (hT : T < 110) (htd : td ≤ 4 * T) {j st : Nat} (hj : j < 6) (hst : st < 2 ^ np) (h0 : nI st = 0) : ∃ (code : Nat) (val : Int32) (σ' : ST), x_out_add σ (nI j) (nI st) code val σ' ∧ y_out (-1) (-2) (-3) code val = -2 ∧ ZZ σ' τ υ (T + 1) :=
  ⟨2, 0, σ, xo_add_tC j (by omega) (nI st) np (R_x1 hR) (R_np hR) (set_ok hst (R_np hR)) h0, rfl, St_0 hR hY hT htd⟩
theorem St_addN (hR : RR σ μ td np nr) (hY : YY μ τ υ td np nr T) (hT : T < 110) (htd : td ≤ 4 * T) {j st : Nat} (hj : j < 6) (hst : st < 2 ^ np) (h0 : ¬ nI st = 0) (hbad : τ.2 0 2 = 30 ∨ y_opf τ.2 (nI st) (bI j) (τ.2 0 0) np = false) : ∃ (code : Nat) (val : Int32) (σ' : ST), x_out_add σ (nI j) (nI st) code val σ' ∧ y_out (-1) (-2) (-3) code val = -3 ∧ ZZ σ' τ υ (T + 1) :=
  ⟨3, 0, σ, xo_add_tD j (by omega) (nI st) np (R_x1 hR) (R_np hR) nr (R_x6 hR) (R_nr hR) (set_ok hst (R_np hR)) h0 (hbad.elim (fun h => Or.inl (nr_30e hR hY h)) (fun h => Or.inr (by rw [Y_open hR hY (bI_hi hj), Y_q0 hY, ← R_x0 hR] at h; exact h))), rfl, St_0 hR hY hT htd⟩
theorem St_add (hR : RR σ μ td np nr) (hY : YY μ τ υ td np nr T) (hT : T < 110) (htd : td ≤ 4 * T) {j st : Nat} (hj : j < 6) (hst : st < 2 ^ np) (h0 : ¬ nI st = 0) (h30 : nr < 30) (hop : y_opf τ.2 (nI st) (bI j) (τ.2 0 0) np = true) : ∃ (code : Nat) (val : Int32) (σ' : ST), x_out_add σ (nI j) (nI st) code val σ' ∧ y_out (-1) (-2) (-3) code val = nI nr ∧ ZZ σ' (y_layR τ nr (bI j) (nI st)) υ (T + 1) :=
  ⟨0, nI nr, _, xo_add j (by omega) (nI st) nr (R_x6 hR) h30 np (R_x1 hR) (R_np hR) (set_ok hst (R_np hR)) h0 (by rw [Y_open hR hY (bI_hi hj), Y_q0 hY, ← R_x0 hR] at hop; exact hop), rfl, ⟨_, td, np, nr + 1, by omega, RR_addR hR h30 (by omega) (nI st), Y_mono (Y_layR hR hY h30 hj (nI st)) (by omega) hT⟩⟩
theorem bad_R2 (hR : RR σ μ td np nr) {r : Nat} (h : nr ≤ r) (h31 : r ≤ 30) : (nI r : Int32) < 0 ∨ σ.1 6 ≤ nI r := Or.inr (by rw [R_x6 hR]; exact nI_le h (by omega))
theorem St_der1 (hR : RR σ μ td np nr) (hY : YY μ τ υ td np nr T) (hT : T < 110) (htd : td ≤ 4 * T) {r : Nat} (w : Int32) (h : nr ≤ r) (h31 : r ≤ 30) : ∃ (code : Nat) (val : Int32) (σ' : ST), x_out_derive σ (nI r) w code val σ' ∧ y_out (-1) (-2) (-3) code val = -1 ∧ ZZ σ' τ υ (T + 1) :=
  ⟨1, 0, σ, xo_derive_tA (nI r) (bad_R2 hR h h31) w, rfl, St_0 hR hY hT htd⟩
theorem St_der0 (hR : RR σ μ td np nr) (hY : YY μ τ υ td np nr T) (hT : T < 110) (htd : td ≤ 4 * T) {r st : Nat} (hr : r < nr) (hst : st < 2 ^ np) (h0 : nI st = 0) : ∃ (code : Nat) (val : Int32) (σ' : ST), x_out_derive σ (nI r) (nI st) code val σ' ∧ y_out (-1) (-2) (-3) code val = -2 ∧ ZZ σ' τ υ (T + 1) :=
  ⟨2, 0, σ, xo_derive_tC r nr (R_x6 hR) (R_nr hR) hr (nI st) np (R_x1 hR) (R_np hR) (set_ok hst (R_np hR)) h0, rfl, St_0 hR hY hT htd⟩
theorem pr_lt (hR : RR σ μ td np nr) (hY : YY μ τ υ td np nr T) {r : Nat} (hr : r < nr) : (bt (σ.1 12) r = true ↔ ¬ 0 < τ.2 6 r) := by
  rw [Y_pr hR hY hr, Y_t hY hr]
  rcases st_cases hR hr with g | g | g <;> rw [g] <;> decide
theorem St_derN (hR : RR σ μ td np nr) (hY : YY μ τ υ td np nr T) (hT : T < 110) (htd : td ≤ 4 * T) {r st : Nat} (hr : r < nr) (hst : st < 2 ^ np) (h0 : ¬ nI st = 0) (hbad : τ.2 0 2 = 30 ∨ 0 < τ.2 6 r ∨ y_opf τ.2 (nI st) (τ.2 2 r) (τ.2 0 0) np = false) : ∃ (code : Nat) (val : Int32) (σ' : ST), x_out_derive σ (nI r) (nI st) code val σ' ∧ y_out (-1) (-2) (-3) code val = -3 ∧ ZZ σ' τ υ (T + 1) := by
  refine ⟨3, 0, σ, ?_, rfl, St_0 hR hY hT htd⟩
  have hp := pr_lt hR hY hr
  by_cases c : bt (σ.1 12) r = true
  · refine xo_derive_tE r nr (R_x6 hR) (R_nr hR) hr (nI st) np (R_x1 hR) (R_np hR) (set_ok hst (R_np hR)) h0 c ?_
    rcases hbad with h | h | h
    · exact Or.inl (nr_30e hR hY h)
    · exact absurd h (hp.mp c)
    · rw [Y_open hR hY (by rw [Y_r hY hr]; exact Y_s hY hr), Y_q0 hY, ← R_x0 hR, Y_r hY hr, ← R_su hR r hr] at h
      exact Or.inr h
  · exact xo_derive_tD r nr (R_x6 hR) (R_nr hR) hr (nI st) np (R_x1 hR) (R_np hR) (set_ok hst (R_np hR)) h0 (bl_f c)
theorem St_der (hR : RR σ μ td np nr) (hY : YY μ τ υ td np nr T) (hT : T < 110) (htd : td ≤ 4 * T) {r st : Nat} (hr : r < nr) (hst : st < 2 ^ np) (h0 : ¬ nI st = 0) (h30 : nr < 30) (hp : ¬ 0 < τ.2 6 r) (hop : y_opf τ.2 (nI st) (τ.2 2 r) (τ.2 0 0) np = true) : ∃ (code : Nat) (val : Int32) (σ' : ST), x_out_derive σ (nI r) (nI st) code val σ' ∧ y_out (-1) (-2) (-3) code val = nI nr ∧ ZZ σ' (s_put (y_layD τ nr (τ.2 2 r) (nI st) r) 7 nr (bI r)) υ (T + 1) := by
  rw [Y_open hR hY (by rw [Y_r hY hr]; exact Y_s hY hr), Y_q0 hY, ← R_x0 hR, Y_r hY hr, ← R_su hR r hr] at hop
  exact ⟨0, nI nr, _, xo_derive r (nI st) nr (R_x6 hR) h30 hr np (R_x1 hR) (R_np hR) (set_ok hst (R_np hR)) h0 ((pr_lt hR hY hr).mpr hp) hop, rfl, ⟨_, td, np, nr + 1, by omega, RR_der hR h30 hr (nI st), Y_mono (Y_layD hR hY h30 hr (nI st)) (by omega) hT⟩⟩
/-- a source more -/
theorem src_cases (nr r sr : Nat) (B : Prop) (A C E : Prop) : (nr ≤ r ∨ nr ≤ sr) ∨ (((r < nr ∧ sr < nr) ∧ (r ≤ sr ∨ B)) ∨ (((r < nr ∧ sr < nr) ∧ sr < r ∧ ¬ B ∧ (A ∨ C ∨ E)) ∨ ((r < nr ∧ sr < nr) ∧ sr < r ∧ ¬ B ∧ ¬ A ∧ ¬ C ∧ ¬ E))) := by
  by_cases h1 : nr ≤ r ∨ nr ≤ sr
  · exact Or.inl h1
  · have h2 : r < nr ∧ sr < nr := by omega
    by_cases h3 : r ≤ sr ∨ B
    · exact Or.inr (Or.inl ⟨h2, h3⟩)
    · have h4 : sr < r := Nat.not_le.mp (fun h => h3 (Or.inl h))
      have h5 : ¬ B := fun h => h3 (Or.inr h)
      by_cases h6 : A ∨ C ∨ E
      · exact Or.inr (Or.inr (Or.inl ⟨h2, h4, h5, h6⟩))
      · exact Or.inr (Or.inr (Or.inr ⟨h2, h4, h5, fun h => h6 (Or.inl h), fun h => h6 (Or.inr (Or.inl h)), fun h => h6 (Or.inr (Or.inr h))⟩))
theorem St_src1 (hR : RR σ μ td np nr) (hY : YY μ τ υ td np nr T) (hT : T < 110) (htd : td ≤ 4 * T) {r sr : Nat} (hr31 : r ≤ 30) (hs31 : sr ≤ 30) (h : nr ≤ r ∨ nr ≤ sr) : ∃ (code : Nat) (val : Int32) (σ' : ST), x_out_addSource σ (nI r) (nI sr) code val σ' ∧ y_out (-1) (-2) (-3) code val = -1 ∧ ZZ σ' τ υ (T + 1) := by
  refine ⟨1, 0, σ, ?_, rfl, St_0 hR hY hT htd⟩
  by_cases c : nr ≤ r
  · exact xo_addSource_tA (nI r) (bad_R2 hR c hr31) (nI sr)
  · exact xo_addSource_tB r nr (R_x6 hR) (R_nr hR) (by omega) (nI sr) (bad_R2 hR (by omega) hs31)
theorem so_bit (hR : RR σ μ td np nr) (hY : YY μ τ υ td np nr T) {r : Nat} (hr : r < nr) : σ.2 10 r = τ.2 7 r := by rw [(R_rows hR).2.2.2.1, Y_f hY hr]
theorem St_src2 (hR : RR σ μ td np nr) (hY : YY μ τ υ td np nr T) (hT : T < 110) (htd : td ≤ 4 * T) {r sr : Nat} (hr : r < nr) (hs : sr < nr) (h : r ≤ sr ∨ bt (τ.2 7 r) sr = true) : ∃ (code : Nat) (val : Int32) (σ' : ST), x_out_addSource σ (nI r) (nI sr) code val σ' ∧ y_out (-1) (-2) (-3) code val = -2 ∧ ZZ σ' τ υ (T + 1) := by
  refine ⟨2, 0, σ, ?_, rfl, St_0 hR hY hT htd⟩
  by_cases c : r ≤ sr
  · exact xo_addSource_tC r sr nr (R_x6 hR) (R_nr hR) hr hs c
  · exact xo_addSource_tD r sr nr (R_x6 hR) (R_nr hR) hr hs (by omega) (by rw [so_bit hR hY hr]; exact h.resolve_left c)
theorem St_src3 (hR : RR σ μ td np nr) (hY : YY μ τ υ td np nr T) (hT : T < 110) (htd : td ≤ 4 * T) {r sr : Nat} (hr : r < nr) (hs : sr < nr) (hsr : sr < r) (hb : ¬ bt (τ.2 7 r) sr = true) (h : τ.2 6 (30 + r) = 1 ∨ 0 < τ.2 6 r ∨ 0 < τ.2 6 sr) : ∃ (code : Nat) (val : Int32) (σ' : ST), x_out_addSource σ (nI r) (nI sr) code val σ' ∧ y_out (-1) (-2) (-3) code val = -3 ∧ ZZ σ' τ υ (T + 1) := by
  refine ⟨3, 0, σ, ?_, rfl, St_0 hR hY hT htd⟩
  have hb2 : bt (σ.2 10 r) sr = false := by rw [so_bit hR hY hr]; exact bl_f hb
  have e9 := (R_rows hR).2.2.2.1
  by_cases c : σ.2 10 r = 0
  · exact xo_addSource_tE r sr nr (R_x6 hR) (R_nr hR) hr hs hsr hb2 c
  · refine xo_addSource_tF r sr nr (R_x6 hR) (R_nr hR) hr hs hsr hb2 c ?_
    rcases h with h | h | h
    · exact absurd (by rw [e9]; exact (Y_o hY hr).mp h) c
    · exact Or.inl (bl_f (fun g => (pr_lt hR hY hr).mp g h))
    · exact Or.inr (bl_f (fun g => (pr_lt hR hY hs).mp g h))
theorem St_src (hR : RR σ μ td np nr) (hY : YY μ τ υ td np nr T) (hT : T < 110) (htd : td ≤ 4 * T) {r sr : Nat} (hr : r < nr) (hs : sr < nr) (hsr : sr < r) (hb : ¬ bt (τ.2 7 r) sr = true) (h1 : ¬ τ.2 6 (30 + r) = 1) (h2 : ¬ 0 < τ.2 6 r) (h3 : ¬ 0 < τ.2 6 sr) : ∃ (code : Nat) (val : Int32) (σ' : ST), x_out_addSource σ (nI r) (nI sr) code val σ' ∧ y_out (-1) (-2) (-3) code val = nI (ct (bt (τ.2 2 r ||| τ.2 2 sr)) 32) ∧ ZZ σ' (y_so3 τ nr r sr nr) υ (T + 1) := by
  have e9 := (R_rows hR).2.2.2.1
  have h0 : ¬ μ.2 9 r = 0 := fun g => h1 ((Y_o hY hr).mpr g)
  have hb2 : bt (σ.2 10 r) sr = false := by rw [so_bit hR hY hr]; exact bl_f hb
  have hR' := RR_as hR hr hsr h0
  have hY' := Y_src hR hY hr hsr h0
  refine ⟨0, _, _, xo_addSource r sr nr (R_x6 hR) (R_nr hR) hr hs hsr hb2 (by rw [e9]; exact h0) ((pr_lt hR hY hr).mpr h2) ((pr_lt hR hY hs).mpr h3), ?_, ⟨_, td, np, nr, by omega, hR', Y_mono hY' (by omega) hT⟩⟩
  show x_pop ((x_asS σ nr r sr).2 9 r) = _
  have e2 : (y_so3 τ nr r sr nr).2 2 r = τ.2 2 r ||| τ.2 2 sr := by
    show (y_so2 τ nr r sr nr).2 2 r = _
    unfold y_so2
    exact y_or_in hr (by show (decide (r = r) || _) = true; rw [decide_eq_true rfl]; rfl)
  rw [R_su hR' r hr, ← Y_r hY' hr, e2, x_pop_ct]
/-- a use -/
theorem St_use1 (hR : RR σ μ td np nr) (hY : YY μ τ υ td np nr T) (hT : T < 110) (htd : td ≤ 4 * T) {r : Nat} (w : Int32) (h : nr ≤ r) (h31 : r ≤ 30) : ∃ (code : Nat) (val : Int32) (σ' : ST), x_out_use σ (nI r) w code val σ' ∧ y_out (-1) (-3) 0 code val = -1 ∧ ZZ σ' τ υ (T + 1) :=
  ⟨1, 0, σ, xo_use_tA (nI r) (bad_R2 hR h h31) w, rfl, St_0 hR hY hT htd⟩
theorem St_useN (hR : RR σ μ td np nr) (hY : YY μ τ υ td np nr T) (hT : T < 110) (htd : td ≤ 4 * T) {r q : Nat} (hr : r < nr) (hq : q < np) (h : ¬ y_rsn τ.2 r q = 0) : ∃ (code : Nat) (val : Int32) (σ' : ST), x_out_use σ (nI r) (nI q) code val σ' ∧ y_out (-1) (-3) 0 code val = -3 ∧ ZZ σ' τ υ (T + 1) :=
  ⟨2, 0, σ, xo_use_tC r q nr (R_x6 hR) (R_nr hR) hr np (R_x1 hR) (R_np hR) hq (by rw [Y_why hR hY hr hq]; exact h), rfl, St_0 hR hY hT htd⟩
theorem St_use (hR : RR σ μ td np nr) (hY : YY μ τ υ td np nr T) (hT : T < 110) (htd : td ≤ 4 * T) {r q : Nat} (hr : r < nr) (hq : q < np) (h : y_rsn τ.2 r q = 0) : ∃ (code : Nat) (val : Int32) (σ' : ST), x_out_use σ (nI r) (nI q) code val σ' ∧ y_out (-1) (-3) 0 code val = μ.2 13 (8 * r + q) + 1 ∧ ZZ σ' τ (vp_updL υ r (υ r + (1 : Int64) <<< ((nI (7 * q)).toInt64 &&& 63))) (T + 1) := by
  have hn := R_nr hR
  have hn8 := R_np hR
  refine ⟨0, _, _, xo_use r q nr (R_x6 hR) (R_nr hR) hr np (R_x1 hR) (R_np hR) hq (by rw [Y_why hR hY hr hq]; exact h), ?_, ⟨_, td, np, nr, by omega, RR_use hR, Y_use hY hT (by omega) (by omega)⟩⟩
  show σ.2 11 (r * 8 + q) + 1 = _
  rw [(R_rows hR).2.2.2.2.1, Nat.mul_comm]
/-- holding -/
theorem ho_row (hR : RR σ μ td np nr) (hY : YY μ τ υ td np nr T) {i : Nat} (hi : i < 6) : σ.2 15 i = τ.2 1 (22 + i) := by rw [(R_rows hR).2.2.2.2.2, Y_h hY hi]
theorem St_hold1 (hR : RR σ μ td np nr) (hY : YY μ τ υ td np nr T) (hT : T < 110) (htd : td ≤ 4 * T) {i r : Nat} (hi : i < 6) (h : nr ≤ r) (h31 : r ≤ 30) : ∃ (code : Nat) (val : Int32) (σ' : ST), x_out_hold σ (nI i) (nI r) code val σ' ∧ y_out (-1) (-3) 0 code val = -1 ∧ ZZ σ' (s_put τ 1 (22 + i) (τ.2 1 (22 + i))) υ (T + 1) :=
  ⟨1, 0, σ, xo_hold_tB i hi (nI r) (bad_R2 hR h h31), rfl, by rw [s_put_id]; exact St_0 hR hY hT htd⟩
theorem er_lt (hR : RR σ μ td np nr) (hY : YY μ τ υ td np nr T) {r : Nat} (hr : r < nr) : (bt (σ.1 14) r = true ↔ 2 ≤ τ.2 6 r) := by
  rw [R_er hR hr, Y_t hY hr]
  rcases st_cases hR hr with g | g | g <;> rw [g] <;> decide
theorem St_holdN (hR : RR σ μ td np nr) (hY : YY μ τ υ td np nr T) (hT : T < 110) (htd : td ≤ 4 * T) {i r : Nat} (hi : i < 6) (hr : r < nr) (h : 2 ≤ τ.2 6 r ∨ bt (τ.2 1 (22 + i)) r = true) : ∃ (code : Nat) (val : Int32) (σ' : ST), x_out_hold σ (nI i) (nI r) code val σ' ∧ y_out (-1) (-3) 0 code val = -3 ∧ ZZ σ' (s_put τ 1 (22 + i) (τ.2 1 (22 + i))) υ (T + 1) := by
  refine ⟨2, 0, σ, ?_, rfl, by rw [s_put_id]; exact St_0 hR hY hT htd⟩
  by_cases c : bt (σ.1 14) r = true
  · exact xo_hold_tC i r nr (R_x6 hR) (R_nr hR) hr hi c
  · refine xo_hold_tD i r nr (R_x6 hR) (R_nr hR) hr hi (bl_f c) ?_
    rw [ho_row hR hY hi]
    exact h.resolve_left (fun g => c ((er_lt hR hY hr).mpr g))
theorem St_hold (hR : RR σ μ td np nr) (hY : YY μ τ υ td np nr T) (hT : T < 110) (htd : td ≤ 4 * T) {i r : Nat} (hi : i < 6) (hr : r < nr) (h1 : ¬ 2 ≤ τ.2 6 r) (h2 : bt (τ.2 1 (22 + i)) r = false) : ∃ (code : Nat) (val : Int32) (σ' : ST), x_out_hold σ (nI i) (nI r) code val σ' ∧ y_out (-1) (-3) 0 code val = nI (ct (bt (τ.2 1 (22 + i) ||| bI r)) 32) ∧ ZZ σ' (s_put τ 1 (22 + i) (τ.2 1 (22 + i) ||| bI r)) υ (T + 1) := by
  refine ⟨0, _, _, xo_hold i r nr (R_x6 hR) (R_nr hR) hr hi (bl_f (fun g => h1 ((er_lt hR hY hr).mp g))) (by rw [ho_row hR hY hi]; exact h2), ?_, ⟨_, td, np, nr, by omega, RR_hold hR hi hr, ?_⟩⟩
  · show x_pop (σ.2 15 i ||| bI r) = _
    rw [ho_row hR hY hi, x_pop_ct]
  · rw [Y_h hY hi]
    exact Y_mono (Y_hR hY (R_np hR) hi _) (by omega) hT
theorem St_close (hR : RR σ μ td np nr) (hY : YY μ τ υ td np nr T) (hT : T < 110) (htd : td ≤ 4 * T) {i : Nat} (hi : i < 6) : x_pop (x_held (σ.2 15) 6 &&& (x_held ((s_put σ 15 i 0).2 15) 6 ^^^ (-1))) = nI (ct (bt (y_held τ.2)) 32) - nI (ct (bt (y_held (s_put τ 1 (22 + i) 0).2)) 32) ∧ ZZ (s_put σ 15 i 0) (s_put τ 1 (22 + i) 0) υ (T + 1) := by
  have hR' := RR_close hR hi
  have hY' := Y_hR hY (R_np hR) hi 0
  refine ⟨?_, ⟨_, td, np, nr, by omega, hR', Y_mono hY' (by omega) hT⟩⟩
  rw [Y_held hY, Y_held hY', ← (R_rows hR).2.2.2.2.2, ← (R_rows hR').2.2.2.2.2, x_pop_ct]
  have hsub : ∀ z, bt (x_held ((s_put σ 15 i 0).2 15) 6) z = true → bt (x_held (σ.2 15) 6) z = true := fun z hz => by
    obtain ⟨k, h1, h2⟩ := (held_bits 6).mp hz
    have h2 : bt (upd (σ.2 15) i 0 k) z = true := h2
    by_cases e : k = i
    · subst e; rw [upd_self, b_0] at h2; cases h2
    · rw [upd_ne e] at h2; exact (held_bits 6).mpr ⟨k, h1, h2⟩
  have hd : ct (bt (x_held (σ.2 15) 6)) 32 = ct (bt (x_held (σ.2 15) 6 &&& (x_held ((s_put σ 15 i 0).2 15) 6 ^^^ (-1)))) 32 + ct (bt (x_held ((s_put σ 15 i 0).2 15) 6)) 32 := by
    rw [← ct_or 32 (fun k hk g => by
      rw [b_and, bt_not (by omega), g.2] at g
      have := (and_t g.1).2; cases this)]
    refine ct_cong 32 (fun k hk => bool_ext ?_)
    rw [Bool.or_eq_true, b_and, bt_not (by omega), Bool.and_eq_true]
    constructor
    · intro g
      cases c : bt (x_held ((s_put σ 15 i 0).2 15) 6) k
      · exact Or.inl ⟨g, rfl⟩
      · exact Or.inr rfl
    · rintro (g | g)
      · exact g.1
      · exact hsub k g
  rw [pk_sub (by omega), hd, Nat.add_sub_cancel]
theorem St_req (hR : RR σ μ td np nr) (hY : YY μ τ υ td np nr T) (hT : T < 110) (htd : td ≤ 4 * T) {j : Nat} (hj : j < 6) : y_askC nr (fun k => bt (τ.2 2 k) j) τ nr = x_pop (x_rq σ (x_rof (σ.2 9) j nr &&& σ.1 12) nr) ∧ ZZ (x_req σ (x_rof (σ.2 9) j nr &&& σ.1 12) nr) (y_ask nr (fun k => bt (τ.2 2 k) j) τ nr) υ (T + 1) := by
  obtain ⟨μ', h1, h2, h3⟩ := S_req hR hY (j := j) (by omega)
  exact ⟨h3, ⟨μ', td, np, nr, by omega, h1, Y_mono h2 (by omega) hT⟩⟩
theorem St_days (hR : RR σ μ td np nr) (hY : YY μ τ υ td np nr T) (hT : T < 110) (htd : td ≤ 4 * T) {n : Nat} (hn : n < 4) : y_dyc nr np τ (n + 1) = x_pop (x_rq (s_set (x_cdA σ np (nI (n + 1))) 0 (σ.1 0 + nI (n + 1))) (x_due (s_set (x_cdA σ np (nI (n + 1))) 0 (σ.1 0 + nI (n + 1))) np nr) nr) ∧ ZZ (x_req (s_set (x_cdA σ np (nI (n + 1))) 0 (σ.1 0 + nI (n + 1))) (x_due (s_set (x_cdA σ np (nI (n + 1))) 0 (σ.1 0 + nI (n + 1))) np nr) nr) (y_dys nr np τ (n + 1)) υ (T + 1) := by
  obtain ⟨μ', h1, h2, h3⟩ := S_days hR hY (by omega) n (by omega)
  exact ⟨h3, ⟨μ', td + (n + 1), np, nr, by omega, h1, Y_mono h2 (by omega) hT⟩⟩
theorem St_er (hR : RR σ μ td np nr) (hY : YY μ τ υ td np nr T) (hT : T < 110) (htd : td ≤ 4 * T) : y_erA τ.2 nr = x_erA σ nr ∧ ZZ (x_erS σ nr) (y_erS τ nr) υ (T + 1) := by
  obtain ⟨μ', h1, h2, h3⟩ := S_erase hR hY
  exact ⟨h1, ⟨μ', td, np, nr, by omega, h2, Y_mono h3 (by omega) hT⟩⟩
theorem l_self (hR : RR σ μ td np nr) (hY : YY μ τ υ td np nr T) : ∀ i, i < nr → bt (τ.2 3 i) i = false := fun i hi => bl_f (fun g => by
  have hn := R_nr hR
  rw [Y_l hY hi] at g
  have := m_belk_bit (by omega) nr (by omega) g
  omega)
theorem l_low (hR : RR σ μ td np nr) (hY : YY μ τ υ td np nr T) {r sr : Nat} (hr : r < nr) (hs : sr < r) : bt (τ.2 3 r) sr = false := bl_f (fun g => by
  have hn := R_nr hR
  rw [Y_l hY hr] at g
  have := m_belk_bit (by omega) nr (by omega) g
  omega)
end ST9
