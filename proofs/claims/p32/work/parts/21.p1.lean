/-! ===== counting bits ===== -/
def ct (p : Nat → Bool) : Nat → Nat
  | 0 => 0
  | n + 1 => ct p n + (if p n = true then 1 else 0)
theorem ct_cong {p q : Nat → Bool} : ∀ n, (∀ k, k < n → p k = q k) → ct p n = ct q n
  | 0, _ => rfl
  | n + 1, h => by rw [ct, ct, ct_cong n (fun k hk => h k (by omega)), h n (by omega)]
theorem ct_le (p : Nat → Bool) : ∀ n, ct p n ≤ n
  | 0 => Nat.le_refl 0
  | n + 1 => by
    have := ct_le p n
    rw [ct]
    by_cases h : p n = true
    · rw [if_pos h]; omega
    · rw [if_neg h]; omega
theorem ct_split (p : Nat → Bool) (m : Nat) : ∀ n, ct p (m + n) = ct p m + ct (fun k => p (m + k)) n
  | 0 => rfl
  | n + 1 => by
    show ct p (m + n + 1) = _
    rw [ct, ct, ct_split p m n]
    omega
theorem ct_zero {p : Nat → Bool} : ∀ n, (∀ k, k < n → p k = false) → ct p n = 0
  | 0, _ => rfl
  | n + 1, h => by rw [ct, ct_zero n (fun k hk => h k (by omega)), h n (by omega)]; rfl
theorem ct_top {p : Nat → Bool} {m : Nat} : ∀ n, m ≤ n → (∀ k, m ≤ k → k < n → p k = false) → ct p n = ct p m
  | 0, h, _ => by rw [show m = 0 by omega]
  | n + 1, h, hz => by
    by_cases e : m = n + 1
    · rw [e]
    · rw [ct, ct_top n (by omega) (fun k h1 h2 => hz k h1 (by omega)), hz n (by omega) (by omega)]; rfl
theorem ct_or {p q : Nat → Bool} : ∀ n, (∀ k, k < n → ¬ (p k = true ∧ q k = true)) → ct (fun k => p k || q k) n = ct p n + ct q n
  | 0, _ => rfl
  | n + 1, h => by
    rw [ct, ct, ct, ct_or n (fun k hk => h k (by omega))]
    have h1 := h n (by omega)
    cases hp : p n <;> cases hq : q n
    · simp
    · simp; omega
    · simp; omega
    · exact absurd ⟨hp, hq⟩ h1
theorem m_size_ct (x : Int32) : ∀ n, n ≤ 32 → m_size x n = nI (ct (bt x) n)
  | 0, _ => rfl
  | n + 1, h => by
    rw [m_size, m_size_ct x n (by omega), m_has_nat x (by omega), ct]
    by_cases e : bt x n = true
    · rw [if_pos e, if_pos e]; exact nI_1 _
    · rw [if_neg e, if_neg e]; exact add0 _
theorem nw_and (a b : Nat) : nI a &&& nI b = nI (a &&& b) := by
  apply Int32.toBitVec_inj.1
  show BitVec.ofNat 32 a &&& BitVec.ofNat 32 b = BitVec.ofNat 32 (a &&& b)
  apply BitVec.eq_of_getLsbD_eq
  intro i hi
  simp [hi]
theorem nw_of (x : Int32) : ∃ n, n < 2 ^ 32 ∧ x = nI n := ⟨x.toBitVec.toNat, x.toBitVec.isLt, Int32.toBitVec_inj.mp (by show _ = BitVec.ofNat 32 _; simp)⟩
theorem land_lane {p m h M : Nat} (hp : p < 256) (hm : m < 256) : (256 * h + p) &&& (256 * M + m) = 256 * (h &&& M) + (p &&& m) := by
  have hpm : p &&& m < 2 ^ 8 := Nat.lt_of_le_of_lt Nat.and_le_left hp
  apply Nat.eq_of_testBit_eq
  intro i
  rw [Nat.testBit_and, show (256 : Nat) = 2 ^ 8 from rfl, Nat.testBit_two_pow_mul_add h hp, Nat.testBit_two_pow_mul_add M hm, Nat.testBit_two_pow_mul_add (h &&& M) hpm]
  by_cases c : i < 8
  · rw [if_pos c, if_pos c, if_pos c, Nat.testBit_and]
  · rw [if_neg c, if_neg c, if_neg c, Nat.testBit_and]
def n4 (a b c d : Nat) : Nat := 256 * (256 * (256 * d + c) + b) + a
theorem land4 {a b c d m : Nat} (ha : a < 256) (hb : b < 256) (hc : c < 256) (hd : d < 256) (hm : m < 256) : n4 a b c d &&& n4 m m m m = n4 (a &&& m) (b &&& m) (c &&& m) (d &&& m) := by
  unfold n4
  rw [land_lane ha hm, land_lane hb hm]
  have h1 : (256 * d + c) &&& (256 * m + m) = 256 * (d &&& m) + (c &&& m) := land_lane hc hm
  rw [h1]
theorem pa_s : ∀ h, h < 2 → ∀ a, a < 256 → (128 * h + a / 2) &&& 85 = (a / 2) &&& 85 := by decide +kernel
theorem pb_s : ∀ h, h < 4 → ∀ a, a < 256 → (64 * h + a / 4) &&& 51 = (a / 4) &&& 51 := by decide +kernel
theorem pa_le : ∀ a, a < 256 → (a / 2) &&& 85 ≤ a := by decide +kernel
def pA (a : Nat) : Nat := a - ((a / 2) &&& 85)
def pB (a : Nat) : Nat := (pA a &&& 51) + ((pA a / 4) &&& 51)
def pC (a : Nat) : Nat := (pB a + pB a / 16) % 16
theorem pA_lt : ∀ a, a < 256 → pA a < 256 := by decide +kernel
theorem pB_le : ∀ a, a < 256 → pB a ≤ 68 ∧ pB a % 16 ≤ 4 := by decide +kernel
theorem pC_ct : ∀ a, a < 256 → pC a = ct (fun i => a.testBit i) 8 := by decide +kernel
theorem shr2_4 {a b c d : Nat} (ha : a < 256) (hb : b < 256) (hc : c < 256) (hd : d < 256) : n4 a b c d / 2 = n4 (128 * (b % 2) + a / 2) (128 * (c % 2) + b / 2) (128 * (d % 2) + c / 2) (d / 2) := by unfold n4; omega
theorem shr4_4 {a b c d : Nat} (ha : a < 256) (hb : b < 256) (hc : c < 256) (hd : d < 256) : n4 a b c d / 4 = n4 (64 * (b % 4) + a / 4) (64 * (c % 4) + b / 4) (64 * (d % 4) + c / 4) (d / 4) := by unfold n4; omega
theorem popA4 {a b c d : Nat} (ha : a < 256) (hb : b < 256) (hc : c < 256) (hd : d < 256) : n4 a b c d - (n4 a b c d / 2 &&& 1431655765) = n4 (pA a) (pA b) (pA c) (pA d) ∧ (n4 a b c d / 2 &&& 1431655765) ≤ n4 a b c d := by
  have e : n4 a b c d / 2 &&& 1431655765 = n4 ((a / 2) &&& 85) ((b / 2) &&& 85) ((c / 2) &&& 85) ((d / 2) &&& 85) := by
    rw [shr2_4 ha hb hc hd, show (1431655765 : Nat) = n4 85 85 85 85 from rfl, land4 (by omega) (by omega) (by omega) (by omega) (by omega), pa_s _ (by omega) a ha, pa_s _ (by omega) b hb, pa_s _ (by omega) c hc]
  have h1 := pa_le a ha
  have h2 := pa_le b hb
  have h3 := pa_le c hc
  have h4 := pa_le d hd
  rw [e]
  unfold n4 pA
  omega
theorem popB4 {a b c d : Nat} (ha : a < 256) (hb : b < 256) (hc : c < 256) (hd : d < 256) : (n4 (pA a) (pA b) (pA c) (pA d) &&& 858993459) + (n4 (pA a) (pA b) (pA c) (pA d) / 4 &&& 858993459) = n4 (pB a) (pB b) (pB c) (pB d) := by
  have h1 := pA_lt a ha
  have h2 := pA_lt b hb
  have h3 := pA_lt c hc
  have h4 := pA_lt d hd
  rw [shr4_4 h1 h2 h3 h4, show (858993459 : Nat) = n4 51 51 51 51 from rfl, land4 h1 h2 h3 h4 (by omega), land4 (by omega) (by omega) (by omega) (by omega) (by omega), pb_s _ (by omega) _ h1, pb_s _ (by omega) _ h2, pb_s _ (by omega) _ h3]
  unfold n4 pB
  omega
theorem popC4 {a b c d : Nat} (ha : a < 256) (hb : b < 256) (hc : c < 256) (hd : d < 256) : (n4 (pB a) (pB b) (pB c) (pB d) + n4 (pB a) (pB b) (pB c) (pB d) / 16) &&& 252645135 = n4 (pC a) (pC b) (pC c) (pC d) := by
  have h1 := pB_le a ha
  have h2 := pB_le b hb
  have h3 := pB_le c hc
  have h4 := pB_le d hd
  have e : n4 (pB a) (pB b) (pB c) (pB d) + n4 (pB a) (pB b) (pB c) (pB d) / 16 = n4 (pB a + pB a / 16 + 16 * (pB b % 16)) (pB b + pB b / 16 + 16 * (pB c % 16)) (pB c + pB c / 16 + 16 * (pB d % 16)) (pB d + pB d / 16) := by
    unfold n4; omega
  have m15 : ∀ z : Nat, z &&& 15 = z % 16 := fun z => Nat.and_two_pow_sub_one_eq_mod z 4
  rw [e, show (252645135 : Nat) = n4 15 15 15 15 from rfl, land4 (by omega) (by omega) (by omega) (by omega) (by omega), m15, m15, m15, m15]
  have e1 : (pB a + pB a / 16 + 16 * (pB b % 16)) % 16 = pC a := by unfold pC; omega
  have e2 : (pB b + pB b / 16 + 16 * (pB c % 16)) % 16 = pC b := by unfold pC; omega
  have e3 : (pB c + pB c / 16 + 16 * (pB d % 16)) % 16 = pC c := by unfold pC; omega
  rw [e1, e2, e3]
  rfl
theorem x_pop_4 {a b c d : Nat} (ha : a < 256) (hb : b < 256) (hc : c < 256) (hd : d < 256) : x_pop (nI (n4 a b c d)) = nI (pC a + pC b + pC c + pC d) := by
  have hlt : n4 a b c d < 2 ^ 32 := by unfold n4; omega
  have k1 : pC a < 16 := by unfold pC; omega
  have k2 : pC b < 16 := by unfold pC; omega
  have k3 : pC c < 16 := by unfold pC; omega
  have k4 : pC d < 16 := by unfold pC; omega
  have q1 : pC a ≤ 8 := by rw [pC_ct a ha]; exact ct_le _ _
  have q2 : pC b ≤ 8 := by rw [pC_ct b hb]; exact ct_le _ _
  have q3 : pC c ≤ 8 := by rw [pC_ct c hc]; exact ct_le _ _
  have q4 : pC d ≤ 8 := by rw [pC_ct d hd]; exact ct_le _ _
  have h1 := pA_lt a ha
  have h2 := pA_lt b hb
  have h3 := pA_lt c hc
  have h4 := pA_lt d hd
  have g1 := pB_le a ha
  have g2 := pB_le b hb
  have g3 := pB_le c hc
  have g4 := pB_le d hd
  have eA : x_popA (nI (n4 a b c d)) = nI (n4 (pA a) (pA b) (pA c) (pA d)) := by
    unfold x_popA
    rw [pk_ushrN hlt (1 : Int32) 1 (by decide), show (1431655765 : Int32) = nI 1431655765 from rfl, nw_and, Nat.pow_one, pk_sub (popA4 ha hb hc hd).2, (popA4 ha hb hc hd).1]
  have eB : x_popB (nI (n4 (pA a) (pA b) (pA c) (pA d))) = nI (n4 (pB a) (pB b) (pB c) (pB d)) := by
    unfold x_popB
    rw [pk_ushrN (by unfold n4; omega) (2 : Int32) 2 (by decide), show (858993459 : Int32) = nI 858993459 from rfl, nw_and, nw_and, nI_add, show (2 : Nat) ^ 2 = 4 from rfl, popB4 ha hb hc hd]
  have eC : x_popC (nI (n4 (pB a) (pB b) (pB c) (pB d))) = nI (n4 (pC a) (pC b) (pC c) (pC d)) := by
    unfold x_popC
    rw [pk_ushrN (by unfold n4; omega) (4 : Int32) 4 (by decide), nI_add, show (252645135 : Int32) = nI 252645135 from rfl, nw_and, show (2 : Nat) ^ 4 = 16 from rfl, popC4 ha hb hc hd]
  have eD : x_popD (nI (n4 (pC a) (pC b) (pC c) (pC d))) = nI (n4 (pC a) (pC b) (pC c) (pC d) + n4 (pC a) (pC b) (pC c) (pC d) / 256) := by
    unfold x_popD
    rw [pk_ushrN (by unfold n4; omega) (8 : Int32) 8 (by decide), nI_add, show (2 : Nat) ^ 8 = 256 from rfl]
  unfold x_pop
  rw [eA, eB, eC, eD]
  unfold x_popE
  rw [pk_ushrN (by unfold n4; omega) (16 : Int32) 16 (by decide), nI_add, show (63 : Int32) = nI 63 from rfl, nw_and, show (2 : Nat) ^ 16 = 65536 from rfl, show (63 : Nat) = 2 ^ 6 - 1 from rfl, Nat.and_two_pow_sub_one_eq_mod, show (2 : Nat) ^ 6 = 64 from rfl]
  have e1 : n4 (pC a) (pC b) (pC c) (pC d) / 256 = 65536 * pC d + 256 * pC c + pC b := by unfold n4; omega
  have e0 : n4 (pC a) (pC b) (pC c) (pC d) = 16777216 * pC d + 65536 * pC c + 256 * pC b + pC a := by unfold n4; omega
  rw [e1, e0]
  have e2 : (16777216 * pC d + 65536 * pC c + 256 * pC b + pC a + (65536 * pC d + 256 * pC c + pC b)) / 65536 = 256 * pC d + pC d + pC c := by omega
  rw [e2]
  have e3 : (16777216 * pC d + 65536 * pC c + 256 * pC b + pC a + (65536 * pC d + 256 * pC c + pC b) + (256 * pC d + pC d + pC c)) % 64 = pC a + pC b + pC c + pC d := by omega
  rw [e3]
theorem bt_nI {n i : Nat} (hi : i < 32) : bt (nI n) i = n.testBit i := by
  unfold bt
  show (BitVec.ofNat 32 n).getLsbD i = _
  rw [BitVec.getLsbD_ofNat, decide_eq_true hi, Bool.true_and]
theorem ct_lane {a h : Nat} (ha : a < 256) (n : Nat) : ct (fun i => (256 * h + a).testBit i) (8 + n) = ct (fun i => a.testBit i) 8 + ct (fun i => h.testBit i) n := by
  rw [ct_split]
  have e : ∀ i, (256 * h + a).testBit i = if i < 8 then a.testBit i else h.testBit (i - 8) := fun i => by
    rw [show (256 : Nat) = 2 ^ 8 from rfl]; exact Nat.testBit_two_pow_mul_add h ha i
  rw [ct_cong (q := fun i => a.testBit i) 8 (fun k hk => by rw [e, if_pos hk]), ct_cong (q := fun i => h.testBit i) n (fun k _ => by rw [e, if_neg (by omega), show 8 + k - 8 = k by omega])]
/-- Integer.bitCount counts the bits -/
theorem x_pop_ct (x : Int32) : x_pop x = nI (ct (bt x) 32) := by
  obtain ⟨n, hn, rfl⟩ := nw_of x
  have e : n = n4 (n % 256) (n / 256 % 256) (n / 65536 % 256) (n / 16777216) := by unfold n4; omega
  have h1 : n % 256 < 256 := by omega
  have h2 : n / 256 % 256 < 256 := by omega
  have h3 : n / 65536 % 256 < 256 := by omega
  have h4 : n / 16777216 < 256 := by omega
  generalize n % 256 = a at e h1
  generalize n / 256 % 256 = b at e h2
  generalize n / 65536 % 256 = c at e h3
  generalize n / 16777216 = d at e h4
  rw [e, x_pop_4 h1 h2 h3 h4, ct_cong (q := fun i => (n4 a b c d).testBit i) 32 (fun k hk => bt_nI hk)]
  have l1 : ct (fun i => (n4 a b c d).testBit i) 32 = _ := ct_lane (h := 256 * (256 * d + c) + b) h1 24
  have l2 : ct (fun i => (256 * (256 * d + c) + b).testBit i) 24 = _ := ct_lane (h := 256 * d + c) h2 16
  have l3 : ct (fun i => (256 * d + c).testBit i) 16 = _ := ct_lane (h := d) h3 8
  rw [l1, l2, l3, pC_ct a h1, pC_ct b h2, pC_ct c h3, pC_ct d h4]
  congr 1
  omega
theorem pop_size (x : Int32) (h : ∀ i, 30 ≤ i → i < 32 → bt x i = false) : x_pop x = m_size x 30 := by
  rw [x_pop_ct, m_size_ct x 30 (by omega), ct_top 32 (by omega) h]
