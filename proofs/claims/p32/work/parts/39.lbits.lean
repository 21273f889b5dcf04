/-! ===== longs by their bits (the rows wb_.. and pf_.. began as the kit's starting texts) ===== -/
theorem wb_tb (n : Nat) : (lN n).toBitVec = BitVec.ofNat 64 n := rfl
theorem wb_inj {a b : Int64} (h : a.toBitVec = b.toBitVec) : a = b := Int64.toBitVec_inj.mp h
theorem wb_tn {n : Nat} (h : n < 2 ^ 64) : (lN n).toBitVec.toNat = n := by rw [wb_tb, BitVec.toNat_ofNat, Nat.mod_eq_of_lt h]
theorem wb_c : ∀ k, k < 64 → ((nI k).toInt64 &&& 63) = lN k := by decide +kernel
theorem wb_sm : ∀ k, k < 64 → (BitVec.ofNat 64 k).smod 64 = BitVec.ofNat 64 k := by decide +kernel
theorem wb_lt2 {a b : Nat} (h : a < b) : 2 ^ a < 2 ^ b := Nat.pow_lt_pow_right (by decide) h
theorem wb_shl (n : Nat) {k : Nat} (hk : k < 64) : lN n <<< ((nI k).toInt64 &&& 63) = lN (n * 2 ^ k) := by
  rw [wb_c k hk]
  apply wb_inj
  rw [Int64.toBitVec_shiftLeft, wb_tb, wb_tb, wb_tb, wb_sm k hk]
  apply BitVec.eq_of_toNat_eq
  rw [BitVec.shiftLeft_eq', BitVec.toNat_shiftLeft, BitVec.toNat_ofNat, BitVec.toNat_ofNat, BitVec.toNat_ofNat, Nat.mod_eq_of_lt (show k < 2 ^ 64 by omega), Nat.shiftLeft_eq, Nat.mul_mod, Nat.mod_mod, ← Nat.mul_mod]
theorem wb_and {a b : Nat} (ha : a < 2 ^ 64) (hb : b < 2 ^ 64) : lN a &&& lN b = lN (a &&& b) := by
  apply wb_inj
  rw [Int64.toBitVec_and, wb_tb, wb_tb, wb_tb]
  apply BitVec.eq_of_toNat_eq
  rw [BitVec.toNat_and, BitVec.toNat_ofNat, BitVec.toNat_ofNat, BitVec.toNat_ofNat, Nat.mod_eq_of_lt ha, Nat.mod_eq_of_lt hb, Nat.mod_eq_of_lt (Nat.and_lt_two_pow _ hb)]
theorem wb_mask {n k : Nat} (hn : n < 2 ^ 64) (hk : k < 64) : lN n &&& lN (2 ^ k - 1) = lN (n % 2 ^ k) := by
  rw [wb_and hn (by have := wb_lt2 hk; omega), Nat.and_two_pow_sub_one_eq_mod]
theorem pf_lI {a : Nat} (h : a < 2 ^ 63) : (lN a).toInt = (a : Int) := lg_ofNat_toInt h
theorem pf_shr {a d : Nat} {D : Int64} (hD : (D.toBitVec.smod 64).toNat = d) (h : a < 2 ^ 62) : lN a >>> D = lN (a / 2 ^ d) := by
  have hd : a / 2 ^ d ≤ a := Nat.div_le_self _ _
  apply Int64.toInt_inj.mp
  have e : (lN a >>> D).toInt = (lN a).toInt >>> d := by
    rw [← hD]
    exact BitVec.toInt_sshiftRight ..
  rw [e, Int.shiftRight_eq_div_pow, pf_lI (by omega), pf_lI (by omega)]
  rfl
/-! ===== counters of seven bits each in one long ===== -/
def dig (n q : Nat) : Nat := n / 2 ^ (7 * q) % 128
theorem u_sm : ∀ q, q < 8 → (((nI (7 * q)).toInt64 &&& 63).toBitVec.smod 64).toNat = 7 * q := by decide +kernel
theorem u_dig {n q : Nat} (hn : n < 2 ^ 62) (hq : q < 8) : (lN n >>> ((nI (7 * q)).toInt64 &&& 63)) &&& 127 = lN (dig n q) := by
  rw [pf_shr (u_sm q hq) hn]
  exact wb_mask (k := 7) (by have := Nat.div_le_self n (2 ^ (7 * q)); omega) (by decide)
theorem u_add (n : Nat) {q : Nat} (hq : q < 8) : lN n + (1 : Int64) <<< ((nI (7 * q)).toInt64 &&& 63) = lN (n + 2 ^ (7 * q)) := by
  rw [show (1 : Int64) = lN 1 from rfl, wb_shl 1 (by omega), lN_add, Nat.one_mul]
theorem dig_lt (n q : Nat) : dig n q < 128 := Nat.mod_lt _ (by decide)
theorem dig_same {n q : Nat} (h : dig n q < 127) : dig (n + 2 ^ (7 * q)) q = dig n q + 1 := by
  unfold dig at *
  rw [Nat.add_div_right n (Nat.two_pow_pos (7 * q))]
  omega
theorem dig_ne {n q j : Nat} (hj : ¬ j = q) (h : dig n q < 127) : dig (n + 2 ^ (7 * q)) j = dig n j := by
  unfold dig at *
  rcases Nat.lt_or_ge j q with c | c
  · have e : 2 ^ (7 * q) = 2 ^ (7 * j) * (128 * 2 ^ (7 * (q - j - 1))) := by
      rw [show (128 : Nat) = 2 ^ 7 from rfl, ← Nat.pow_add, ← Nat.pow_add]
      congr 1; omega
    rw [e, Nat.add_mul_div_left _ _ (Nat.two_pow_pos (7 * j)), Nat.add_mul_mod_self_left]
  · have e : 2 ^ (7 * j) = 2 ^ (7 * q) * (128 * 2 ^ (7 * (j - q - 1))) := by
      rw [show (128 : Nat) = 2 ^ 7 from rfl, ← Nat.pow_add, ← Nat.pow_add]
      congr 1; omega
    rw [e, ← Nat.div_div_eq_div_mul, ← Nat.div_div_eq_div_mul, ← Nat.div_div_eq_div_mul, ← Nat.div_div_eq_div_mul, Nat.add_div_right n (Nat.two_pow_pos (7 * q))]
    have e2 : (n / 2 ^ (7 * q)).succ / 128 = n / 2 ^ (7 * q) / 128 := by omega
    rw [e2]
theorem dig_0 (q : Nat) : dig 0 q = 0 := by unfold dig; rw [Nat.zero_div]
