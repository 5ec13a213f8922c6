/-! ranges -/
theorem vin_lt {i m : Int32} {n : Nat} (hm : m.toInt = n) (h0 : ¬ i < 0) (h : i < m) : vp_in i n := by
  rw [vp_in_iff]
  rw [Int32.lt_iff_toInt_lt] at h h0
  rw [Int32.toInt_zero] at h0
  omega
theorem i_lt {a b : Int32} : a < b ↔ a.toInt < b.toInt := Int32.lt_iff_toInt_lt
theorem i_le {a b : Int32} : a ≤ b ↔ a.toInt ≤ b.toInt := Int32.le_iff_toInt_le
theorem vin_sh {a m s : Int32} {n k : Nat} (hm : m.toInt + 1 = n) (hs : (s.toBitVec.smod 32).toNat = k) (h0 : ¬ a < 0) (h : a >>> s ≤ m) : vp_in (a >>> s) n := by
  rw [vp_in_iff]
  have e := pk_shr a s k hs
  rw [i_lt, Int32.toInt_zero] at h0
  rw [i_le] at h
  have h2 : 0 ≤ (a >>> s).toInt := by
    rw [e, Int.shiftRight_eq_div_pow]
    exact Int.ediv_nonneg (by omega) (by exact_mod_cast Nat.zero_le _)
  omega
