/-! ranges -/
theorem vin_lt {i m : Int32} {n : Nat} (hm : m.toInt = n) (h0 : ¬ i < 0) (h : i < m) : vp_in i n := by
  rw [vp_in_iff]
  rw [Int32.lt_iff_toInt_lt] at h h0
  rw [Int32.toInt_zero] at h0
  omega
