theorem i64_ne {x : Int32} (h : ¬ x = 0) : ¬ x.toInt64 = 0 := fun q => h (Int32.toInt_inj.mp (by
  have h2 := congrArg Int64.toInt q
  rw [Int32.toInt_toInt64] at h2
  rw [h2]
  rfl))
theorem lg_ne {x y : Int64} (h : ¬ lg_cmp x y = 0) : ¬ x = y := fun q => h (by
  subst q
  unfold lg_cmp
  rw [if_neg (by simp), if_pos rfl])
theorem vin_nle {i m : Int32} {n : Nat} (hm : m.toInt = n) (h0 : ¬ i < 0) (h : ¬ m ≤ i) : vp_in i n := by
  rw [vp_in_iff]
  rw [i_lt, Int32.toInt_zero] at h0
  rw [i_le] at h
  omega
theorem sub_toInt {a k : Int32} (h0 : 0 ≤ k.toInt) (h1 : k ≤ a) : (a - k).toInt = a.toInt - k.toInt := by
  rw [i_le] at h1
  have h2 := Int32.toInt_lt a
  rw [Int32.toInt_sub]
  exact Int.bmod_eq_of_le (by omega) (by omega)
theorem vin_sub {a k m : Int32} {n : Nat} (h0 : 0 ≤ k.toInt) (hm : m.toInt - k.toInt = n) (h1 : k ≤ a) (h2 : ¬ m ≤ a) : vp_in (a - k) n := by
  rw [vp_in_iff, sub_toInt h0 h1]
  rw [i_le] at h1 h2
  omega
