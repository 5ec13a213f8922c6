/-! the twin: what its fields are, as far as a step's indices need it -/
theorem WP_nil {P : Sg → Prop} : WP [] P := fun _ _ _ _ hw _ => by
  rcases hw with h | h <;> cases h
theorem WP_at2 {W : List (Nat × Option Nat)} {a b c : Nat} {R : Int32 → Int32 → Prop} (h : (W.all fun q => decide (q ≠ (a, none)) && (decide (q ≠ (a, some b)) && decide (q ≠ (a, some c)))) = true) : WP W (fun s => R (s a b) (s a c)) := by
  intro s i j v hw hp
  have e1 : up2 s i j v a b = s a b := WP_at (W := W) (a := a) (b := b) (R := fun z => z = s a b) (List.all_eq_true.mpr fun q hq => by
    have := List.all_eq_true.mp h q hq
    simp only [Bool.and_eq_true] at this ⊢
    exact ⟨this.1, this.2.1⟩) s i j v hw rfl
  have e2 : up2 s i j v a c = s a c := WP_at (W := W) (a := a) (b := c) (R := fun z => z = s a c) (List.all_eq_true.mpr fun q hq => by
    have := List.all_eq_true.mp h q hq
    simp only [Bool.and_eq_true] at this ⊢
    exact ⟨this.1, this.2.2⟩) s i j v hw rfl
  show R (up2 s i j v a b) (up2 s i j v a c)
  rw [e1, e2]
  exact hp
def OV (s : Sg) : Prop := s 15 10 < 0 ∨ vp_in (s 15 10) 4
def MK (s : Sg) : Prop := vp_in (s 15 12) 8
def EK (s : Sg) : Prop := vp_in (s 15 13) 8 ∨ (s 15 13 < 0 ∧ vp_in (s 15 15) 4)
def KY (s : Sg) : Prop := vp_in (s 15 28) 5
def MB (s : Sg) : Prop := ∀ i, ¬ s 16 i < 0
def EG (s : Sg) : Prop := vp_in (s 15 15) 4
theorem OVw {W : List (Nat × Option Nat)} (h : (W.all fun q => decide (q ≠ (15, none)) && decide (q ≠ (15, some 10))) = true) : WP W OV := WP_at (R := fun z => z < 0 ∨ vp_in z 4) h
theorem MKw {W : List (Nat × Option Nat)} (h : (W.all fun q => decide (q ≠ (15, none)) && decide (q ≠ (15, some 12))) = true) : WP W MK := WP_at (R := fun z => vp_in z 8) h
theorem EKw {W : List (Nat × Option Nat)} (h : (W.all fun q => decide (q ≠ (15, none)) && (decide (q ≠ (15, some 13)) && decide (q ≠ (15, some 15)))) = true) : WP W EK := WP_at2 (R := fun x y => vp_in x 8 ∨ (x < 0 ∧ vp_in y 4)) h
theorem KYw {W : List (Nat × Option Nat)} (h : (W.all fun q => decide (q ≠ (15, none)) && decide (q ≠ (15, some 28))) = true) : WP W KY := WP_at (R := fun z => vp_in z 5) h
theorem MBw {W : List (Nat × Option Nat)} (h : (W.all fun q => decide (q.1 ≠ 16)) = true) : WP W MB := WP_cell (R := fun m => ∀ i, ¬ m i < 0) h
theorem vin_m4 {a : Int32} (h : vp_in a 8) (h4 : 4 ≤ a) : vp_in (a - 4) 8 := by
  rw [vp_in_iff] at h ⊢
  rw [sub_toInt (by decide) h4]
  rw [i_le] at h4
  have e : (4 : Int32).toInt = 4 := by decide
  omega
theorem EK_s {s : Sg} (h : EK s) (h1 : s 15 13 < 0) : vp_in (s 15 15) 4 := by
  rcases h with h | h
  · exact absurd (Or.inl h1) h
  · exact h.2
theorem EK_r {s : Sg} (h : EK s) (h1 : ¬ s 15 13 < 0) : vp_in (s 15 13) 8 := by
  rcases h with h | h
  · exact h
  · exact absurd h.1 h1
theorem OV_in {s : Sg} (h : OV s) (h1 : ¬ s 15 10 < 0) : vp_in (s 15 10) 4 := by
  rcases h with h | h
  · exact absurd h h1
  · exact h
theorem KY_1 {s : Sg} (h : KY s) : s 15 28 - 1 ≤ 3 := by
  have h := vp_in_iff.mp h
  rw [i_le, Int32.toInt_sub]
  have e1 : (1 : Int32).toInt = 1 := by decide
  have e3 : (3 : Int32).toInt = 3 := by decide
  rw [e1, e3, Int.bmod_eq_of_le (by omega) (by omega)]
  omega
theorem KY_in {s : Sg} (h : KY s) (h4 : s 15 28 < 4) : vp_in (s 15 28) 4 := by
  have h := vp_in_iff.mp h
  rw [vp_in_iff]
  rw [i_lt] at h4
  have e4 : (4 : Int32).toInt = 4 := by decide
  omega
theorem vin_c3 {a : Int32} (h : ¬ a < 0) (h2 : ¬ 32 ≤ a) : vp_in (a >>> ((3 : Int32) &&& 31)) 4 := by
  rw [vp_in_iff, pk_shr a ((3 : Int32) &&& 31) 3 rfl, Int.shiftRight_eq_div_pow]
  rw [i_lt, Int32.toInt_zero] at h
  rw [i_le] at h2
  have e : (32 : Int32).toInt = 32 := by decide
  omega
theorem vin_vec (x : Int32) (j : Nat) (hj : j < 4) : vp_in ((4 : Int32) * (x &&& 15) + nI j) 1024 := by
  obtain ⟨k, hk, e⟩ := pk_andE x (m := 15) 4 rfl
  rw [e, show (4 : Int32) = nI 4 from rfl, pk_mul, nI_add]
  exact vp_in_nI (by omega) (by decide)
theorem vin_vec0 (x : Int32) : vp_in ((4 : Int32) * (x &&& 15)) 1024 := by
  obtain ⟨k, hk, e⟩ := pk_andE x (m := 15) 4 rfl
  rw [e, show (4 : Int32) = nI 4 from rfl, pk_mul]
  exact vp_in_nI (by omega) (by decide)
theorem vin_vec1 (x : Int32) : vp_in ((4 : Int32) * (x &&& 15) + 1) 1024 := vin_vec x 1 (by decide)
theorem vin_vec2 (x : Int32) : vp_in ((4 : Int32) * (x &&& 15) + 2) 1024 := vin_vec x 2 (by decide)
theorem vin_vec3 (x : Int32) : vp_in ((4 : Int32) * (x &&& 15) + 3) 1024 := vin_vec x 3 (by decide)
