/-! which line is given -/
theorem zmod (z k : Nat) : z % 2 ^ (k + 1) = 0 ↔ ∀ l, l ≤ k → z.testBit l = false := by
  constructor
  · intro h l hl
    have e := Nat.testBit_mod_two_pow z (k + 1) l
    rw [h, Nat.zero_testBit, decide_eq_true (by omega), Bool.true_and] at e
    exact e.symm
  · intro h
    apply Nat.eq_of_testBit_eq
    intro i
    rw [Nat.testBit_mod_two_pow, Nat.zero_testBit]
    by_cases hi : i < k + 1
    · rw [h i (by omega), Bool.and_false]
    · rw [decide_eq_false hi, Bool.false_and]
theorem cA {x y : Nat} (hx : x < 256) (hy : y < 256) (l : Nat) (hl : l < 8) : (nI x &&& (nI y ^^^ -1)) &&& nI (2 ^ l) = 0 ↔ (x.testBit l && !y.testBit l) = false := by
  have e1 : (nI y ^^^ -1 : Int32) = nI (y ^^^ 4294967295) := by
    rw [← nI_xor]
    rfl
  rw [e1, nI_and, nI_pow0 (Nat.lt_of_le_of_lt Nat.and_le_left (by omega)), Nat.testBit_and, Nat.testBit_xor]
  have e2 : Nat.testBit 4294967295 l = true := by
    rw [show (4294967295 : Nat) = 2 ^ 32 - 1 from rfl, Nat.testBit_two_pow_sub_one]
    exact decide_eq_true (by omega)
  rw [e2, Bool.xor_true]
theorem tQ {x : Nat} (hx : x < 256) (s : Int32) (l : Nat) (hs : (s.toBitVec.smod 32).toNat = l) : (nI x >>> s) &&& 1 = 1 ↔ x.testBit l = true := by
  rw [pk_shrN (by omega) s l hs, pk_andN (Nat.lt_of_le_of_lt (Nat.div_le_self _ _) (by omega)) (m := 1) 1 rfl, tbit]
  constructor
  · intro e
    have := (nI_eq (b := 1) (Nat.lt_of_lt_of_le (Nat.mod_lt _ (by decide)) (by decide)) (by decide)).mp e
    exact decide_eq_true this
  · intro e
    have := of_decide_eq_true e
    have e3 : x / 2 ^ l % 2 ^ 1 = 1 := this
    rw [e3]
    rfl
theorem tM {x : Nat} (hx : x < 256) (s : Int32) (l : Nat) (hs : (s.toBitVec.smod 32).toNat = l) : (nI x >>> s) &&& 1 = 0 ↔ x.testBit l = false := by
  rw [pk_shrN (by omega) s l hs, pk_andN (Nat.lt_of_le_of_lt (Nat.div_le_self _ _) (by omega)) (m := 1) 1 rfl, tbit]
  constructor
  · intro e
    have : x / 2 ^ l % 2 ^ 1 = 0 := (nI_eq (b := 0) (Nat.lt_of_lt_of_le (Nat.mod_lt _ (by decide)) (by decide)) (by decide)).mp e
    exact decide_eq_false (by omega)
  · intro e
    have := of_decide_eq_false e
    have e3 : x / 2 ^ l % 2 ^ 1 = 0 := by omega
    rw [e3]
    rfl
theorem zS {z : Nat} (hz : z < 256) (m : Int32) (k : Nat) (hm : m.toBitVec.toNat = 2 ^ (k + 1) - 1) : nI z &&& m = 0 ↔ ∀ l, l ≤ k → z.testBit l = false := by
  rw [pk_andN (by omega) (k + 1) hm, ← zmod]
  have : z % 2 ^ (k + 1) ≤ z := Nat.mod_le _ _
  constructor
  · intro e
    exact (nI_eq (b := 0) (by omega) (by decide)).mp e
  · intro e
    rw [e]
    rfl
def aB (x y l : Nat) : Bool := x.testBit l && !y.testBit l
theorem lc0 {c : Sg} {x y z : Nat} (hx : x < 256) (hy : y < 256) (hz : z < 256) (e0 : c 7 0 = nI x) (e1 : c 7 1 = nI z) (e2 : c 7 2 = nI y) : f_Ctl_lineToGive_2_c0 c = if z.testBit 0 = true then (-1, c) else if aB x y 0 = true then (0, c) else f_Ctl_lineToGive_2_c1 c := by
  unfold f_Ctl_lineToGive_2_c0
  rw [e0, e1, e2]
  have b : (1 : Int32) <<< ((0 : Int32) &&& 31 : Int32) = nI (2 ^ 0) := by decide
  rw [b]
  by_cases h : z.testBit 0 = true
  · rw [if_pos h, if_neg (fun q => by rw [(nI_pow0 (by omega) 0).mp q] at h; cases h)]
  · rw [if_neg h, if_pos ((nI_pow0 (by omega) 0).mpr (by simpa using h))]
    by_cases g : aB x y 0 = true
    · rw [if_pos g, if_neg (fun q => by rw [aB, (cA hx hy 0 (by decide)).mp q] at g; cases g)]
    · rw [if_neg g, if_pos ((cA hx hy 0 (by decide)).mpr (by simpa [aB] using g))]
theorem lc1 {c : Sg} {x y z : Nat} (hx : x < 256) (hy : y < 256) (hz : z < 256) (e0 : c 7 0 = nI x) (e1 : c 7 1 = nI z) (e2 : c 7 2 = nI y) : f_Ctl_lineToGive_2_c1 c = if z.testBit 1 = true then (-1, c) else if aB x y 1 = true then (1, c) else f_Ctl_lineToGive_2_c2 c := by
  unfold f_Ctl_lineToGive_2_c1
  rw [e0, e1, e2]
  have b : (1 : Int32) <<< (((0 : Int32) + (1 : Int32)) &&& 31 : Int32) = nI (2 ^ 1) := by decide
  rw [b]
  by_cases h : z.testBit 1 = true
  · rw [if_pos h, if_neg (fun q => by rw [(nI_pow0 (by omega) 1).mp q] at h; cases h)]
  · rw [if_neg h, if_pos ((nI_pow0 (by omega) 1).mpr (by simpa using h))]
    by_cases g : aB x y 1 = true
    · rw [if_pos g, if_neg (fun q => by rw [aB, (cA hx hy 1 (by decide)).mp q] at g; cases g)]
      rfl
    · rw [if_neg g, if_pos ((cA hx hy 1 (by decide)).mpr (by simpa [aB] using g))]
theorem lc2 {c : Sg} {x y z : Nat} (hx : x < 256) (hy : y < 256) (hz : z < 256) (e0 : c 7 0 = nI x) (e1 : c 7 1 = nI z) (e2 : c 7 2 = nI y) : f_Ctl_lineToGive_2_c2 c = if z.testBit 2 = true then (-1, c) else if aB x y 2 = true then (2, c) else f_Ctl_lineToGive_2_c3 c := by
  unfold f_Ctl_lineToGive_2_c2
  rw [e0, e1, e2]
  have b : (1 : Int32) <<< ((((0 : Int32) + (1 : Int32)) + (1 : Int32)) &&& 31 : Int32) = nI (2 ^ 2) := by decide
  rw [b]
  by_cases h : z.testBit 2 = true
  · rw [if_pos h, if_neg (fun q => by rw [(nI_pow0 (by omega) 2).mp q] at h; cases h)]
  · rw [if_neg h, if_pos ((nI_pow0 (by omega) 2).mpr (by simpa using h))]
    by_cases g : aB x y 2 = true
    · rw [if_pos g, if_neg (fun q => by rw [aB, (cA hx hy 2 (by decide)).mp q] at g; cases g)]
      rfl
    · rw [if_neg g, if_pos ((cA hx hy 2 (by decide)).mpr (by simpa [aB] using g))]
theorem lc3 {c : Sg} {x y z : Nat} (hx : x < 256) (hy : y < 256) (hz : z < 256) (e0 : c 7 0 = nI x) (e1 : c 7 1 = nI z) (e2 : c 7 2 = nI y) : f_Ctl_lineToGive_2_c3 c = if z.testBit 3 = true then (-1, c) else if aB x y 3 = true then (3, c) else f_Ctl_lineToGive_2_c4 c := by
  unfold f_Ctl_lineToGive_2_c3
  rw [e0, e1, e2]
  have b : (1 : Int32) <<< (((((0 : Int32) + (1 : Int32)) + (1 : Int32)) + (1 : Int32)) &&& 31 : Int32) = nI (2 ^ 3) := by decide
  rw [b]
  by_cases h : z.testBit 3 = true
  · rw [if_pos h, if_neg (fun q => by rw [(nI_pow0 (by omega) 3).mp q] at h; cases h)]
  · rw [if_neg h, if_pos ((nI_pow0 (by omega) 3).mpr (by simpa using h))]
    by_cases g : aB x y 3 = true
    · rw [if_pos g, if_neg (fun q => by rw [aB, (cA hx hy 3 (by decide)).mp q] at g; cases g)]
      rfl
    · rw [if_neg g, if_pos ((cA hx hy 3 (by decide)).mpr (by simpa [aB] using g))]
theorem lc4 {c : Sg} {x y z : Nat} (hx : x < 256) (hy : y < 256) (hz : z < 256) (e0 : c 7 0 = nI x) (e1 : c 7 1 = nI z) (e2 : c 7 2 = nI y) : f_Ctl_lineToGive_2_c4 c = if z.testBit 4 = true then (-1, c) else if aB x y 4 = true then (4, c) else f_Ctl_lineToGive_2_c5 c := by
  unfold f_Ctl_lineToGive_2_c4
  rw [e0, e1, e2]
  have b : (1 : Int32) <<< ((((((0 : Int32) + (1 : Int32)) + (1 : Int32)) + (1 : Int32)) + (1 : Int32)) &&& 31 : Int32) = nI (2 ^ 4) := by decide
  rw [b]
  by_cases h : z.testBit 4 = true
  · rw [if_pos h, if_neg (fun q => by rw [(nI_pow0 (by omega) 4).mp q] at h; cases h)]
  · rw [if_neg h, if_pos ((nI_pow0 (by omega) 4).mpr (by simpa using h))]
    by_cases g : aB x y 4 = true
    · rw [if_pos g, if_neg (fun q => by rw [aB, (cA hx hy 4 (by decide)).mp q] at g; cases g)]
      rfl
    · rw [if_neg g, if_pos ((cA hx hy 4 (by decide)).mpr (by simpa [aB] using g))]
theorem lc5 {c : Sg} {x y z : Nat} (hx : x < 256) (hy : y < 256) (hz : z < 256) (e0 : c 7 0 = nI x) (e1 : c 7 1 = nI z) (e2 : c 7 2 = nI y) : f_Ctl_lineToGive_2_c5 c = if z.testBit 5 = true then (-1, c) else if aB x y 5 = true then (5, c) else f_Ctl_lineToGive_2_c6 c := by
  unfold f_Ctl_lineToGive_2_c5
  rw [e0, e1, e2]
  have b : (1 : Int32) <<< (((((((0 : Int32) + (1 : Int32)) + (1 : Int32)) + (1 : Int32)) + (1 : Int32)) + (1 : Int32)) &&& 31 : Int32) = nI (2 ^ 5) := by decide
  rw [b]
  by_cases h : z.testBit 5 = true
  · rw [if_pos h, if_neg (fun q => by rw [(nI_pow0 (by omega) 5).mp q] at h; cases h)]
  · rw [if_neg h, if_pos ((nI_pow0 (by omega) 5).mpr (by simpa using h))]
    by_cases g : aB x y 5 = true
    · rw [if_pos g, if_neg (fun q => by rw [aB, (cA hx hy 5 (by decide)).mp q] at g; cases g)]
      rfl
    · rw [if_neg g, if_pos ((cA hx hy 5 (by decide)).mpr (by simpa [aB] using g))]
theorem lc6 {c : Sg} {x y z : Nat} (hx : x < 256) (hy : y < 256) (hz : z < 256) (e0 : c 7 0 = nI x) (e1 : c 7 1 = nI z) (e2 : c 7 2 = nI y) : f_Ctl_lineToGive_2_c6 c = if z.testBit 6 = true then (-1, c) else if aB x y 6 = true then (6, c) else f_Ctl_lineToGive_2_c7 c := by
  unfold f_Ctl_lineToGive_2_c6
  rw [e0, e1, e2]
  have b : (1 : Int32) <<< ((((((((0 : Int32) + (1 : Int32)) + (1 : Int32)) + (1 : Int32)) + (1 : Int32)) + (1 : Int32)) + (1 : Int32)) &&& 31 : Int32) = nI (2 ^ 6) := by decide
  rw [b]
  by_cases h : z.testBit 6 = true
  · rw [if_pos h, if_neg (fun q => by rw [(nI_pow0 (by omega) 6).mp q] at h; cases h)]
  · rw [if_neg h, if_pos ((nI_pow0 (by omega) 6).mpr (by simpa using h))]
    by_cases g : aB x y 6 = true
    · rw [if_pos g, if_neg (fun q => by rw [aB, (cA hx hy 6 (by decide)).mp q] at g; cases g)]
      rfl
    · rw [if_neg g, if_pos ((cA hx hy 6 (by decide)).mpr (by simpa [aB] using g))]
theorem lc7 {c : Sg} {x y z : Nat} (hx : x < 256) (hy : y < 256) (hz : z < 256) (e0 : c 7 0 = nI x) (e1 : c 7 1 = nI z) (e2 : c 7 2 = nI y) : f_Ctl_lineToGive_2_c7 c = if z.testBit 7 = true then (-1, c) else if aB x y 7 = true then (7, c) else f_Ctl_lineToGive_2_c8 c := by
  unfold f_Ctl_lineToGive_2_c7
  rw [e0, e1, e2]
  have b : (1 : Int32) <<< (((((((((0 : Int32) + (1 : Int32)) + (1 : Int32)) + (1 : Int32)) + (1 : Int32)) + (1 : Int32)) + (1 : Int32)) + (1 : Int32)) &&& 31 : Int32) = nI (2 ^ 7) := by decide
  rw [b]
  by_cases h : z.testBit 7 = true
  · rw [if_pos h, if_neg (fun q => by rw [(nI_pow0 (by omega) 7).mp q] at h; cases h)]
  · rw [if_neg h, if_pos ((nI_pow0 (by omega) 7).mpr (by simpa using h))]
    by_cases g : aB x y 7 = true
    · rw [if_pos g, if_neg (fun q => by rw [aB, (cA hx hy 7 (by decide)).mp q] at g; cases g)]
      rfl
    · rw [if_neg g, if_pos ((cA hx hy 7 (by decide)).mpr (by simpa [aB] using g))]
theorem lt0 {t : Sg} {x y : Nat} (hx : x < 256) (hy : y < 256) (e0 : t 15 17 = nI x) (e2 : t 15 19 = nI y) (b : Int32) : f_Mod_given_5_c0 t b = if aB x y 0 = true then f_Mod_given_5_cm1 t 0 else f_Mod_given_5_cm1 t b := by
  simp only [f_Mod_given_5_c0, f_Mod_given_37_c0, f_Mod_given_36_c0]
  rw [e0, e2]
  have q1 := tQ hx (((((((((7 : Int32) + (-1 : Int32)) + (-1 : Int32)) + (-1 : Int32)) + (-1 : Int32)) + (-1 : Int32)) + (-1 : Int32)) + (-1 : Int32)) &&& 31) 0 (by decide)
  have q2 := tM hy (((((((((7 : Int32) + (-1 : Int32)) + (-1 : Int32)) + (-1 : Int32)) + (-1 : Int32)) + (-1 : Int32)) + (-1 : Int32)) + (-1 : Int32)) &&& 31) 0 (by decide)
  unfold aB
  cases hb : x.testBit 0
  · rw [if_neg (fun z => by rw [q1.mp z] at hb; cases hb), Bool.false_and, if_neg (by decide)]
  · rw [if_pos (q1.mpr hb), Bool.true_and]
    cases hd : y.testBit 0
    · rw [if_pos (q2.mpr hd), if_pos (show (!false) = true from rfl), show ((((((((7 : Int32) + (-1 : Int32)) + (-1 : Int32)) + (-1 : Int32)) + (-1 : Int32)) + (-1 : Int32)) + (-1 : Int32)) + (-1 : Int32)) = (0 : Int32) from by decide]
    · rw [if_neg (fun z => by rw [q2.mp z] at hd; cases hd), if_neg (by decide)]
theorem lt1 {t : Sg} {x y : Nat} (hx : x < 256) (hy : y < 256) (e0 : t 15 17 = nI x) (e2 : t 15 19 = nI y) (b : Int32) : f_Mod_given_5_c1 t b = if aB x y 1 = true then f_Mod_given_5_c0 t 1 else f_Mod_given_5_c0 t b := by
  simp only [f_Mod_given_5_c1, f_Mod_given_37_c1, f_Mod_given_36_c1]
  rw [e0, e2]
  have q1 := tQ hx ((((((((7 : Int32) + (-1 : Int32)) + (-1 : Int32)) + (-1 : Int32)) + (-1 : Int32)) + (-1 : Int32)) + (-1 : Int32)) &&& 31) 1 (by decide)
  have q2 := tM hy ((((((((7 : Int32) + (-1 : Int32)) + (-1 : Int32)) + (-1 : Int32)) + (-1 : Int32)) + (-1 : Int32)) + (-1 : Int32)) &&& 31) 1 (by decide)
  unfold aB
  cases hb : x.testBit 1
  · rw [if_neg (fun z => by rw [q1.mp z] at hb; cases hb), Bool.false_and, if_neg (by decide)]
  · rw [if_pos (q1.mpr hb), Bool.true_and]
    cases hd : y.testBit 1
    · rw [if_pos (q2.mpr hd), if_pos (show (!false) = true from rfl), show (((((((7 : Int32) + (-1 : Int32)) + (-1 : Int32)) + (-1 : Int32)) + (-1 : Int32)) + (-1 : Int32)) + (-1 : Int32)) = (1 : Int32) from by decide]
    · rw [if_neg (fun z => by rw [q2.mp z] at hd; cases hd), if_neg (by decide)]
theorem lt2 {t : Sg} {x y : Nat} (hx : x < 256) (hy : y < 256) (e0 : t 15 17 = nI x) (e2 : t 15 19 = nI y) (b : Int32) : f_Mod_given_5_c2 t b = if aB x y 2 = true then f_Mod_given_5_c1 t 2 else f_Mod_given_5_c1 t b := by
  simp only [f_Mod_given_5_c2, f_Mod_given_37_c2, f_Mod_given_36_c2]
  rw [e0, e2]
  have q1 := tQ hx (((((((7 : Int32) + (-1 : Int32)) + (-1 : Int32)) + (-1 : Int32)) + (-1 : Int32)) + (-1 : Int32)) &&& 31) 2 (by decide)
  have q2 := tM hy (((((((7 : Int32) + (-1 : Int32)) + (-1 : Int32)) + (-1 : Int32)) + (-1 : Int32)) + (-1 : Int32)) &&& 31) 2 (by decide)
  unfold aB
  cases hb : x.testBit 2
  · rw [if_neg (fun z => by rw [q1.mp z] at hb; cases hb), Bool.false_and, if_neg (by decide)]
  · rw [if_pos (q1.mpr hb), Bool.true_and]
    cases hd : y.testBit 2
    · rw [if_pos (q2.mpr hd), if_pos (show (!false) = true from rfl), show ((((((7 : Int32) + (-1 : Int32)) + (-1 : Int32)) + (-1 : Int32)) + (-1 : Int32)) + (-1 : Int32)) = (2 : Int32) from by decide]
    · rw [if_neg (fun z => by rw [q2.mp z] at hd; cases hd), if_neg (by decide)]
theorem lt3 {t : Sg} {x y : Nat} (hx : x < 256) (hy : y < 256) (e0 : t 15 17 = nI x) (e2 : t 15 19 = nI y) (b : Int32) : f_Mod_given_5_c3 t b = if aB x y 3 = true then f_Mod_given_5_c2 t 3 else f_Mod_given_5_c2 t b := by
  simp only [f_Mod_given_5_c3, f_Mod_given_37_c3, f_Mod_given_36_c3]
  rw [e0, e2]
  have q1 := tQ hx ((((((7 : Int32) + (-1 : Int32)) + (-1 : Int32)) + (-1 : Int32)) + (-1 : Int32)) &&& 31) 3 (by decide)
  have q2 := tM hy ((((((7 : Int32) + (-1 : Int32)) + (-1 : Int32)) + (-1 : Int32)) + (-1 : Int32)) &&& 31) 3 (by decide)
  unfold aB
  cases hb : x.testBit 3
  · rw [if_neg (fun z => by rw [q1.mp z] at hb; cases hb), Bool.false_and, if_neg (by decide)]
  · rw [if_pos (q1.mpr hb), Bool.true_and]
    cases hd : y.testBit 3
    · rw [if_pos (q2.mpr hd), if_pos (show (!false) = true from rfl), show (((((7 : Int32) + (-1 : Int32)) + (-1 : Int32)) + (-1 : Int32)) + (-1 : Int32)) = (3 : Int32) from by decide]
    · rw [if_neg (fun z => by rw [q2.mp z] at hd; cases hd), if_neg (by decide)]
theorem lt4 {t : Sg} {x y : Nat} (hx : x < 256) (hy : y < 256) (e0 : t 15 17 = nI x) (e2 : t 15 19 = nI y) (b : Int32) : f_Mod_given_5_c4 t b = if aB x y 4 = true then f_Mod_given_5_c3 t 4 else f_Mod_given_5_c3 t b := by
  simp only [f_Mod_given_5_c4, f_Mod_given_37_c4, f_Mod_given_36_c4]
  rw [e0, e2]
  have q1 := tQ hx (((((7 : Int32) + (-1 : Int32)) + (-1 : Int32)) + (-1 : Int32)) &&& 31) 4 (by decide)
  have q2 := tM hy (((((7 : Int32) + (-1 : Int32)) + (-1 : Int32)) + (-1 : Int32)) &&& 31) 4 (by decide)
  unfold aB
  cases hb : x.testBit 4
  · rw [if_neg (fun z => by rw [q1.mp z] at hb; cases hb), Bool.false_and, if_neg (by decide)]
  · rw [if_pos (q1.mpr hb), Bool.true_and]
    cases hd : y.testBit 4
    · rw [if_pos (q2.mpr hd), if_pos (show (!false) = true from rfl), show ((((7 : Int32) + (-1 : Int32)) + (-1 : Int32)) + (-1 : Int32)) = (4 : Int32) from by decide]
    · rw [if_neg (fun z => by rw [q2.mp z] at hd; cases hd), if_neg (by decide)]
theorem lt5 {t : Sg} {x y : Nat} (hx : x < 256) (hy : y < 256) (e0 : t 15 17 = nI x) (e2 : t 15 19 = nI y) (b : Int32) : f_Mod_given_5_c5 t b = if aB x y 5 = true then f_Mod_given_5_c4 t 5 else f_Mod_given_5_c4 t b := by
  simp only [f_Mod_given_5_c5, f_Mod_given_37_c5, f_Mod_given_36_c5]
  rw [e0, e2]
  have q1 := tQ hx ((((7 : Int32) + (-1 : Int32)) + (-1 : Int32)) &&& 31) 5 (by decide)
  have q2 := tM hy ((((7 : Int32) + (-1 : Int32)) + (-1 : Int32)) &&& 31) 5 (by decide)
  unfold aB
  cases hb : x.testBit 5
  · rw [if_neg (fun z => by rw [q1.mp z] at hb; cases hb), Bool.false_and, if_neg (by decide)]
  · rw [if_pos (q1.mpr hb), Bool.true_and]
    cases hd : y.testBit 5
    · rw [if_pos (q2.mpr hd), if_pos (show (!false) = true from rfl), show (((7 : Int32) + (-1 : Int32)) + (-1 : Int32)) = (5 : Int32) from by decide]
    · rw [if_neg (fun z => by rw [q2.mp z] at hd; cases hd), if_neg (by decide)]
theorem lt6 {t : Sg} {x y : Nat} (hx : x < 256) (hy : y < 256) (e0 : t 15 17 = nI x) (e2 : t 15 19 = nI y) (b : Int32) : f_Mod_given_5_c6 t b = if aB x y 6 = true then f_Mod_given_5_c5 t 6 else f_Mod_given_5_c5 t b := by
  simp only [f_Mod_given_5_c6, f_Mod_given_37_c6, f_Mod_given_36_c6]
  rw [e0, e2]
  have q1 := tQ hx (((7 : Int32) + (-1 : Int32)) &&& 31) 6 (by decide)
  have q2 := tM hy (((7 : Int32) + (-1 : Int32)) &&& 31) 6 (by decide)
  unfold aB
  cases hb : x.testBit 6
  · rw [if_neg (fun z => by rw [q1.mp z] at hb; cases hb), Bool.false_and, if_neg (by decide)]
  · rw [if_pos (q1.mpr hb), Bool.true_and]
    cases hd : y.testBit 6
    · rw [if_pos (q2.mpr hd), if_pos (show (!false) = true from rfl), show ((7 : Int32) + (-1 : Int32)) = (6 : Int32) from by decide]
    · rw [if_neg (fun z => by rw [q2.mp z] at hd; cases hd), if_neg (by decide)]
theorem lt7 {t : Sg} {x y : Nat} (hx : x < 256) (hy : y < 256) (e0 : t 15 17 = nI x) (e2 : t 15 19 = nI y) (b : Int32) : f_Mod_given_5_c7 t b = if aB x y 7 = true then f_Mod_given_5_c6 t 7 else f_Mod_given_5_c6 t b := by
  simp only [f_Mod_given_5_c7, f_Mod_given_37_c7, f_Mod_given_36_c7]
  rw [e0, e2]
  have q1 := tQ hx ((7 : Int32) &&& 31) 7 (by decide)
  have q2 := tM hy ((7 : Int32) &&& 31) 7 (by decide)
  unfold aB
  cases hb : x.testBit 7
  · rw [if_neg (fun z => by rw [q1.mp z] at hb; cases hb), Bool.false_and, if_neg (by decide)]
  · rw [if_pos (q1.mpr hb), Bool.true_and]
    cases hd : y.testBit 7
    · rw [if_pos (q2.mpr hd), if_pos (show (!false) = true from rfl)]
    · rw [if_neg (fun z => by rw [q2.mp z] at hd; cases hd), if_neg (by decide)]
theorem lm0 {t : Sg} {z : Nat} (hz : z < 256) (e1 : t 15 18 = nI z) : f_Mod_given_5_cm1 t 0 = if (∀ l, l ≤ 0 → z.testBit l = false) then (0, t) else (-1, t) := by
  simp only [f_Mod_given_5_cm1, f_Mod_given_65, f_Mod_given_66]
  rw [if_neg (by decide), e1]
  have q := zS hz (((2 : Int32) <<< ((0 : Int32) &&& 31 : Int32)) - (1 : Int32)) 0 (by decide)
  by_cases h : nI z &&& (((2 : Int32) <<< ((0 : Int32) &&& 31 : Int32)) - (1 : Int32)) = 0
  · rw [if_pos h, if_pos (q.mp h), if_neg (by decide)]
  · rw [if_neg h, if_neg (fun w => h (q.mpr w)), if_pos trivial]
theorem lm1 {t : Sg} {z : Nat} (hz : z < 256) (e1 : t 15 18 = nI z) : f_Mod_given_5_cm1 t 1 = if (∀ l, l ≤ 1 → z.testBit l = false) then (1, t) else (-1, t) := by
  simp only [f_Mod_given_5_cm1, f_Mod_given_65, f_Mod_given_66]
  rw [if_neg (by decide), e1]
  have q := zS hz (((2 : Int32) <<< ((1 : Int32) &&& 31 : Int32)) - (1 : Int32)) 1 (by decide)
  by_cases h : nI z &&& (((2 : Int32) <<< ((1 : Int32) &&& 31 : Int32)) - (1 : Int32)) = 0
  · rw [if_pos h, if_pos (q.mp h), if_neg (by decide)]
  · rw [if_neg h, if_neg (fun w => h (q.mpr w)), if_pos trivial]
theorem lm2 {t : Sg} {z : Nat} (hz : z < 256) (e1 : t 15 18 = nI z) : f_Mod_given_5_cm1 t 2 = if (∀ l, l ≤ 2 → z.testBit l = false) then (2, t) else (-1, t) := by
  simp only [f_Mod_given_5_cm1, f_Mod_given_65, f_Mod_given_66]
  rw [if_neg (by decide), e1]
  have q := zS hz (((2 : Int32) <<< ((2 : Int32) &&& 31 : Int32)) - (1 : Int32)) 2 (by decide)
  by_cases h : nI z &&& (((2 : Int32) <<< ((2 : Int32) &&& 31 : Int32)) - (1 : Int32)) = 0
  · rw [if_pos h, if_pos (q.mp h), if_neg (by decide)]
  · rw [if_neg h, if_neg (fun w => h (q.mpr w)), if_pos trivial]
theorem lm3 {t : Sg} {z : Nat} (hz : z < 256) (e1 : t 15 18 = nI z) : f_Mod_given_5_cm1 t 3 = if (∀ l, l ≤ 3 → z.testBit l = false) then (3, t) else (-1, t) := by
  simp only [f_Mod_given_5_cm1, f_Mod_given_65, f_Mod_given_66]
  rw [if_neg (by decide), e1]
  have q := zS hz (((2 : Int32) <<< ((3 : Int32) &&& 31 : Int32)) - (1 : Int32)) 3 (by decide)
  by_cases h : nI z &&& (((2 : Int32) <<< ((3 : Int32) &&& 31 : Int32)) - (1 : Int32)) = 0
  · rw [if_pos h, if_pos (q.mp h), if_neg (by decide)]
  · rw [if_neg h, if_neg (fun w => h (q.mpr w)), if_pos trivial]
theorem lm4 {t : Sg} {z : Nat} (hz : z < 256) (e1 : t 15 18 = nI z) : f_Mod_given_5_cm1 t 4 = if (∀ l, l ≤ 4 → z.testBit l = false) then (4, t) else (-1, t) := by
  simp only [f_Mod_given_5_cm1, f_Mod_given_65, f_Mod_given_66]
  rw [if_neg (by decide), e1]
  have q := zS hz (((2 : Int32) <<< ((4 : Int32) &&& 31 : Int32)) - (1 : Int32)) 4 (by decide)
  by_cases h : nI z &&& (((2 : Int32) <<< ((4 : Int32) &&& 31 : Int32)) - (1 : Int32)) = 0
  · rw [if_pos h, if_pos (q.mp h), if_neg (by decide)]
  · rw [if_neg h, if_neg (fun w => h (q.mpr w)), if_pos trivial]
theorem lm5 {t : Sg} {z : Nat} (hz : z < 256) (e1 : t 15 18 = nI z) : f_Mod_given_5_cm1 t 5 = if (∀ l, l ≤ 5 → z.testBit l = false) then (5, t) else (-1, t) := by
  simp only [f_Mod_given_5_cm1, f_Mod_given_65, f_Mod_given_66]
  rw [if_neg (by decide), e1]
  have q := zS hz (((2 : Int32) <<< ((5 : Int32) &&& 31 : Int32)) - (1 : Int32)) 5 (by decide)
  by_cases h : nI z &&& (((2 : Int32) <<< ((5 : Int32) &&& 31 : Int32)) - (1 : Int32)) = 0
  · rw [if_pos h, if_pos (q.mp h), if_neg (by decide)]
  · rw [if_neg h, if_neg (fun w => h (q.mpr w)), if_pos trivial]
theorem lm6 {t : Sg} {z : Nat} (hz : z < 256) (e1 : t 15 18 = nI z) : f_Mod_given_5_cm1 t 6 = if (∀ l, l ≤ 6 → z.testBit l = false) then (6, t) else (-1, t) := by
  simp only [f_Mod_given_5_cm1, f_Mod_given_65, f_Mod_given_66]
  rw [if_neg (by decide), e1]
  have q := zS hz (((2 : Int32) <<< ((6 : Int32) &&& 31 : Int32)) - (1 : Int32)) 6 (by decide)
  by_cases h : nI z &&& (((2 : Int32) <<< ((6 : Int32) &&& 31 : Int32)) - (1 : Int32)) = 0
  · rw [if_pos h, if_pos (q.mp h), if_neg (by decide)]
  · rw [if_neg h, if_neg (fun w => h (q.mpr w)), if_pos trivial]
theorem lm7 {t : Sg} {z : Nat} (hz : z < 256) (e1 : t 15 18 = nI z) : f_Mod_given_5_cm1 t 7 = if (∀ l, l ≤ 7 → z.testBit l = false) then (7, t) else (-1, t) := by
  simp only [f_Mod_given_5_cm1, f_Mod_given_65, f_Mod_given_66]
  rw [if_neg (by decide), e1]
  have q := zS hz (((2 : Int32) <<< ((7 : Int32) &&& 31 : Int32)) - (1 : Int32)) 7 (by decide)
  by_cases h : nI z &&& (((2 : Int32) <<< ((7 : Int32) &&& 31 : Int32)) - (1 : Int32)) = 0
  · rw [if_pos h, if_pos (q.mp h), if_neg (by decide)]
  · rw [if_neg h, if_neg (fun w => h (q.mpr w)), if_pos trivial]
theorem line_eq {c t : Sg} (h : RR c t) : ∃ y, f_Ctl_lineToGive c = (y, c) ∧ f_Mod_given t = (y, t) ∧ (y = -1 ∨ vp_in y 8) := by
  obtain ⟨e0, r0⟩ := h.get 6 (a := 7) (b := 0) (x := 15) (y := 17) (k := 2) rfl
  obtain ⟨e1, r1⟩ := h.get 7 (a := 7) (b := 1) (x := 15) (y := 18) (k := 2) rfl
  obtain ⟨e2, r2⟩ := h.get 8 (a := 7) (b := 2) (x := 15) (y := 19) (k := 2) rfl
  obtain ⟨x, hx, ex⟩ := rng_nI r0
  obtain ⟨z, hz, ez⟩ := rng_nI r1
  obtain ⟨y, hy, ey⟩ := rng_nI r2
  have c0 := e0.trans ex
  have c1 := e1.trans ez
  have c2 := e2.trans ey
  have d0 : f_Ctl_lineToGive c = f_Ctl_lineToGive_2_c0 c := rfl
  have d1 : f_Mod_given t = f_Mod_given_5_c7 t (-1) := rfl
  rw [d0, d1]
  have L0 := lc0 hx hy hz c0 c1 c2
  have L1 := lc1 hx hy hz c0 c1 c2
  have L2 := lc2 hx hy hz c0 c1 c2
  have L3 := lc3 hx hy hz c0 c1 c2
  have L4 := lc4 hx hy hz c0 c1 c2
  have L5 := lc5 hx hy hz c0 c1 c2
  have L6 := lc6 hx hy hz c0 c1 c2
  have L7 := lc7 hx hy hz c0 c1 c2
  have T0 := lt0 (t := t) hx hy ex ey
  have T1 := lt1 (t := t) hx hy ex ey
  have T2 := lt2 (t := t) hx hy ex ey
  have T3 := lt3 (t := t) hx hy ex ey
  have T4 := lt4 (t := t) hx hy ex ey
  have T5 := lt5 (t := t) hx hy ex ey
  have T6 := lt6 (t := t) hx hy ex ey
  have T7 := lt7 (t := t) hx hy ex ey
  by_cases g0 : aB x y 0 = true
  · have P0 : ∀ b, f_Mod_given_5_c0 t b = f_Mod_given_5_cm1 t 0 := fun b => by
      rw [T0, if_pos g0]
    have P1 : ∀ b, f_Mod_given_5_c1 t b = f_Mod_given_5_cm1 t 0 := fun b => by
      rw [T1, P0, P0, ite_self]
    have P2 : ∀ b, f_Mod_given_5_c2 t b = f_Mod_given_5_cm1 t 0 := fun b => by
      rw [T2, P1, P1, ite_self]
    have P3 : ∀ b, f_Mod_given_5_c3 t b = f_Mod_given_5_cm1 t 0 := fun b => by
      rw [T3, P2, P2, ite_self]
    have P4 : ∀ b, f_Mod_given_5_c4 t b = f_Mod_given_5_cm1 t 0 := fun b => by
      rw [T4, P3, P3, ite_self]
    have P5 : ∀ b, f_Mod_given_5_c5 t b = f_Mod_given_5_cm1 t 0 := fun b => by
      rw [T5, P4, P4, ite_self]
    have P6 : ∀ b, f_Mod_given_5_c6 t b = f_Mod_given_5_cm1 t 0 := fun b => by
      rw [T6, P5, P5, ite_self]
    have P7 : ∀ b, f_Mod_given_5_c7 t b = f_Mod_given_5_cm1 t 0 := fun b => by
      rw [T7, P6, P6, ite_self]
    rw [P7, lm0 hz ez]
    rw [L0]
    by_cases s0 : z.testBit 0 = true
    · rw [if_pos s0, if_neg (fun w => by rw [w 0 (by decide)] at s0; cases s0)]
      exact ⟨-1, rfl, rfl, Or.inl rfl⟩
    rw [if_neg s0, if_pos g0]
    rw [if_pos (fun l hl => by
      have : l = 0 := by omega
      rw [this]; simpa using s0)]
    exact ⟨0, rfl, rfl, Or.inr (vin (by decide))⟩
  by_cases g1 : aB x y 1 = true
  · have P1 : ∀ b, f_Mod_given_5_c1 t b = f_Mod_given_5_cm1 t 1 := fun b => by
      rw [T1, if_pos g1]
      rw [T0, if_neg g0]
    have P2 : ∀ b, f_Mod_given_5_c2 t b = f_Mod_given_5_cm1 t 1 := fun b => by
      rw [T2, P1, P1, ite_self]
    have P3 : ∀ b, f_Mod_given_5_c3 t b = f_Mod_given_5_cm1 t 1 := fun b => by
      rw [T3, P2, P2, ite_self]
    have P4 : ∀ b, f_Mod_given_5_c4 t b = f_Mod_given_5_cm1 t 1 := fun b => by
      rw [T4, P3, P3, ite_self]
    have P5 : ∀ b, f_Mod_given_5_c5 t b = f_Mod_given_5_cm1 t 1 := fun b => by
      rw [T5, P4, P4, ite_self]
    have P6 : ∀ b, f_Mod_given_5_c6 t b = f_Mod_given_5_cm1 t 1 := fun b => by
      rw [T6, P5, P5, ite_self]
    have P7 : ∀ b, f_Mod_given_5_c7 t b = f_Mod_given_5_cm1 t 1 := fun b => by
      rw [T7, P6, P6, ite_self]
    rw [P7, lm1 hz ez]
    rw [L0]
    by_cases s0 : z.testBit 0 = true
    · rw [if_pos s0, if_neg (fun w => by rw [w 0 (by decide)] at s0; cases s0)]
      exact ⟨-1, rfl, rfl, Or.inl rfl⟩
    rw [if_neg s0, if_neg g0]
    rw [L1]
    by_cases s1 : z.testBit 1 = true
    · rw [if_pos s1, if_neg (fun w => by rw [w 1 (by decide)] at s1; cases s1)]
      exact ⟨-1, rfl, rfl, Or.inl rfl⟩
    rw [if_neg s1, if_pos g1]
    rw [if_pos (fun l hl => by
      have : l = 0 ∨ l = 1 := by omega
      rcases this with e | e
      · rw [e]; simpa using s0
      · rw [e]; simpa using s1)]
    exact ⟨1, rfl, rfl, Or.inr (vin (by decide))⟩
  by_cases g2 : aB x y 2 = true
  · have P2 : ∀ b, f_Mod_given_5_c2 t b = f_Mod_given_5_cm1 t 2 := fun b => by
      rw [T2, if_pos g2]
      rw [T1, if_neg g1, T0, if_neg g0]
    have P3 : ∀ b, f_Mod_given_5_c3 t b = f_Mod_given_5_cm1 t 2 := fun b => by
      rw [T3, P2, P2, ite_self]
    have P4 : ∀ b, f_Mod_given_5_c4 t b = f_Mod_given_5_cm1 t 2 := fun b => by
      rw [T4, P3, P3, ite_self]
    have P5 : ∀ b, f_Mod_given_5_c5 t b = f_Mod_given_5_cm1 t 2 := fun b => by
      rw [T5, P4, P4, ite_self]
    have P6 : ∀ b, f_Mod_given_5_c6 t b = f_Mod_given_5_cm1 t 2 := fun b => by
      rw [T6, P5, P5, ite_self]
    have P7 : ∀ b, f_Mod_given_5_c7 t b = f_Mod_given_5_cm1 t 2 := fun b => by
      rw [T7, P6, P6, ite_self]
    rw [P7, lm2 hz ez]
    rw [L0]
    by_cases s0 : z.testBit 0 = true
    · rw [if_pos s0, if_neg (fun w => by rw [w 0 (by decide)] at s0; cases s0)]
      exact ⟨-1, rfl, rfl, Or.inl rfl⟩
    rw [if_neg s0, if_neg g0]
    rw [L1]
    by_cases s1 : z.testBit 1 = true
    · rw [if_pos s1, if_neg (fun w => by rw [w 1 (by decide)] at s1; cases s1)]
      exact ⟨-1, rfl, rfl, Or.inl rfl⟩
    rw [if_neg s1, if_neg g1]
    rw [L2]
    by_cases s2 : z.testBit 2 = true
    · rw [if_pos s2, if_neg (fun w => by rw [w 2 (by decide)] at s2; cases s2)]
      exact ⟨-1, rfl, rfl, Or.inl rfl⟩
    rw [if_neg s2, if_pos g2]
    rw [if_pos (fun l hl => by
      have : l = 0 ∨ l = 1 ∨ l = 2 := by omega
      rcases this with e | e | e
      · rw [e]; simpa using s0
      · rw [e]; simpa using s1
      · rw [e]; simpa using s2)]
    exact ⟨2, rfl, rfl, Or.inr (vin (by decide))⟩
  by_cases g3 : aB x y 3 = true
  · have P3 : ∀ b, f_Mod_given_5_c3 t b = f_Mod_given_5_cm1 t 3 := fun b => by
      rw [T3, if_pos g3]
      rw [T2, if_neg g2, T1, if_neg g1, T0, if_neg g0]
    have P4 : ∀ b, f_Mod_given_5_c4 t b = f_Mod_given_5_cm1 t 3 := fun b => by
      rw [T4, P3, P3, ite_self]
    have P5 : ∀ b, f_Mod_given_5_c5 t b = f_Mod_given_5_cm1 t 3 := fun b => by
      rw [T5, P4, P4, ite_self]
    have P6 : ∀ b, f_Mod_given_5_c6 t b = f_Mod_given_5_cm1 t 3 := fun b => by
      rw [T6, P5, P5, ite_self]
    have P7 : ∀ b, f_Mod_given_5_c7 t b = f_Mod_given_5_cm1 t 3 := fun b => by
      rw [T7, P6, P6, ite_self]
    rw [P7, lm3 hz ez]
    rw [L0]
    by_cases s0 : z.testBit 0 = true
    · rw [if_pos s0, if_neg (fun w => by rw [w 0 (by decide)] at s0; cases s0)]
      exact ⟨-1, rfl, rfl, Or.inl rfl⟩
    rw [if_neg s0, if_neg g0]
    rw [L1]
    by_cases s1 : z.testBit 1 = true
    · rw [if_pos s1, if_neg (fun w => by rw [w 1 (by decide)] at s1; cases s1)]
      exact ⟨-1, rfl, rfl, Or.inl rfl⟩
    rw [if_neg s1, if_neg g1]
    rw [L2]
    by_cases s2 : z.testBit 2 = true
    · rw [if_pos s2, if_neg (fun w => by rw [w 2 (by decide)] at s2; cases s2)]
      exact ⟨-1, rfl, rfl, Or.inl rfl⟩
    rw [if_neg s2, if_neg g2]
    rw [L3]
    by_cases s3 : z.testBit 3 = true
    · rw [if_pos s3, if_neg (fun w => by rw [w 3 (by decide)] at s3; cases s3)]
      exact ⟨-1, rfl, rfl, Or.inl rfl⟩
    rw [if_neg s3, if_pos g3]
    rw [if_pos (fun l hl => by
      have : l = 0 ∨ l = 1 ∨ l = 2 ∨ l = 3 := by omega
      rcases this with e | e | e | e
      · rw [e]; simpa using s0
      · rw [e]; simpa using s1
      · rw [e]; simpa using s2
      · rw [e]; simpa using s3)]
    exact ⟨3, rfl, rfl, Or.inr (vin (by decide))⟩
  by_cases g4 : aB x y 4 = true
  · have P4 : ∀ b, f_Mod_given_5_c4 t b = f_Mod_given_5_cm1 t 4 := fun b => by
      rw [T4, if_pos g4]
      rw [T3, if_neg g3, T2, if_neg g2, T1, if_neg g1, T0, if_neg g0]
    have P5 : ∀ b, f_Mod_given_5_c5 t b = f_Mod_given_5_cm1 t 4 := fun b => by
      rw [T5, P4, P4, ite_self]
    have P6 : ∀ b, f_Mod_given_5_c6 t b = f_Mod_given_5_cm1 t 4 := fun b => by
      rw [T6, P5, P5, ite_self]
    have P7 : ∀ b, f_Mod_given_5_c7 t b = f_Mod_given_5_cm1 t 4 := fun b => by
      rw [T7, P6, P6, ite_self]
    rw [P7, lm4 hz ez]
    rw [L0]
    by_cases s0 : z.testBit 0 = true
    · rw [if_pos s0, if_neg (fun w => by rw [w 0 (by decide)] at s0; cases s0)]
      exact ⟨-1, rfl, rfl, Or.inl rfl⟩
    rw [if_neg s0, if_neg g0]
    rw [L1]
    by_cases s1 : z.testBit 1 = true
    · rw [if_pos s1, if_neg (fun w => by rw [w 1 (by decide)] at s1; cases s1)]
      exact ⟨-1, rfl, rfl, Or.inl rfl⟩
    rw [if_neg s1, if_neg g1]
    rw [L2]
    by_cases s2 : z.testBit 2 = true
    · rw [if_pos s2, if_neg (fun w => by rw [w 2 (by decide)] at s2; cases s2)]
      exact ⟨-1, rfl, rfl, Or.inl rfl⟩
    rw [if_neg s2, if_neg g2]
    rw [L3]
    by_cases s3 : z.testBit 3 = true
    · rw [if_pos s3, if_neg (fun w => by rw [w 3 (by decide)] at s3; cases s3)]
      exact ⟨-1, rfl, rfl, Or.inl rfl⟩
    rw [if_neg s3, if_neg g3]
    rw [L4]
    by_cases s4 : z.testBit 4 = true
    · rw [if_pos s4, if_neg (fun w => by rw [w 4 (by decide)] at s4; cases s4)]
      exact ⟨-1, rfl, rfl, Or.inl rfl⟩
    rw [if_neg s4, if_pos g4]
    rw [if_pos (fun l hl => by
      have : l = 0 ∨ l = 1 ∨ l = 2 ∨ l = 3 ∨ l = 4 := by omega
      rcases this with e | e | e | e | e
      · rw [e]; simpa using s0
      · rw [e]; simpa using s1
      · rw [e]; simpa using s2
      · rw [e]; simpa using s3
      · rw [e]; simpa using s4)]
    exact ⟨4, rfl, rfl, Or.inr (vin (by decide))⟩
  by_cases g5 : aB x y 5 = true
  · have P5 : ∀ b, f_Mod_given_5_c5 t b = f_Mod_given_5_cm1 t 5 := fun b => by
      rw [T5, if_pos g5]
      rw [T4, if_neg g4, T3, if_neg g3, T2, if_neg g2, T1, if_neg g1, T0, if_neg g0]
    have P6 : ∀ b, f_Mod_given_5_c6 t b = f_Mod_given_5_cm1 t 5 := fun b => by
      rw [T6, P5, P5, ite_self]
    have P7 : ∀ b, f_Mod_given_5_c7 t b = f_Mod_given_5_cm1 t 5 := fun b => by
      rw [T7, P6, P6, ite_self]
    rw [P7, lm5 hz ez]
    rw [L0]
    by_cases s0 : z.testBit 0 = true
    · rw [if_pos s0, if_neg (fun w => by rw [w 0 (by decide)] at s0; cases s0)]
      exact ⟨-1, rfl, rfl, Or.inl rfl⟩
    rw [if_neg s0, if_neg g0]
    rw [L1]
    by_cases s1 : z.testBit 1 = true
    · rw [if_pos s1, if_neg (fun w => by rw [w 1 (by decide)] at s1; cases s1)]
      exact ⟨-1, rfl, rfl, Or.inl rfl⟩
    rw [if_neg s1, if_neg g1]
    rw [L2]
    by_cases s2 : z.testBit 2 = true
    · rw [if_pos s2, if_neg (fun w => by rw [w 2 (by decide)] at s2; cases s2)]
      exact ⟨-1, rfl, rfl, Or.inl rfl⟩
    rw [if_neg s2, if_neg g2]
    rw [L3]
    by_cases s3 : z.testBit 3 = true
    · rw [if_pos s3, if_neg (fun w => by rw [w 3 (by decide)] at s3; cases s3)]
      exact ⟨-1, rfl, rfl, Or.inl rfl⟩
    rw [if_neg s3, if_neg g3]
    rw [L4]
    by_cases s4 : z.testBit 4 = true
    · rw [if_pos s4, if_neg (fun w => by rw [w 4 (by decide)] at s4; cases s4)]
      exact ⟨-1, rfl, rfl, Or.inl rfl⟩
    rw [if_neg s4, if_neg g4]
    rw [L5]
    by_cases s5 : z.testBit 5 = true
    · rw [if_pos s5, if_neg (fun w => by rw [w 5 (by decide)] at s5; cases s5)]
      exact ⟨-1, rfl, rfl, Or.inl rfl⟩
    rw [if_neg s5, if_pos g5]
    rw [if_pos (fun l hl => by
      have : l = 0 ∨ l = 1 ∨ l = 2 ∨ l = 3 ∨ l = 4 ∨ l = 5 := by omega
      rcases this with e | e | e | e | e | e
      · rw [e]; simpa using s0
      · rw [e]; simpa using s1
      · rw [e]; simpa using s2
      · rw [e]; simpa using s3
      · rw [e]; simpa using s4
      · rw [e]; simpa using s5)]
    exact ⟨5, rfl, rfl, Or.inr (vin (by decide))⟩
  by_cases g6 : aB x y 6 = true
  · have P6 : ∀ b, f_Mod_given_5_c6 t b = f_Mod_given_5_cm1 t 6 := fun b => by
      rw [T6, if_pos g6]
      rw [T5, if_neg g5, T4, if_neg g4, T3, if_neg g3, T2, if_neg g2, T1, if_neg g1, T0, if_neg g0]
    have P7 : ∀ b, f_Mod_given_5_c7 t b = f_Mod_given_5_cm1 t 6 := fun b => by
      rw [T7, P6, P6, ite_self]
    rw [P7, lm6 hz ez]
    rw [L0]
    by_cases s0 : z.testBit 0 = true
    · rw [if_pos s0, if_neg (fun w => by rw [w 0 (by decide)] at s0; cases s0)]
      exact ⟨-1, rfl, rfl, Or.inl rfl⟩
    rw [if_neg s0, if_neg g0]
    rw [L1]
    by_cases s1 : z.testBit 1 = true
    · rw [if_pos s1, if_neg (fun w => by rw [w 1 (by decide)] at s1; cases s1)]
      exact ⟨-1, rfl, rfl, Or.inl rfl⟩
    rw [if_neg s1, if_neg g1]
    rw [L2]
    by_cases s2 : z.testBit 2 = true
    · rw [if_pos s2, if_neg (fun w => by rw [w 2 (by decide)] at s2; cases s2)]
      exact ⟨-1, rfl, rfl, Or.inl rfl⟩
    rw [if_neg s2, if_neg g2]
    rw [L3]
    by_cases s3 : z.testBit 3 = true
    · rw [if_pos s3, if_neg (fun w => by rw [w 3 (by decide)] at s3; cases s3)]
      exact ⟨-1, rfl, rfl, Or.inl rfl⟩
    rw [if_neg s3, if_neg g3]
    rw [L4]
    by_cases s4 : z.testBit 4 = true
    · rw [if_pos s4, if_neg (fun w => by rw [w 4 (by decide)] at s4; cases s4)]
      exact ⟨-1, rfl, rfl, Or.inl rfl⟩
    rw [if_neg s4, if_neg g4]
    rw [L5]
    by_cases s5 : z.testBit 5 = true
    · rw [if_pos s5, if_neg (fun w => by rw [w 5 (by decide)] at s5; cases s5)]
      exact ⟨-1, rfl, rfl, Or.inl rfl⟩
    rw [if_neg s5, if_neg g5]
    rw [L6]
    by_cases s6 : z.testBit 6 = true
    · rw [if_pos s6, if_neg (fun w => by rw [w 6 (by decide)] at s6; cases s6)]
      exact ⟨-1, rfl, rfl, Or.inl rfl⟩
    rw [if_neg s6, if_pos g6]
    rw [if_pos (fun l hl => by
      have : l = 0 ∨ l = 1 ∨ l = 2 ∨ l = 3 ∨ l = 4 ∨ l = 5 ∨ l = 6 := by omega
      rcases this with e | e | e | e | e | e | e
      · rw [e]; simpa using s0
      · rw [e]; simpa using s1
      · rw [e]; simpa using s2
      · rw [e]; simpa using s3
      · rw [e]; simpa using s4
      · rw [e]; simpa using s5
      · rw [e]; simpa using s6)]
    exact ⟨6, rfl, rfl, Or.inr (vin (by decide))⟩
  by_cases g7 : aB x y 7 = true
  · have P7 : ∀ b, f_Mod_given_5_c7 t b = f_Mod_given_5_cm1 t 7 := fun b => by
      rw [T7, if_pos g7]
      rw [T6, if_neg g6, T5, if_neg g5, T4, if_neg g4, T3, if_neg g3, T2, if_neg g2, T1, if_neg g1, T0, if_neg g0]
    rw [P7, lm7 hz ez]
    rw [L0]
    by_cases s0 : z.testBit 0 = true
    · rw [if_pos s0, if_neg (fun w => by rw [w 0 (by decide)] at s0; cases s0)]
      exact ⟨-1, rfl, rfl, Or.inl rfl⟩
    rw [if_neg s0, if_neg g0]
    rw [L1]
    by_cases s1 : z.testBit 1 = true
    · rw [if_pos s1, if_neg (fun w => by rw [w 1 (by decide)] at s1; cases s1)]
      exact ⟨-1, rfl, rfl, Or.inl rfl⟩
    rw [if_neg s1, if_neg g1]
    rw [L2]
    by_cases s2 : z.testBit 2 = true
    · rw [if_pos s2, if_neg (fun w => by rw [w 2 (by decide)] at s2; cases s2)]
      exact ⟨-1, rfl, rfl, Or.inl rfl⟩
    rw [if_neg s2, if_neg g2]
    rw [L3]
    by_cases s3 : z.testBit 3 = true
    · rw [if_pos s3, if_neg (fun w => by rw [w 3 (by decide)] at s3; cases s3)]
      exact ⟨-1, rfl, rfl, Or.inl rfl⟩
    rw [if_neg s3, if_neg g3]
    rw [L4]
    by_cases s4 : z.testBit 4 = true
    · rw [if_pos s4, if_neg (fun w => by rw [w 4 (by decide)] at s4; cases s4)]
      exact ⟨-1, rfl, rfl, Or.inl rfl⟩
    rw [if_neg s4, if_neg g4]
    rw [L5]
    by_cases s5 : z.testBit 5 = true
    · rw [if_pos s5, if_neg (fun w => by rw [w 5 (by decide)] at s5; cases s5)]
      exact ⟨-1, rfl, rfl, Or.inl rfl⟩
    rw [if_neg s5, if_neg g5]
    rw [L6]
    by_cases s6 : z.testBit 6 = true
    · rw [if_pos s6, if_neg (fun w => by rw [w 6 (by decide)] at s6; cases s6)]
      exact ⟨-1, rfl, rfl, Or.inl rfl⟩
    rw [if_neg s6, if_neg g6]
    rw [L7]
    by_cases s7 : z.testBit 7 = true
    · rw [if_pos s7, if_neg (fun w => by rw [w 7 (by decide)] at s7; cases s7)]
      exact ⟨-1, rfl, rfl, Or.inl rfl⟩
    rw [if_neg s7, if_pos g7]
    rw [if_pos (fun l hl => by
      have : l = 0 ∨ l = 1 ∨ l = 2 ∨ l = 3 ∨ l = 4 ∨ l = 5 ∨ l = 6 ∨ l = 7 := by omega
      rcases this with e | e | e | e | e | e | e | e
      · rw [e]; simpa using s0
      · rw [e]; simpa using s1
      · rw [e]; simpa using s2
      · rw [e]; simpa using s3
      · rw [e]; simpa using s4
      · rw [e]; simpa using s5
      · rw [e]; simpa using s6
      · rw [e]; simpa using s7)]
    exact ⟨7, rfl, rfl, Or.inr (vin (by decide))⟩
  have P : f_Mod_given_5_c7 t (-1) = (-1, t) := by
    rw [T7, if_neg g7, T6, if_neg g6, T5, if_neg g5, T4, if_neg g4, T3, if_neg g3, T2, if_neg g2, T1, if_neg g1, T0, if_neg g0]
    rfl
  rw [P]
  rw [L0]
  by_cases s0 : z.testBit 0 = true
  · rw [if_pos s0]
    exact ⟨-1, rfl, rfl, Or.inl rfl⟩
  rw [if_neg s0, if_neg g0]
  rw [L1]
  by_cases s1 : z.testBit 1 = true
  · rw [if_pos s1]
    exact ⟨-1, rfl, rfl, Or.inl rfl⟩
  rw [if_neg s1, if_neg g1]
  rw [L2]
  by_cases s2 : z.testBit 2 = true
  · rw [if_pos s2]
    exact ⟨-1, rfl, rfl, Or.inl rfl⟩
  rw [if_neg s2, if_neg g2]
  rw [L3]
  by_cases s3 : z.testBit 3 = true
  · rw [if_pos s3]
    exact ⟨-1, rfl, rfl, Or.inl rfl⟩
  rw [if_neg s3, if_neg g3]
  rw [L4]
  by_cases s4 : z.testBit 4 = true
  · rw [if_pos s4]
    exact ⟨-1, rfl, rfl, Or.inl rfl⟩
  rw [if_neg s4, if_neg g4]
  rw [L5]
  by_cases s5 : z.testBit 5 = true
  · rw [if_pos s5]
    exact ⟨-1, rfl, rfl, Or.inl rfl⟩
  rw [if_neg s5, if_neg g5]
  rw [L6]
  by_cases s6 : z.testBit 6 = true
  · rw [if_pos s6]
    exact ⟨-1, rfl, rfl, Or.inl rfl⟩
  rw [if_neg s6, if_neg g6]
  rw [L7]
  by_cases s7 : z.testBit 7 = true
  · rw [if_pos s7]
    exact ⟨-1, rfl, rfl, Or.inl rfl⟩
  rw [if_neg s7, if_neg g7]
  exact ⟨-1, rfl, rfl, Or.inl rfl⟩
