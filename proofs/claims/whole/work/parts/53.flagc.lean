/-! the operations on flags, side by side -/
/-- a value that fits its width -/
def VW (w a : Int32) : Prop := rng 3 a ∧ (w = 0 → rng 2 a)
theorem VW.nI0 {a : Int32} (h : VW 0 a) : ∃ i : Nat, i < 256 ∧ a = nI i := rng_nI (h.2 rfl)
theorem VW_and (w x : Int32) : VW w (x &&& mkw w) := by
  unfold mkw
  by_cases h : w = 0
  · rw [if_pos h]
    exact ⟨rng23 (rng2_and x), fun _ => rng2_and x⟩
  · rw [if_neg h]
    exact ⟨rng3_and x, fun z => absurd z h⟩
theorem VW_id {w a : Int32} (h : VW w a) : a &&& mkw w = a := by
  unfold mkw
  by_cases hw : w = 0
  · rw [if_pos hw]
    obtain ⟨i, hi, rfl⟩ := rng_nI (h.2 hw)
    rw [pk_andN (by omega) 8 rfl, Nat.mod_eq_of_lt hi]
  · rw [if_neg hw]
    obtain ⟨i, hi, rfl⟩ := rng_nI3 h.1
    rw [pk_andN (by omega) 16 rfl, Nat.mod_eq_of_lt hi]
theorem VW_1 (w : Int32) : VW w 1 := ⟨⟨by decide, by decide⟩, fun _ => ⟨by decide, by decide⟩⟩
theorem VW_0 (w : Int32) : VW w 0 := ⟨⟨by decide, by decide⟩, fun _ => ⟨by decide, by decide⟩⟩
theorem VW_or {w a b : Int32} (ha : VW w a) (hb : VW w b) : VW w (a ||| b) := ⟨rng3_or ha.1 hb.1, fun z => rng2_or (ha.2 z) (hb.2 z)⟩
theorem rng2_andl {x m : Int32} (hm : rng 2 m) : rng 2 (x &&& m) := by
  obtain ⟨j, hj, rfl⟩ := rng_nI hm
  have e : x = nI x.toBitVec.toNat := Int32.toBitVec_inj.mp (by show x.toBitVec = BitVec.ofNat 32 x.toBitVec.toNat; rw [BitVec.ofNat_toNat]; simp)
  rw [e, nI_and]
  exact rng2_of (Nat.lt_of_le_of_lt Nat.and_le_right hj)
theorem VW_andv {w a b : Int32} (hb : VW w b) : VW w (a &&& b) := ⟨rng3_andl hb.1, fun z => rng2_andl (hb.2 z)⟩
theorem VW_xor {w a b : Int32} (ha : VW w a) (hb : VW w b) : VW w (a ^^^ b) := by
  obtain ⟨i, hi, ei⟩ := rng_nI3 ha.1
  obtain ⟨j, hj, ej⟩ := rng_nI3 hb.1
  refine ⟨?_, fun z => ?_⟩
  · rw [ei, ej, nI_xor]
    exact rng3_of (Nat.xor_lt_two_pow (n := 16) hi hj)
  · obtain ⟨i, hi, ei⟩ := rng_nI (ha.2 z)
    obtain ⟨j, hj, ej⟩ := rng_nI (hb.2 z)
    rw [ei, ej, nI_xor]
    exact rng2_of (Nat.xor_lt_two_pow (n := 8) hi hj)
theorem hi_mk (w x : Int32) : (x &&& mkw w) &&& hiw w = x &&& hiw w := by
  unfold mkw hiw
  apply Int32.toBitVec_inj.mp
  by_cases h : w = 0
  · rw [if_pos h, if_pos h]
    simp only [Int32.toBitVec_and]
    rw [BitVec.and_assoc]
    rfl
  · rw [if_neg h, if_neg h]
    simp only [Int32.toBitVec_and]
    rw [BitVec.and_assoc]
    rfl
def c01 (k : Int32) : Prop := k = 0 ∨ k = 1
theorem c01_nI {k : Int32} (h : c01 k) : ∃ i : Nat, i < 2 ∧ k = nI i := by
  rcases h with h | h
  · exact ⟨0, by decide, h⟩
  · exact ⟨1, by decide, h⟩
theorem plus_c {w a b k : Int32} (ha : VW w a) (hb : VW w b) (hk : c01 k) : (a + b + k ≤ mkw w ↔ a + b + k = (a + b + k) &&& mkw w) ∧ (((a ^^^ ((a + b + k) &&& mkw w)) &&& (b ^^^ ((a + b + k) &&& mkw w))) &&& hiw w = 0 ↔ room w (sgn w a + sgn w b + k)) := by
  obtain ⟨n, hn, rfl⟩ := c01_nI hk
  unfold mkw hiw room sgn hiw
  by_cases h : w = 0
  · obtain ⟨i, hi, rfl⟩ := rng_nI (ha.2 h)
    obtain ⟨j, hj, rfl⟩ := rng_nI (hb.2 h)
    simp only [if_pos h]
    exact plus8 hi hj hn
  · obtain ⟨i, hi, rfl⟩ := rng_nI3 ha.1
    obtain ⟨j, hj, rfl⟩ := rng_nI3 hb.1
    simp only [if_neg h]
    exact plus16 hi hj hn
theorem less_c {w a b k : Int32} (ha : VW w a) (hb : VW w b) (hk : c01 k) : (0 ≤ a - b - k ↔ a - b - k = (a - b - k) &&& mkw w) ∧ (((a ^^^ b) &&& (a ^^^ ((a - b - k) &&& mkw w))) &&& hiw w = 0 ↔ room w (sgn w a - sgn w b - k)) := by
  obtain ⟨n, hn, rfl⟩ := c01_nI hk
  unfold mkw hiw room sgn hiw
  by_cases h : w = 0
  · obtain ⟨i, hi, rfl⟩ := rng_nI (ha.2 h)
    obtain ⟨j, hj, rfl⟩ := rng_nI (hb.2 h)
    simp only [if_pos h]
    exact ⟨(less8 hi hj hn).1, (less8 hi hj hn).2.1⟩
  · obtain ⟨i, hi, rfl⟩ := rng_nI3 ha.1
    obtain ⟨j, hj, rfl⟩ := rng_nI3 hb.1
    simp only [if_neg h]
    exact ⟨(less16 hi hj hn).1, (less16 hi hj hn).2.1⟩
/-- both answer v, both write x to the flags -/
def FF (c t : Sg) (w : Int32) (r s : Int32 × Sg) : Prop := ∃ v x, r = (v, up2 c 6 0 x) ∧ s = (v, up2 t 15 4 x) ∧ x &&& 3777 = x ∧ VW w v
theorem ff_sum {c t : Sg} (h : RR c t) {w a b k : Int32} (ha : VW w a) (hb : VW w b) (hk : c01 k) : FF c t w (f_Fla_sum c a b k w) (f_Mod_plus t a b k w) := by
  obtain ⟨f1, f2⟩ := h.fl
  obtain ⟨c1, c2⟩ := plus_c ha hb hk
  refine ⟨_, _, sum_eq c a b k w, ?_, ?_, VW_and _ _⟩
  · rw [plus_eq, f1, (f4_mk4 f2 _ _ _ _).1, b01_congr (not_congr c1), ← b01_congr (not_congr c2), hi_mk]
  · rw [f1]
    exact (f4_mk4 f2 _ _ _ _).2
theorem ff_diff {c t : Sg} (h : RR c t) {w a b k : Int32} (ha : VW w a) (hb : VW w b) (hk : c01 k) : FF c t w (f_Fla_difference c a b k w) (f_Mod_less t a b k w) := by
  obtain ⟨f1, f2⟩ := h.fl
  obtain ⟨c1, c2⟩ := less_c ha hb hk
  refine ⟨_, _, diff_eq c a b k w, ?_, ?_, VW_and _ _⟩
  · rw [less_eq, f1, (f4_mk4 f2 _ _ _ _).1, b01_congr (not_congr c1), ← b01_congr (not_congr c2), hi_mk]
  · rw [f1]
    exact (f4_mk4 f2 _ _ _ _).2
theorem ff_logic {c t : Sg} (h : RR c t) {w v : Int32} (hv : VW w v) : FF c t w (f_Fla_logic c v w) (f_Mod_logic t v w) := by
  obtain ⟨f1, f2⟩ := h.fl
  refine ⟨_, _, clogic_eq c v w, ?_, ?_, hv⟩
  · rw [tlogic_eq, f1, (f4_mk4 f2 _ _ _ _).1, VW_id hv]
  · rw [f1]
    exact (f4_mk4 f2 _ _ _ _).2
theorem and1 (x : Int32) : x &&& 1 = 0 ∨ x &&& 1 = 1 := by
  rw [pk_and x (m := 1) 1 rfl]
  have h : x.toBitVec.toNat % 2 ^ 1 = 0 ∨ x.toBitVec.toNat % 2 ^ 1 = 1 := by omega
  rcases h with h | h
  · rw [h]; exact Or.inl rfl
  · rw [h]; exact Or.inr rfl
theorem is_eq (t : Sg) (b : Int32) : f_Mod_is t b = (b01 (¬ t 15 4 &&& b = 0), t) := by
  unfold f_Mod_is b01
  by_cases h : t 15 4 &&& b = 0
  · rw [if_pos h, if_neg (fun z => z h)]
  · rw [if_neg h, if_pos h]
theorem on_eq (c : Sg) (b : Int32) : f_Fla_on c b = (b01 (¬ c 6 0 &&& b = 0), c) := by
  unfold f_Fla_on b01
  by_cases h : c 6 0 &&& b = 0
  · rw [if_pos h, if_neg (fun z => z h)]
  · rw [if_neg h, if_pos h]
theorem is1 (t : Sg) : f_Mod_is t 1 = (t 15 4 &&& 1, t) := by
  rw [is_eq]
  rcases and1 (t 15 4) with h | h
  · rw [b01_0.mpr (fun z => z h), h]
  · rw [h]; rfl
theorem ff_combine {c t : Sg} (h : RR c t) (n : Int32) {w a b : Int32} (ha : VW w a) (hb : VW w b) : FF c t w (f_Fla_combine c n a b w) (f_Mod_combine t n a b w) := by
  have hc : c01 (t 15 4 &&& 1) := and1 _
  have ec : c 6 0 = t 15 4 := h.fl.1
  have e1 : f_Mod_combine t n a b w = f_Mod_combine_13 t n a b w (t 15 4 &&& 1) := by
    simp only [f_Mod_combine, bnd, is1]
    rcases and1 (t 15 4) with e | e
    · rw [if_pos e, e]
    · rw [if_neg (by rw [e]; decide), e]
  rw [e1]
  unfold f_Fla_combine f_Mod_combine_13
  rw [ec]
  by_cases h0 : n = 0
  · rw [if_pos h0, if_pos h0]; exact ff_sum h ha hb (Or.inl rfl)
  rw [if_neg h0, if_neg h0]
  by_cases h1 : n = 1
  · rw [if_pos h1, if_pos h1]; exact ff_logic h (VW_or ha hb)
  rw [if_neg h1, if_neg h1]
  by_cases h2 : n = 2
  · rw [if_pos h2, if_pos h2]; exact ff_sum h ha hb hc
  rw [if_neg h2, if_neg h2]
  by_cases h3 : n = 3
  · rw [if_pos h3, if_pos h3]; exact ff_diff h ha hb hc
  rw [if_neg h3, if_neg h3]
  by_cases h4 : n = 4
  · rw [if_pos h4, if_pos h4]; exact ff_logic h (VW_andv hb)
  rw [if_neg h4, if_neg h4]
  by_cases h5 : n = 5
  · rw [if_pos h5, if_pos h5]; exact ff_diff h ha hb (Or.inl rfl)
  rw [if_neg h5, if_neg h5]
  by_cases h6 : n = 6
  · rw [if_pos h6, if_pos h6]; exact ff_logic h (VW_xor ha hb)
  rw [if_neg h6, if_neg h6]
  obtain ⟨v, x, q1, q2, q3, q4⟩ := ff_diff h ha hb (k := 0) (Or.inl rfl)
  refine ⟨a, x, ?_, ?_, q3, ha⟩
  · rw [q1]; rfl
  · rw [q2]; rfl
theorem comb7 (c : Sg) (a b w : Int32) : (f_Fla_combine c 7 a b w).1 = a := by
  unfold f_Fla_combine
  rw [if_neg (by decide), if_neg (by decide), if_neg (by decide), if_neg (by decide), if_neg (by decide), if_neg (by decide), if_neg (by decide)]
  rfl
theorem byone {F y : Int32} (hy : c01 y) (hF : F &&& 3777 = F) : (F &&& -2) ||| y = fop F 1 y ∧ fop F 1 y &&& 3777 = fop F 1 y := by
  have e0 : F = nf F 3777 0 := by unfold nf; rw [or_0, hF]
  rcases hy with rfl | rfl
  · have e : fop F 1 0 = F &&& -2 := rfl
    refine ⟨by rw [e, or_0], ?_⟩
    have e2 : fop F 1 0 = nf F 3776 0 := by
      rw [e0, nf_fop]
      have : nf (nf F 3777 0) 3776 0 = nf F 3776 0 := by rw [← e0]
      rw [this]
      exact nf_eq F (by decide +kernel) (by decide +kernel)
    rw [e2]
    unfold nf
    rw [nf_and]
    exact nf_eq F (by decide +kernel) (by decide +kernel)
  · have e : fop F 1 1 = F ||| 1 := rfl
    have e2 : F ||| 1 = nf F 3777 1 := by
      have := nf_or F 3777 0 1
      have q : F &&& 3777 ||| 0 = F := by rw [or_0, hF]
      rw [q] at this
      rw [this]
      rfl
    have e3 : (F &&& -2) ||| 1 = nf F 3777 1 := by
      have q : F &&& -2 = nf F 3776 0 := by
        have := nf_and F 3777 0 (-2)
        have q : F &&& 3777 ||| 0 = F := by rw [or_0, hF]
        rw [q] at this
        rw [this]
        rfl
      rw [q]
      unfold nf
      rw [nf_or]
      exact nf_eq F (by decide +kernel) (by decide +kernel)
    rw [e, e3, e2]
    refine ⟨rfl, ?_⟩
    unfold nf
    rw [nf_and]
    exact nf_eq F (by decide +kernel) (by decide +kernel)
theorem ff_more {c t : Sg} (h : RR c t) {w a : Int32} (ha : VW w a) : FF c t w (f_Fla_oneMore c a w) (f_Mod_byOne t a 0 w) := by
  obtain ⟨v, x, q1, q2, q3, q4⟩ := ff_sum h ha (VW_1 w) (k := 0) (Or.inl rfl)
  have b := byone (and1 (t 15 4)) q3
  refine ⟨v, fop x 1 (t 15 4 &&& 1), ?_, ?_, b.2, q4⟩
  · simp only [f_Fla_oneMore, bnd, q1]
    rw [up2_put, up2_twice, h.fl.1, b.1]
  · simp only [f_Mod_byOne, f_Mod_byOne_30, bnd, is1]
    rw [if_pos trivial, q2]
    simp only [flag_up]
theorem ff_one {c t : Sg} (h : RR c t) {w a y : Int32} (hy : ¬ y = 0) (ha : VW w a) : FF c t w (f_Fla_oneLess c a w) (f_Mod_byOne t a y w) := by
  obtain ⟨v, x, q1, q2, q3, q4⟩ := ff_diff h ha (VW_1 w) (k := 0) (Or.inl rfl)
  have b := byone (and1 (t 15 4)) q3
  refine ⟨v, fop x 1 (t 15 4 &&& 1), ?_, ?_, b.2, q4⟩
  · simp only [f_Fla_oneLess, bnd, q1]
    rw [up2_put, up2_twice, h.fl.1, b.1]
  · simp only [f_Mod_byOne, f_Mod_byOne_30, bnd, is1]
    rw [if_neg hy, q2]
    simp only [flag_up]
