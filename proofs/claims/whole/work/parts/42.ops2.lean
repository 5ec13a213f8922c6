/-! put, key, transfer -/
theorem inlo (t : Sg) (a lo hi : Int32) : (f_Mod_in t a lo hi).2 = t ∧ ((f_Mod_in t a lo hi).1 = 0 ↔ (a < lo ∨ hi < a)) := by
  unfold f_Mod_in
  by_cases h1 : a < lo
  · rw [if_pos h1]; exact ⟨rfl, fun _ => Or.inl h1, fun _ => rfl⟩
  rw [if_neg h1]
  by_cases h2 : hi < a
  · rw [if_pos h2]; exact ⟨rfl, fun _ => Or.inr h2, fun _ => rfl⟩
  · rw [if_neg h2]
    exact ⟨rfl, fun z => absurd z (show ¬ (1 : Int32) = 0 by decide), fun z => z.elim (fun z => absurd z h1) (fun z => absurd z h2)⟩
theorem and_twice (v : Int32) : (v &&& 65535) &&& 3777 = v &&& 3777 := by
  apply Int32.toBitVec_inj.mp
  simp only [Int32.toBitVec_and]
  rw [BitVec.and_assoc]
  rfl
theorem and_idem (v m : Int32) : (v &&& m) &&& m = v &&& m := by
  apply Int32.toBitVec_inj.mp
  simp only [Int32.toBitVec_and]
  rw [BitVec.and_assoc, BitVec.and_self]
theorem lit_lt {a m : Int32} (h : a < m) : a.toInt < m.toInt := i_lt.mp h
theorem sb_put (a v : Int32) : SB (fun s => f_SC_put s a v) (fun s => f_Mod_put s a v) := fun c t h => by
  obtain ⟨e2, e1⟩ := inlo t a 0 13
  simp only [f_SC_put, f_Mod_put, bnd, e2]
  have k8 : (8 : Int32).toInt = 8 := by decide
  have k11 : (11 : Int32).toInt = 11 := by decide
  have k12 : (12 : Int32).toInt = 12 := by decide
  have k13 : (13 : Int32).toInt = 13 := by decide
  by_cases h1 : a < 0
  · rw [if_pos h1, if_pos (e1.mpr (Or.inl h1))]; exact ⟨rfl, h⟩
  rw [if_neg h1]
  by_cases h2 : a ≤ 13
  · rw [if_pos h2, if_neg (fun z => (e1.mp z).elim h1 (fun y => by rw [i_lt] at y; rw [i_le] at h2; omega))]
    by_cases h3 : 8 ≤ a
    · rw [if_pos h3, if_pos h3]
      obtain ⟨g2, g1⟩ := inlo t a 8 11
      simp only [f_Mod_put_28, bnd, g2]
      by_cases h4 : 12 ≤ a
      · rw [if_pos h4, if_pos (g1.mpr (Or.inr (by rw [i_lt]; rw [i_le] at h4; omega)))]
        simp only [f_Mod_put_52, f_Mod_put_66, bnd]
        by_cases h5 : a = 12
        · rw [if_pos h5, if_pos h5, if_neg (by rw [h5]; decide)]
          exact ⟨rfl, h.up 0 rfl (rng3_and v)⟩
        · rw [if_neg h5, if_neg h5]
          have h6 : a = 13 := Int32.toInt_inj.mp (by
            have h7 : ¬ a.toInt = 12 := fun z => h5 (Int32.toInt_inj.mp (by rw [z, k12]))
            rw [i_le] at h2 h4
            omega)
          rw [if_pos h6, and_twice]
          exact ⟨rfl, h.up 1 rfl (and_idem v 3777)⟩
      · rw [if_neg h4, if_neg (fun z => (g1.mp z).elim (fun y => by rw [i_lt] at y; rw [i_le] at h3; omega) (fun y => by rw [i_lt] at y; rw [i_le] at h4; omega))]
        simp only [f_Mod_put_52, f_Mod_put_66, bnd]
        rw [if_neg (fun z => h4 (by rw [z, i_le]; omega)), if_neg (fun z => h4 (by rw [z, i_le]; omega))]
        exact ⟨rfl, h.seg _ (rng3_and v)⟩
    · rw [if_neg h3, if_neg h3]
      have key : ∀ s : Sg, f_Mod_put_28 s a v = (1, s) := fun s => by
        obtain ⟨g2, g1⟩ := inlo s a 8 11
        simp only [f_Mod_put_28, bnd, g2]
        rw [if_pos (g1.mpr (Or.inl (by rw [i_lt]; rw [i_le] at h3; omega)))]
        simp only [f_Mod_put_52, f_Mod_put_66, bnd]
        rw [if_neg (fun z => h3 (by rw [z, i_le]; omega)), if_neg (fun z => h3 (by rw [z, i_le]; omega))]
      rw [key]
      exact ⟨rfl, h.wor _ (rng3_and v)⟩
  · rw [if_neg h2, if_pos (e1.mpr (Or.inr (by rw [i_lt]; rw [i_le] at h2; omega)))]; exact ⟨rfl, h⟩
theorem op_put : OP_put Rel := fun σ a b h => ⟨trivial, trivial, op_of (sb_put a b) (fun s => p_SC_put (P := fun z => ∀ i, 15 ≤ i → z i = s i) (WP_hi rfl) (fun _ _ => rfl)) (fun s => p_Mod_put (P := fun z => ∀ i, i < 15 → z i = s i) (WP_lo rfl) (fun _ _ => rfl)) h⟩
/-- a request, side by side -/
theorem rng2_or {x y : Int32} (hx : rng 2 x) (hy : rng 2 y) : rng 2 (x ||| y) := by
  obtain ⟨i, hi, rfl⟩ := vp_in_of (vp_in_iff.mpr ⟨hx.1, hx.2⟩ : vp_in x 256) (by decide)
  obtain ⟨j, hj, rfl⟩ := vp_in_of (vp_in_iff.mpr ⟨hy.1, hy.2⟩ : vp_in y 256) (by decide)
  have e : nI i ||| nI j = nI (i ||| j) := by
    apply Int32.toBitVec_inj.mp
    rw [Int32.toBitVec_or]
    show BitVec.ofNat 32 i ||| BitVec.ofNat 32 j = BitVec.ofNat 32 (i ||| j)
    rw [BitVec.ofNat_or]
  have hlt : i ||| j < 2 ^ 8 := Nat.or_lt_two_pow hi hj
  rw [e]
  show 0 ≤ (nI (i ||| j)).toInt ∧ (nI (i ||| j)).toInt < 256
  rw [nI_toInt (by omega)]
  omega
theorem RR.req {c t : Sg} (h : RR c t) {k : Int32} (hk : rng 2 ((1 : Int32) <<< (k &&& 31))) : RR (f_Ctl_request c k) (f_Mod_request t k) := by
  simp only [f_Ctl_request, f_Mod_request, bnd]
  obtain ⟨e, r⟩ := h.get 6 rfl
  rw [e]
  exact h.up 6 rfl (rng2_or r hk)
