/-! the processor's primitives, side by side -/
theorem adr_eq (x o : Int32) : (x + (o &&& 65535)) &&& 1023 = (x + o) &&& 1023 := by
  rw [pk_and _ (m := 1023) 10 rfl, pk_and _ (m := 1023) 10 rfl]
  congr 1
  rw [Int32.toBitVec_add, Int32.toBitVec_add, BitVec.toNat_add, BitVec.toNat_add, pk_and o (m := 65535) 16 rfl, pk_tn (by omega)]
  omega
theorem adr_eq1 (x o : Int32) : (x + ((o + 1) &&& 65535)) &&& 1023 = (x + o + 1) &&& 1023 := by
  rw [adr_eq, Int32.add_assoc]
theorem rng_nI {x : Int32} (h : rng 2 x) : ∃ i : Nat, i < 256 ∧ x = nI i := vp_in_of (vp_in_iff.mpr ⟨h.1, h.2⟩ : vp_in x 256) (by decide)
theorem rng_nI3 {x : Int32} (h : rng 3 x) : ∃ i : Nat, i < 65536 ∧ x = nI i := vp_in_of (vp_in_iff.mpr ⟨h.1, h.2⟩ : vp_in x 65536) (by decide)
theorem rng2_of {i : Nat} (h : i < 256) : rng 2 (nI i) := by
  show 0 ≤ (nI i).toInt ∧ (nI i).toInt < 256
  rw [nI_toInt (by omega)]; omega
theorem rng3_of {i : Nat} (h : i < 65536) : rng 3 (nI i) := by
  show 0 ≤ (nI i).toInt ∧ (nI i).toInt < 65536
  rw [nI_toInt (by omega)]; omega
theorem rng23 {x : Int32} (h : rng 2 x) : rng 3 x := ⟨h.1, Int.lt_trans h.2 (by decide)⟩
theorem nI_or (a b : Nat) : nI a ||| nI b = nI (a ||| b) := by
  apply Int32.toBitVec_inj.mp
  rw [Int32.toBitVec_or]
  show BitVec.ofNat 32 a ||| BitVec.ofNat 32 b = BitVec.ofNat 32 (a ||| b)
  rw [BitVec.ofNat_or]
theorem or_mul {a b k : Nat} (h : a < 2 ^ k) : a ||| b * 2 ^ k = a + b * 2 ^ k := by
  have := Nat.two_pow_add_eq_or_of_lt h b
  rw [Nat.or_comm, Nat.mul_comm b, ← this, Nat.add_comm]
theorem or_shl {x y : Int32} (hx : rng 2 x) (hy : rng 2 y) : x ||| (y <<< ((8 : Int32) &&& 31)) = x + (256 : Int32) * y ∧ rng 3 (x + (256 : Int32) * y) := by
  obtain ⟨i, hi, rfl⟩ := rng_nI hx
  obtain ⟨j, hj, rfl⟩ := rng_nI hy
  rw [pk_shlN ((8 : Int32) &&& 31) 8 rfl (by omega), nI_or, or_mul (k := 8) hi, show (256 : Int32) = nI 256 from rfl, pk_mul, nI_add, Nat.mul_comm j]
  exact ⟨rfl, rng3_of (by omega)⟩
/-- the byte at an address -/
def adr (s o : Int32) : Nat := Int32.toNatClampNeg (((16 : Int32) * s + o) &&& 1023)
def adr1 (s o : Int32) : Nat := Int32.toNatClampNeg (((16 : Int32) * s + o + 1) &&& 1023)
theorem adr_1 (s o : Int32) : adr s (o + 1) = adr1 s o := by
  unfold adr adr1
  rw [Int32.add_assoc]
theorem gB (t : Sg) (s o : Int32) : f_Mod_getByte t s o = (t 16 (adr s o), t) := by
  simp only [f_Mod_getByte, f_Mod_address, bnd, adr_eq]
  rfl
theorem gB1 (t : Sg) (s o : Int32) : f_Mod_getByte t s (o + 1) = (t 16 (adr1 s o), t) := by
  simp only [f_Mod_getByte, f_Mod_address, bnd, adr_eq1]
  rfl
theorem gW (t : Sg) (s o : Int32) : f_Mod_getWord t s o = (t 16 (adr s o) + (256 : Int32) * t 16 (adr1 s o), t) := by
  simp only [f_Mod_getWord, bnd, gB, adr_1]
theorem fB (c : Sg) (s o : Int32) : f_Mem_fetch c s o 0 = (c 2 (adr s o), c) := by
  unfold f_Mem_fetch
  rw [if_pos rfl]
  rfl
theorem fW {c t : Sg} (h : RR c t) (s o : Int32) {w : Int32} (hw : ¬ w = 0) : f_Mem_fetch c s o w = (t 16 (adr s o) + (256 : Int32) * t 16 (adr1 s o), c) ∧ rng 3 (t 16 (adr s o) + (256 : Int32) * t 16 (adr1 s o)) := by
  unfold f_Mem_fetch
  rw [if_neg hw]
  obtain ⟨a1, a2⟩ := h.2.1.1 (adr s o)
  obtain ⟨b1, b2⟩ := h.2.1.1 (adr1 s o)
  have := or_shl a2 b2
  refine ⟨?_, this.2⟩
  rw [← this.1, ← a1, ← b1]
  rfl
/-- fetch and get -/
theorem get_eq {c t : Sg} (h : RR c t) (s o w : Int32) : ∃ v, f_Mem_fetch c s o w = (v, c) ∧ f_Mod_get t s o w = (v, t) ∧ rng 3 v ∧ (w = 0 → rng 2 v) := by
  by_cases hw : w = 0
  · subst hw
    obtain ⟨a1, a2⟩ := h.2.1.1 (adr s o)
    refine ⟨t 16 (adr s o), by rw [fB, a1], ?_, rng23 a2, fun _ => a2⟩
    simp only [f_Mod_get, bnd, gB]
    rw [if_pos trivial]
  · obtain ⟨h1, h2⟩ := fW h s o hw
    refine ⟨_, h1, ?_, h2, fun z => absurd z hw⟩
    simp only [f_Mod_get, bnd, gW]
    rw [if_neg hw]
/-- store and set -/
theorem set_eq {c t : Sg} (h : RR c t) (s o v w : Int32) : RR (f_Mem_store c s o w v) (f_Mod_set t s o v w) := by
  have h1 := h.mem (adr s o) (rng2_and v)
  by_cases hw : w = 0
  · subst hw
    simp only [f_Mem_store, f_Mod_set, f_Mod_setByte, f_Mod_address, bnd, adr_eq]
    rw [if_pos trivial, if_pos trivial]
    exact h1
  · have h2 := h1.mem (adr1 s o) (rng2_and (v >>> ((8 : Int32) &&& 31)))
    simp only [f_Mem_store, f_Mod_set, f_Mod_setWord, f_Mod_setByte, f_Mod_address, bnd, adr_eq, adr_eq1]
    rw [if_neg hw, if_neg hw, ← Int32.add_assoc]
    exact h2
theorem setW_eq {c t : Sg} (h : RR c t) (s o v : Int32) : RR (f_Mem_store c s o 1 v) (f_Mod_setWord t s o v) := by
  have := set_eq h s o v 1
  simp only [f_Mod_set, bnd] at this
  rw [if_neg (by decide)] at this
  exact this
theorem RR.ip {c t : Sg} (h : RR c t) : c 3 2 = t 15 3 ∧ rng 3 (t 15 3) := h.get 0 rfl
theorem RR.fl {c t : Sg} (h : RR c t) : c 6 0 = t 15 4 ∧ t 15 4 &&& 3777 = t 15 4 := h.get 1 rfl
/-- the next byte -/
theorem nb_eq {c t : Sg} (h : RR c t) : (f_Dec_nextByte c).1 = (f_Mod_next t).1 ∧ rng 2 (f_Mod_next t).1 ∧ RR (f_Dec_nextByte c).2 (f_Mod_next t).2 := by
  obtain ⟨i1, i2⟩ := h.ip
  obtain ⟨s1, s2⟩ := h.2.1.2.2 (Int32.toNatClampNeg 1)
  obtain ⟨a1, a2⟩ := h.2.1.1 (adr (t 18 (Int32.toNatClampNeg 1)) (t 15 3))
  simp only [f_Dec_nextByte, f_Mod_next, bnd, gB, fB, i1, s1]
  exact ⟨a1, a2, h.up 0 rfl (rng3_and _)⟩
theorem and_add (x : Int32) : ((x + 1) &&& 65535) + 1 &&& 65535 = (x + 2) &&& 65535 := by
  rw [pk_and _ (m := 65535) 16 rfl, pk_and (x + 2) (m := 65535) 16 rfl, pk_and (x + 1) (m := 65535) 16 rfl]
  congr 1
  rw [Int32.toBitVec_add, Int32.toBitVec_add, Int32.toBitVec_add, BitVec.toNat_add, BitVec.toNat_add, BitVec.toNat_add, pk_tn (by omega)]
  show ((((x.toBitVec.toNat + 1) % 2 ^ 32) % 2 ^ 16 + 1) % 2 ^ 32) % 2 ^ 16 = ((x.toBitVec.toNat + 2) % 2 ^ 32) % 2 ^ 16
  omega
/-- the next word -/
theorem nw_eq {c t : Sg} (h : RR c t) : (f_Dec_nextWord c).1 = (f_Mod_nextWord t).1 ∧ rng 3 (f_Mod_nextWord t).1 ∧ RR (f_Dec_nextWord c).2 (f_Mod_nextWord t).2 := by
  obtain ⟨i1, i2⟩ := h.ip
  obtain ⟨s1, s2⟩ := h.2.1.2.2 (Int32.toNatClampNeg 1)
  obtain ⟨f1, f2⟩ := fW h (t 18 (Int32.toNatClampNeg 1)) (t 15 3) (w := 1) (by decide)
  have e1 : f_Dec_nextWord c = (t 16 (adr (t 18 (Int32.toNatClampNeg 1)) (t 15 3)) + (256 : Int32) * t 16 (adr1 (t 18 (Int32.toNatClampNeg 1)) (t 15 3)), up2 c 3 2 ((t 15 3 + 2) &&& 65535)) := by
    simp only [f_Dec_nextWord, bnd, i1, s1, f1]
  have e2 : f_Mod_nextWord t = (t 16 (adr (t 18 (Int32.toNatClampNeg 1)) (t 15 3)) + (256 : Int32) * t 16 (adr1 (t 18 (Int32.toNatClampNeg 1)) (t 15 3)), up2 (up2 t 15 3 ((t 15 3 + 1) &&& 65535)) 15 3 ((t 15 3 + 2) &&& 65535)) := by
    have ek : ∀ s : Int32, adr s ((t 15 3 + 1) &&& 65535) = adr1 s (t 15 3) := fun s => by
      unfold adr adr1
      rw [adr_eq1]
    simp only [f_Mod_nextWord, f_Mod_next, bnd, gB]
    rw [up2_put, and_add, up2_ne t (a := 18) _ _ (by decide), ek, up2_ne t (a := 16) _ _ (by decide)]
  have e3 : up2 (up2 t 15 3 ((t 15 3 + 1) &&& 65535)) 15 3 ((t 15 3 + 2) &&& 65535) = up2 t 15 3 ((t 15 3 + 2) &&& 65535) := by
    funext a b
    by_cases hb : a = 15 ∧ b = 3
    · obtain ⟨rfl, rfl⟩ := hb
      rw [up2_put, up2_put]
    · rw [up2_get hb, up2_get hb, up2_get hb]
  rw [e1, e2, e3]
  exact ⟨rfl, f2, h.up 0 rfl (rng3_and _)⟩
theorem i8_eq : ∀ n, n < 256 → (nI n).toInt8.toInt32 = (if nI n < 128 then nI n else nI n - 256) := by decide +kernel
/-- the next byte, signed -/
theorem ns_eq {c t : Sg} (h : RR c t) : (f_Dec_nextSigned c).1 = (f_Mod_nextSigned t).1 ∧ RR (f_Dec_nextSigned c).2 (f_Mod_nextSigned t).2 := by
  obtain ⟨e1, e2, e3⟩ := nb_eq h
  obtain ⟨n, hn, en⟩ := rng_nI e2
  have e4 := i8_eq n hn
  simp only [f_Dec_nextSigned, f_Mod_nextSigned, bnd]
  rw [e1, en, e4]
  by_cases hl : nI n < 128
  · rw [if_pos hl, if_pos hl]; exact ⟨rfl, e3⟩
  · rw [if_neg hl, if_neg hl]; exact ⟨rfl, e3⟩
/-- immediate, nextOf -/
theorem im_eq {c t : Sg} (h : RR c t) (w : Int32) : (f_Dec_nextOf c w).1 = (f_Mod_immediate t w).1 ∧ rng 3 (f_Mod_immediate t w).1 ∧ (w = 0 → rng 2 (f_Mod_immediate t w).1) ∧ RR (f_Dec_nextOf c w).2 (f_Mod_immediate t w).2 := by
  simp only [f_Dec_nextOf, f_Mod_immediate, bnd]
  by_cases hw : w = 0
  · rw [if_pos hw, if_pos hw]
    obtain ⟨e1, e2, e3⟩ := nb_eq h
    exact ⟨e1, rng23 e2, fun _ => e2, e3⟩
  · rw [if_neg hw, if_neg hw]
    obtain ⟨e1, e2, e3⟩ := nw_eq h
    exact ⟨e1, e2, fun z => absurd z hw, e3⟩
/-! registers -/
theorem m7 {k : Int32} (h : vp_in k 8) : k &&& 7 = k := and_id (k := 3) (m := 7) rfl (by decide) h
theorem m3_lo {k : Int32} (h : vp_in k 8) (h4 : ¬ 4 ≤ k) : k &&& 3 = k := by
  refine and_id (k := 2) (m := 3) rfl (by decide) ?_
  rw [vp_in_iff] at h ⊢
  rw [i_le] at h4
  have e : (4 : Int32).toInt = 4 := by decide
  omega
theorem m3_hi : ∀ n, n < 8 → 4 ≤ nI n → nI n &&& 3 = nI n - 4 := by decide +kernel
theorem m3_hi' {k : Int32} (h : vp_in k 8) (h4 : 4 ≤ k) : k &&& 3 = k - 4 := by
  obtain ⟨n, hn, rfl⟩ := vp_in_of h (by decide)
  exact m3_hi n hn h4
theorem rng2_shr {x : Int32} (h : rng 3 x) : rng 2 (x >>> ((8 : Int32) &&& 31)) := by
  obtain ⟨n, hn, rfl⟩ := rng_nI3 h
  rw [pk_shrN (by omega) ((8 : Int32) &&& 31) 8 rfl]
  exact rng2_of (by omega)
theorem gr_eq {c t : Sg} (h : RR c t) {k : Int32} (hk : vp_in k 8) (w : Int32) : ∃ v, f_Reg_value c k w = (v, c) ∧ f_Mod_getRegister t k w = (v, t) ∧ rng 3 v ∧ (w = 0 → rng 2 v) := by
  unfold f_Reg_value f_Mod_getRegister
  by_cases hw : w = 0
  · rw [if_pos hw, if_pos hw]
    by_cases h4 : 4 ≤ k
    · rw [if_pos h4, if_pos h4, m3_hi' hk h4]
      obtain ⟨a1, a2⟩ := h.2.1.2.1 (Int32.toNatClampNeg (k - 4))
      have r := rng2_shr a2
      exact ⟨_, by rw [a1], rfl, rng23 r, fun _ => r⟩
    · rw [if_neg h4, if_neg h4, m3_lo hk h4]
      obtain ⟨a1, a2⟩ := h.2.1.2.1 (Int32.toNatClampNeg k)
      exact ⟨_, by rw [a1], rfl, rng23 (rng2_and _), fun _ => rng2_and _⟩
  · rw [if_neg hw, if_neg hw, m7 hk]
    obtain ⟨a1, a2⟩ := h.2.1.2.1 (Int32.toNatClampNeg k)
    exact ⟨_, by rw [a1], rfl, a2, fun z => absurd z hw⟩
theorem nI_and (a b : Nat) : nI a &&& nI b = nI (a &&& b) := by
  apply Int32.toBitVec_inj.mp
  rw [Int32.toBitVec_and]
  show BitVec.ofNat 32 a &&& BitVec.ofNat 32 b = BitVec.ofNat 32 (a &&& b)
  rw [BitVec.ofNat_and]
theorem rng3_or {x y : Int32} (hx : rng 3 x) (hy : rng 3 y) : rng 3 (x ||| y) := by
  obtain ⟨i, hi, rfl⟩ := rng_nI3 hx
  obtain ⟨j, hj, rfl⟩ := rng_nI3 hy
  rw [nI_or]
  exact rng3_of (Nat.or_lt_two_pow (n := 16) hi hj)
theorem rng3_andl {x m : Int32} (hm : rng 3 m) : rng 3 (x &&& m) := by
  obtain ⟨j, hj, rfl⟩ := rng_nI3 hm
  have e : x = nI x.toBitVec.toNat := Int32.toBitVec_inj.mp (by show x.toBitVec = BitVec.ofNat 32 x.toBitVec.toNat; rw [BitVec.ofNat_toNat]; simp)
  rw [e, nI_and]
  exact rng3_of (Nat.lt_of_le_of_lt Nat.and_le_right hj)
theorem rng3_shl {x : Int32} (h : rng 2 x) : rng 3 (x <<< ((8 : Int32) &&& 31)) := by
  obtain ⟨n, hn, rfl⟩ := rng_nI h
  rw [pk_shlN ((8 : Int32) &&& 31) 8 rfl (by omega)]
  exact rng3_of (by omega)
theorem sr_eq {c t : Sg} (h : RR c t) {k : Int32} (hk : vp_in k 8) (v w : Int32) : RR (f_Reg_change c k w v) (f_Mod_setRegister t k v w) := by
  unfold f_Reg_change f_Mod_setRegister
  by_cases hw : w = 0
  · rw [if_pos hw, if_pos hw]
    by_cases h4 : 4 ≤ k
    · rw [if_pos h4, if_pos h4, m3_hi' hk h4]
      obtain ⟨a1, a2⟩ := h.2.1.2.1 (Int32.toNatClampNeg (k - 4))
      simp only [bnd]
      rw [a1]
      exact h.wor _ (rng3_or (rng23 (rng2_and _)) (rng3_shl (rng2_and _)))
    · rw [if_neg h4, if_neg h4, m3_lo hk h4]
      obtain ⟨a1, a2⟩ := h.2.1.2.1 (Int32.toNatClampNeg k)
      simp only [bnd]
      rw [a1]
      exact h.wor _ (rng3_or (rng3_andl ⟨by decide, by decide⟩) (rng23 (rng2_and _)))
  · rw [if_neg hw, if_neg hw, m7 hk]
    exact h.wor _ (rng3_and _)
/-! the stack -/
theorem push_eq {c t : Sg} (h : RR c t) (v : Int32) : RR (f_Pro_push c v) (f_Mod_push t v) := by
  obtain ⟨a1, a2⟩ := h.2.1.2.1 (Int32.toNatClampNeg 4)
  have h1 := h.wor (Int32.toNatClampNeg 4) (rng3_and (t 17 (Int32.toNatClampNeg 4) - 2))
  have h2 := setW_eq h1 (t 18 (Int32.toNatClampNeg 2)) ((t 17 (Int32.toNatClampNeg 4) - 2) &&& 65535) v
  obtain ⟨s1, s2⟩ := h.2.1.2.2 (Int32.toNatClampNeg 2)
  simp only [f_Pro_push, f_Mod_push, bnd]
  rw [a1, up2_ne c (a := 5) _ _ (by decide), s1, up2_ne t (a := 18) _ _ (by decide), up2_put]
  exact h2
theorem pop_eq {c t : Sg} (h : RR c t) : (f_Pro_pop c).1 = (f_Mod_pop t).1 ∧ rng 3 (f_Mod_pop t).1 ∧ RR (f_Pro_pop c).2 (f_Mod_pop t).2 := by
  obtain ⟨a1, a2⟩ := h.2.1.2.1 (Int32.toNatClampNeg 4)
  obtain ⟨s1, s2⟩ := h.2.1.2.2 (Int32.toNatClampNeg 2)
  have h1 := h.wor (Int32.toNatClampNeg 4) (rng3_and (t 17 (Int32.toNatClampNeg 4) + 2))
  obtain ⟨f1, f2⟩ := fW h1 (t 18 (Int32.toNatClampNeg 2)) (t 17 (Int32.toNatClampNeg 4)) (w := 1) (by decide)
  rw [up2_ne t (a := 16) _ _ (by decide)] at f1 f2
  simp only [f_Pro_pop, f_Mod_pop, bnd, gW]
  rw [a1, up2_ne c (a := 5) _ _ (by decide), s1, f1]
  exact ⟨rfl, f2, h1⟩
