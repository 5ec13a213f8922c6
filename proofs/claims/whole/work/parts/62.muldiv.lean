/-! MULTIPLY AND DIVIDE side by side -/
theorem lmul (a b : Nat) : lN a * lN b = lN (a * b) := (Int64.ofNat_mul a b).symm
theorem ladd (a b : Nat) : lN a + lN b = lN (a + b) := (Int64.ofNat_add a b).symm
theorem land16 (n : Nat) : lN n &&& 65535 = lN (n % 65536) := by
  refine Int64.toBitVec_inj.mp ?_
  rw [Int64.toBitVec_and]
  show BitVec.ofNat 64 n &&& 65535#64 = BitVec.ofNat 64 (n % 65536)
  apply BitVec.eq_of_toNat_eq
  rw [BitVec.toNat_and, BitVec.toNat_ofNat, BitVec.toNat_ofNat, BitVec.toNat_ofNat, show 65535 % 2 ^ 64 = 2 ^ 16 - 1 by decide, Nat.and_two_pow_sub_one_eq_mod]
  omega
theorem lshr {n : Nat} (h : n < 2 ^ 63) (s : Int32) (k : Nat) (hs : ((s.toInt64 &&& 63).toBitVec.smod 64).toNat = k) : lN n >>> (s.toInt64 &&& 63) = lN (n / 2 ^ k) := by
  have hk : n / 2 ^ k < 2 ^ 63 := Nat.lt_of_le_of_lt (Nat.div_le_self _ _) h
  refine Int64.toInt_inj.mp ?_
  rw [pk_lT hk]
  show ((lN n).toBitVec.sshiftRight ((s.toInt64 &&& 63).toBitVec.smod 64).toNat).toInt = _
  rw [hs, BitVec.toInt_sshiftRight]
  show (lN n).toInt >>> k = _
  rw [pk_lT h, Int.shiftRight_eq_div_pow]
  simp
theorem lto (n : Nat) : (lN n).toInt32 = nI n := Int64.toInt32_ofNat'
theorem lshl (n : Nat) : lN n <<< ((16 : Int32).toInt64 &&& 63) = lN (n * 65536) := by
  refine Int64.toBitVec_inj.mp (BitVec.eq_of_toNat_eq ?_)
  show ((BitVec.ofNat 64 n) <<< (((16 : Int32).toInt64 &&& 63).toBitVec.smod 64).toNat).toNat = (BitVec.ofNat 64 (n * 65536)).toNat
  rw [show (((16 : Int32).toInt64 &&& 63).toBitVec.smod 64).toNat = 16 by decide, BitVec.toNat_shiftLeft, Nat.shiftLeft_eq, BitVec.toNat_ofNat, BitVec.toNat_ofNat]
  omega
theorem lor16 {a b : Nat} (ha : a < 65536) (hb : b < 65536) : lN a ||| lN (b * 65536) = lN (a + b * 65536) := by
  refine Int64.toBitVec_inj.mp (BitVec.eq_of_toNat_eq ?_)
  rw [Int64.toBitVec_or]
  show (BitVec.ofNat 64 a ||| BitVec.ofNat 64 (b * 65536)).toNat = (BitVec.ofNat 64 (a + b * 65536)).toNat
  rw [BitVec.toNat_or, BitVec.toNat_ofNat, BitVec.toNat_ofNat, BitVec.toNat_ofNat, Nat.mod_eq_of_lt (show a < 2 ^ 64 by omega), Nat.mod_eq_of_lt (show b * 65536 < 2 ^ 64 by omega), Nat.mod_eq_of_lt (show a + b * 65536 < 2 ^ 64 by omega)]
  exact or_mul (k := 16) ha
theorem fop2 (F y : Int32) : fop (fop F 1 y) 2048 y = fop F 2049 y := by
  unfold fop
  by_cases h : y = 0
  · rw [if_pos h, if_pos h, if_pos h, Int32.and_assoc]; rfl
  · rw [if_neg h, if_neg h, if_neg h, Int32.or_assoc]; rfl
theorem f107 (t : Sg) (y : Int32) : f_Mod_multiply_107 t y = f_Mod_flag t 2049 y := by
  rw [f_Mod_multiply_107, bnd_q, bnd_q, flag_eq t 1 y, flag_up, flag_eq, fop2]
theorem v80 (c : Sg) : f_Reg_value c 0 0 = ((c 4 0) &&& 255, c) := by
  rw [f_Reg_value, if_pos rfl, if_neg (by decide), show Int32.toNatClampNeg ((0 : Int32) &&& 3) = 0 by decide]
theorem v81 (c : Sg) : f_Reg_value c 0 1 = (c 4 0, c) := by
  rw [f_Reg_value, if_neg (by decide), show Int32.toNatClampNeg ((0 : Int32) &&& 7) = 0 by decide]
theorem zn2 : Int32.toNatClampNeg (2 : Int32) = 2 := by decide
theorem mul8 {c t : Sg} (h : RR c t) (b : BG c t) {v : Int32} (ev : f_Mod_getE t 0 = (v, t)) (hv : rng 2 v) : Ans (1, f_Pro_multiply c v 0) (f_Mod_multiply t 0) := by
  obtain ⟨j, hj, rfl⟩ := rng_nI hv
  obtain ⟨i, hi, ei⟩ := pk_andE (t 17 0) (m := 255) 8 rfl
  have hp : i * j < 65536 := by
    have := Nat.mul_le_mul (Nat.le_of_lt_succ hi) (Nat.le_of_lt_succ hj)
    omega
  rw [f_Pro_multiply, f_Mod_multiply, v80, ev, bnd_q, bnd_q, bnd_q]
  dsimp only
  rw [if_pos rfl, if_pos rfl, bnd_q, (h.2.1.2.1 0).1, zn0, ei, nI_l (by omega), nI_l (by omega), lmul, land16, lto, pk_mul, Nat.mod_eq_of_lt hp]
  have s := swor h 0 (rng3_of hp)
  have e0 : up2 t 17 0 (nI (i * j)) 17 0 = nI (i * j) := up2_put
  generalize up2 t 17 0 (nI (i * j)) = t2 at *
  generalize up2 c 4 0 (nI (i * j)) = c2 at *
  rw [f_Pro_multiply_41, if_pos rfl, f_Pro_multiply_60, lshr (by omega) 8 8 (by decide), lto, f_Mod_multiply_69, if_pos rfl, zn0, e0]
  unfold f_Pro_multiply_77
  rw [bnd_q, bnd_q, f107, f107]
  by_cases q : i * j ≤ 255
  · rw [if_pos (by rw [Nat.div_eq_of_lt (by omega)]; rfl), if_pos (show nI (i * j) ≤ 255 from nI_le (b := 255) q (by decide))]
    exact fin b (s.tr (setf s.1 (by decide) 0))
  · rw [if_neg (nI_ne0 (Nat.div_pos (by omega) (by decide)) (by omega)), if_neg (show ¬ nI (i * j) ≤ 255 from nI_ge (a := 255) (by omega) (by omega))]
    exact fin b (s.tr (setf s.1 (by decide) 1))
theorem mul16 {c t : Sg} (h : RR c t) (b : BG c t) {v : Int32} (ev : f_Mod_getE t 1 = (v, t)) (hv : rng 3 v) : Ans (1, f_Pro_multiply c v 1) (f_Mod_multiply t 1) := by
  obtain ⟨j, hj, rfl⟩ := rng_nI3 hv
  obtain ⟨i, hi, ei⟩ := rng_nI3 (h.2.1.2.1 0).2
  have hp : i * j < 2 ^ 32 := by
    have := Nat.mul_le_mul (Nat.le_of_lt_succ hi) (Nat.le_of_lt_succ hj)
    omega
  have hm : i * j % 65536 < 65536 := Nat.mod_lt _ (by decide)
  have hd : i * j / 65536 < 65536 := by omega
  rw [f_Pro_multiply, f_Mod_multiply, v81, ev, bnd_q, bnd_q, bnd_q]
  dsimp only
  rw [if_neg (by decide), if_neg (by decide), bnd_q, bnd_q, (h.2.1.2.1 0).1, zn0, zn2, ei, nI_l (by omega), nI_l (by omega), lmul, land16, lto, lshr (by omega) 16 16 (by decide), land16, lto, Nat.mod_eq_of_lt (show i * j / 2 ^ 16 < 65536 from hd)]
  have s := swor h 0 (rng3_of hm)
  have s2 := s.tr (swor s.1 2 (rng3_of (i := i * j / 2 ^ 16) hd))
  rw [f_Pro_multiply_41, if_neg (by decide), bnd_q, zn2, f_Pro_multiply_60, lshr (by omega) 16 16 (by decide), lto, f_Mod_multiply_69, if_neg (show ¬ (1 : Int32) = 0 by decide), zn2, up2_put]
  unfold f_Pro_multiply_77
  rw [bnd_q, bnd_q, f107, f107]
  by_cases q : nI (i * j / 2 ^ 16) = 0
  · rw [if_pos q, if_pos q]
    exact fin b (s2.tr (setf s2.1 (by decide) 0))
  · rw [if_neg q, if_neg q]
    exact fin b (s2.tr (setf s2.1 (by decide) 1))
theorem dv {c t : Sg} (h : RR c t) (b : BG c t) {N j L : Nat} {w : Int32} (hN : N < 2 ^ 32) (hL : (w = 0 ∧ L = 255 ∧ j < 256) ∨ (¬ w = 0 ∧ L = 65535 ∧ j < 65536)) : Ans (if (f_Pro_divide_48 c (nI j) w (lN L) (lN N)).1 = 0 then (1, f_Pro_interrupt (f_Pro_divide_48 c (nI j) w (lN L) (lN N)).2 0) else (1, (f_Pro_divide_48 c (nI j) w (lN L) (lN N)).2)) (f_Mod_divide_55 t w (lN j) (lN N) (lN L)) := by
  have i0 : Ans (1, f_Pro_interrupt c 0) (f_Mod_divide_73 t) := by
    rw [f_Mod_divide_73, bnd_q]
    exact ans1 (int_eq h 0) (int_unk b.2.2.2)
  have hj : j < 65536 := by rcases hL with ⟨-, -, q⟩ | ⟨-, -, q⟩ <;> omega
  have hl : L < 65536 := by rcases hL with ⟨-, q, -⟩ | ⟨-, q, -⟩ <;> omega
  rw [f_Mod_divide_55]
  by_cases h0 : j = 0
  · subst h0
    have e : f_Pro_divide_48 c (nI 0) w (lN L) (lN N) = (0, c) := by
      rw [f_Pro_divide_48, if_pos (show nI 0 = 0 from rfl)]
    rw [e, if_pos rfl, if_pos (show lg_cmp (lN 0) (Int64.ofNat ((0 : Fin 2) : Nat)) = 0 from (lg_cmp_eq _ _).mpr rfl)]
    exact i0
  · have hp : 0 < j := Nat.pos_of_ne_zero h0
    have hq1 : ¬ lg_cmp (lN j) (Int64.ofNat ((0 : Fin 2) : Nat)) = 0 := fun q => h0 ((pk_lEQ (by omega) (by decide)).mp ((lg_cmp_eq _ _).mp q))
    rw [if_neg hq1, pk_lDiv (by omega) hp (by omega), lmul, lto]
    have er : lN N - lN (N / j * j) = lN (N % j) := by
      rw [← lmul, ← pk_lDiv (by omega) hp (by omega)]
      exact pk_lRem (by omega) hp (by omega)
    rw [er, lto]
    by_cases q : lg_cmp (lN (N / j)) (lN L) ≤ 0
    · have hdv : N / j < 2 ^ 32 := Nat.lt_of_le_of_lt (Nat.div_le_self _ _) hN
      have hq : N / j ≤ L := (pk_lLE (by omega) (by omega)).mp ((lg_cmp_le _ _).mp q)
      have hr : N % j < j := Nat.mod_lt _ hp
      rw [if_pos q]
      rcases hL with ⟨rfl, rfl, hj2⟩ | ⟨hw, rfl, hj2⟩
      · obtain ⟨e3, r3⟩ := or_shl (x := nI (N / j)) (y := nI (N % j)) (rng2_of (by omega)) (rng2_of (by omega))
        have e : f_Pro_divide_48 c (nI j) 0 (lN 255) (lN N) = (1, up2 c 4 0 (nI (N / j) + 256 * nI (N % j))) := by
          rw [f_Pro_divide_48, if_neg (nI_ne0 hp (by omega)), nI_l (by omega), pk_lDiv (by omega) hp (by omega), lmul, er, if_pos q, if_pos rfl, bnd_q, zn0, lto, lto, Int32.or_comm, e3]
        rw [e, if_neg (show ¬ (1 : Int32) = 0 by decide), if_pos rfl, bnd_q, zn0, Int32.add_comm (256 * nI (N % j))]
        exact fin b (swor h 0 r3)
      · have e : f_Pro_divide_48 c (nI j) w (lN 65535) (lN N) = (1, up2 (up2 c 4 0 (nI (N / j))) 4 2 (nI (N % j))) := by
          rw [f_Pro_divide_48, if_neg (nI_ne0 hp (by omega)), nI_l (by omega), pk_lDiv (by omega) hp (by omega), lmul, er, if_pos q, if_neg hw, bnd_q, bnd_q, zn0, zn2, lto, lto]
        rw [e, if_neg (show ¬ (1 : Int32) = 0 by decide), if_neg hw, bnd_q, bnd_q, zn0, zn2]
        have s := swor h 0 (rng3_of (i := N / j) (by omega))
        exact fin b (s.tr (swor s.1 2 (rng3_of (by omega))))
    · rw [if_neg q]
      have e : f_Pro_divide_48 c (nI j) w (lN L) (lN N) = (0, c) := by
        rw [f_Pro_divide_48, if_neg (nI_ne0 hp (by omega)), nI_l (by omega), pk_lDiv (by omega) hp (by omega), if_neg q]
      rw [e, if_pos rfl]
      exact i0
theorem div8 {c t : Sg} (h : RR c t) (b : BG c t) {v : Int32} (ev : f_Mod_getE t 0 = (v, t)) (hv : rng 2 v) : Ans (if (f_Pro_divide c v 0).1 = 0 then (1, f_Pro_interrupt (f_Pro_divide c v 0).2 0) else (1, (f_Pro_divide c v 0).2)) (f_Mod_divide t 0) := by
  obtain ⟨j, hj, rfl⟩ := rng_nI hv
  obtain ⟨i, hi, ei⟩ := rng_nI3 (h.2.1.2.1 0).2
  have eC : f_Pro_divide c (nI j) 0 = f_Pro_divide_48 c (nI j) 0 (lN 255) (lN i) := by
    rw [f_Pro_divide, if_pos rfl, f_Pro_divide_13, if_pos rfl, zn0, (h.2.1.2.1 0).1, ei, nI_l (by omega)]
    rfl
  rw [eC, f_Mod_divide, ev, bnd_q]
  dsimp only
  rw [if_pos rfl, f_Mod_divide_40, if_pos rfl, zn0, ei, nI_l (by omega), nI_l (by omega)]
  exact dv h b (by omega) (Or.inl ⟨rfl, rfl, hj⟩)
theorem div16 {c t : Sg} (h : RR c t) (b : BG c t) {v : Int32} (ev : f_Mod_getE t 1 = (v, t)) (hv : rng 3 v) : Ans (if (f_Pro_divide c v 1).1 = 0 then (1, f_Pro_interrupt (f_Pro_divide c v 1).2 0) else (1, (f_Pro_divide c v 1).2)) (f_Mod_divide t 1) := by
  obtain ⟨j, hj, rfl⟩ := rng_nI3 hv
  obtain ⟨i, hi, ei⟩ := rng_nI3 (h.2.1.2.1 0).2
  obtain ⟨d, hd, ed⟩ := rng_nI3 (h.2.1.2.1 2).2
  have eC : f_Pro_divide c (nI j) 1 = f_Pro_divide_48 c (nI j) 1 (lN 65535) (lN (i + d * 65536)) := by
    rw [f_Pro_divide, if_neg (by decide), f_Pro_divide_13, if_neg (by decide), zn0, zn2, (h.2.1.2.1 0).1, (h.2.1.2.1 2).1, ei, ed, nI_l (by omega), nI_l (by omega), lshl, lor16 hi hd]
    rfl
  rw [eC, f_Mod_divide, ev, bnd_q]
  dsimp only
  rw [if_neg (show ¬ (1 : Int32) = 0 by decide), f_Mod_divide_40, if_neg (show ¬ (1 : Int32) = 0 by decide), zn0, zn2, ei, ed, nI_l (by omega), nI_l (by omega), nI_l (by omega), show (65536 : Int64) = lN 65536 from rfl, lmul, ladd, Nat.add_comm (d * 65536)]
  exact dv h b (N := i + d * 65536) (by omega) (Or.inr ⟨by decide, rfl, hj⟩)
