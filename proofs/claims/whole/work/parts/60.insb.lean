/-! INSTRUCTIONS side by side: jumps, ports, flags -/
theorem and65 (F : Int32) : F &&& 65 = 0 ↔ F &&& 1 = 0 ∧ F &&& 64 = 0 := by
  have e : F &&& 65 = (F &&& 1) ||| (F &&& 64) := by
    refine Int32.toBitVec_inj.mp ?_
    show F.toBitVec &&& 65#32 = (F.toBitVec &&& 1#32) ||| (F.toBitVec &&& 64#32)
    rw [← BitVec.and_or_distrib_left]
    rfl
  constructor
  · intro q
    constructor
    · have : (F &&& 65) &&& 1 = F &&& 1 := by rw [Int32.and_assoc]; rfl
      rw [← this, q]; rfl
    · have : (F &&& 65) &&& 64 = F &&& 64 := by rw [Int32.and_assoc]; rfl
      rw [← this, q]; rfl
  · rintro ⟨q1, q2⟩
    rw [e, q1, q2]; rfl
def hv (F n y : Int32) : Int32 := if n = 0 then b01 (¬ F &&& 2048 = 0) else if n = 1 then b01 (¬ F &&& 1 = 0) else if n = 2 then b01 (¬ F &&& 64 = 0) else if n = 3 then b01 (¬ F &&& 65 = 0) else if n = 4 then b01 (¬ F &&& 128 = 0) else if n = 6 then y else if y = 0 then b01 (¬ F &&& 64 = 0) else 1
theorem b01_1 {p : Prop} [Decidable p] (h : p) : b01 p = 1 := by unfold b01; exact if_pos h
theorem b01_n {p : Prop} [Decidable p] (h : ¬ p) : b01 p = 0 := by unfold b01; exact if_neg h
theorem hC (c : Sg) (n y : Int32) : f_Pro_holds_28 c n y = (hv (c 6 0) n y, c) := by
  unfold f_Pro_holds_28 hv f_Pro_holds_125
  simp only [on_eq, bnd_q]
  by_cases h0 : n = 0
  · rw [if_pos h0, if_pos h0]
  rw [if_neg h0, if_neg h0]
  by_cases h1 : n = 1
  · rw [if_pos h1, if_pos h1]
  rw [if_neg h1, if_neg h1]
  by_cases h2 : n = 2
  · rw [if_pos h2, if_pos h2]
  rw [if_neg h2, if_neg h2]
  by_cases h3 : n = 3
  · rw [if_pos h3, if_pos h3]
  rw [if_neg h3, if_neg h3]
  by_cases h4 : n = 4
  · rw [if_pos h4, if_pos h4]
  rw [if_neg h4, if_neg h4]
  have key : (if y = 0 then if b01 (¬ c 6 0 &&& 64 = 0) = 0 then ((0 : Int32), c) else (1, c) else (1, c)) = (if y = 0 then b01 (¬ c 6 0 &&& 64 = 0) else 1, c) := by
    by_cases hy : y = 0
    · rw [if_pos hy, if_pos hy]
      by_cases hz : c 6 0 &&& 64 = 0
      · rw [b01_n (fun q => q hz), if_pos rfl]
      · rw [b01_1 hz, if_neg (by decide)]
    · rw [if_neg hy, if_neg hy]
  by_cases h5 : n = 5
  · subst h5
    rw [if_pos rfl, if_neg (show ¬ (5 : Int32) = 6 by decide)]
    exact key
  rw [if_neg h5]
  by_cases h6 : n = 6
  · rw [if_pos h6, if_pos h6]
  rw [if_neg h6, if_neg h6]
  exact key
theorem hT (t : Sg) (k y : Int32) : f_Mod_holds_22 t k y = f_Mod_holds_149 t k (hv (t 15 4) (k >>> ((1 : Int32) &&& 31)) y) := by
  unfold f_Mod_holds_22 hv f_Mod_holds_94 f_Mod_holds_144
  simp only [is_eq, bnd_q]
  generalize k >>> ((1 : Int32) &&& 31) = n
  by_cases h0 : n = 0
  · rw [if_pos h0, if_pos h0]
  rw [if_neg h0, if_neg h0]
  by_cases h1 : n = 1
  · rw [if_pos h1, if_pos h1]
  rw [if_neg h1, if_neg h1]
  by_cases h2 : n = 2
  · rw [if_pos h2, if_pos h2]
  rw [if_neg h2, if_neg h2]
  by_cases h3 : n = 3
  · rw [if_pos h3, if_pos h3]
    by_cases z1 : t 15 4 &&& 1 = 0
    · rw [if_pos (b01_n (fun q => q z1))]
      by_cases z2 : t 15 4 &&& 64 = 0
      · rw [if_pos (b01_n (fun q => q z2)), b01_n (fun q => q ((and65 _).mpr ⟨z1, z2⟩))]
      · rw [if_neg (by rw [b01_1 z2]; decide), b01_1 (show ¬ t 15 4 &&& 65 = 0 from fun q => z2 ((and65 _).mp q).2)]
    · rw [if_neg (by rw [b01_1 z1]; decide), b01_1 (show ¬ t 15 4 &&& 65 = 0 from fun q => z1 ((and65 _).mp q).1)]
  rw [if_neg h3, if_neg h3]
  by_cases h4 : n = 4
  · rw [if_pos h4, if_pos h4]
  rw [if_neg h4, if_neg h4]
  by_cases h6 : n = 6
  · rw [if_pos h6, if_pos h6]
  rw [if_neg h6, if_neg h6]
  by_cases z2 : t 15 4 &&& 64 = 0
  · rw [if_pos (b01_n (fun q => q z2)), b01_n (fun q => q z2)]
    by_cases hy : y = 0
    · rw [if_pos hy, if_pos hy]
    · rw [if_neg hy, if_neg hy]
  · rw [if_neg (by rw [b01_1 z2]; decide), b01_1 z2]
    by_cases hy : y = 0
    · rw [if_pos hy]
    · rw [if_neg hy]
theorem holds_eq {c t : Sg} (h : RR c t) (k : Int32) : ∃ p, f_Pro_holds c (k >>> ((1 : Int32) &&& 31)) = (p, c) ∧ f_Mod_holds t k = f_Mod_holds_149 t k p := by
  have e := h.fl.1
  unfold f_Pro_holds f_Mod_holds
  simp only [on_eq, is_eq, bnd_q, e]
  by_cases q : b01 (¬ t 15 4 &&& 128 = 0) = b01 (¬ t 15 4 &&& 2048 = 0)
  · rw [if_pos q, if_pos q]
    exact ⟨_, by rw [hC, e], hT _ _ _⟩
  · rw [if_neg q, if_neg q]
    exact ⟨_, by rw [hC, e], hT _ _ _⟩
theorem jif {c t : Sg} (h : RR c t) (b : BG c t) (k : Int32) : Ans (if k &&& 1 = 0 then f_Pro_jumpIf_40 (f_Pro_holds (f_Dec_nextSigned c).2 (k >>> ((1 : Int32) &&& 31))).2 (f_Dec_nextSigned c).1 1 (f_Pro_holds (f_Dec_nextSigned c).2 (k >>> ((1 : Int32) &&& 31))).1 else f_Pro_jumpIf_40 (f_Pro_holds (f_Dec_nextSigned c).2 (k >>> ((1 : Int32) &&& 31))).2 (f_Dec_nextSigned c).1 0 (f_Pro_holds (f_Dec_nextSigned c).2 (k >>> ((1 : Int32) &&& 31))).1) (f_Mod_jumps_118 (f_Mod_holds (f_Mod_nextSigned t).2 k).2 (f_Mod_nextSigned t).1 (f_Mod_holds (f_Mod_nextSigned t).2 k).1) := by
  obtain ⟨v, c2, t2, e1, e2, s⟩ := ns h
  rw [e1, e2]
  dsimp only
  obtain ⟨p, e3, e4⟩ := holds_eq s.1 k
  rw [e3, e4]
  have b2 := b.st s
  have jn : Ans (1, c2) (f_Mod_jumps_118 t2 v 0) := by
    unfold f_Mod_jumps_118
    rw [if_pos rfl, bnd_q, up2_self]
    exact ans1 s.1 b2.2.2.2
  have jy : Ans (1, f_Reg_jump c2 v) (f_Mod_jumps_118 t2 v 1) := by
    unfold f_Mod_jumps_118
    rw [if_neg (by decide), bnd_q]
    exact fin b2 (jmp s.1 v)
  unfold f_Mod_holds_149 f_Mod_holds_162 f_Pro_jumpIf_40
  by_cases q : k &&& 1 = 0
  · rw [if_pos q, if_pos q]
    by_cases r : p = 1
    · rw [if_pos r, if_pos r]; exact jy
    · rw [if_neg r, if_neg r]; exact jn
  · rw [if_neg q, if_neg q]
    by_cases r : p = 0
    · rw [if_pos r, if_pos r]; exact jy
    · rw [if_neg r, if_neg r]; exact jn
theorem jsh {c t : Sg} (h : RR c t) (b : BG c t) : Ans (1, f_Reg_jump (f_Dec_nextSigned c).2 (f_Dec_nextSigned c).1) (f_Mod_jumps_118 (f_Mod_nextSigned t).2 (f_Mod_nextSigned t).1 1) := by
  obtain ⟨v, c2, t2, e1, e2, s⟩ := ns h
  rw [e1, e2]
  unfold f_Mod_jumps_118
  rw [if_neg (by decide), bnd_q]
  exact fin b (s.tr (jmp s.1 v))
theorem jnr {c t : Sg} (h : RR c t) (b : BG c t) : Ans (1, f_Reg_jump (f_Dec_nextWord c).2 (f_Dec_nextWord c).1) (f_Mod_jumps_118 (f_Mod_nextWord t).2 (f_Mod_nextWord t).1 1) := by
  obtain ⟨v, c2, t2, e1, e2, hv, s⟩ := nw h
  rw [e1, e2]
  unfold f_Mod_jumps_118
  rw [if_neg (by decide), bnd_q]
  exact fin b (s.tr (jmp s.1 v))
theorem jcl {c t : Sg} (h : RR c t) (b : BG c t) : Ans (1, f_Pro_visit (f_Dec_nextWord c).2 (f_Dec_nextWord c).1) (f_Mod_jumps_118 (f_Mod_push (f_Mod_nextWord t).2 ((f_Mod_nextWord t).2 15 3)) (f_Mod_nextWord t).1 1) := by
  obtain ⟨v, c2, t2, e1, e2, hv, s⟩ := nw h
  rw [e1, e2]
  unfold f_Mod_jumps_118 f_Pro_visit
  rw [if_neg (by decide), bnd_q, bnd_q, bnd_q]
  dsimp only
  rw [s.1.ip.1]
  have s2 := push s.1 (t2 15 3)
  exact fin b (s.tr (s2.tr (jmp s2.1 v)))
theorem jlp {c t : Sg} (h : RR c t) (b : BG c t) : Ans (1, f_Pro_loop (f_Dec_nextSigned c).2 (f_Dec_nextSigned c).1) (f_Mod_jumps_41 (f_Mod_nextSigned t).2 226 (f_Mod_nextSigned t).1) := by
  obtain ⟨v, c2, t2, e1, e2, s⟩ := ns h
  rw [e1, e2]
  show Ans (1, f_Pro_loop c2 v) (f_Mod_jumps_41 t2 226 v)
  unfold f_Mod_jumps_41 f_Pro_loop
  rw [if_pos rfl, bnd_q, bnd_q, bnd_q]
  rw [(s.1.2.1.2.1 _).1]
  generalize hx : (t2 17 (Int32.toNatClampNeg 1) - 1) &&& 65535 = x
  have hr : rng 3 x := by rw [← hx]; exact rng3_and _
  have s2 := s.tr (swor s.1 (Int32.toNatClampNeg 1) hr)
  rw [show up2 t2 17 (Int32.toNatClampNeg 1) x 17 (Int32.toNatClampNeg 1) = x from up2_put]
  by_cases q : x = 0
  · rw [if_pos q, if_pos q]
    show Ans (1, up2 c2 4 (Int32.toNatClampNeg 1) x) (f_Mod_jumps_118 (up2 t2 17 (Int32.toNatClampNeg 1) x) v 0)
    unfold f_Mod_jumps_118
    rw [if_pos rfl, bnd_q, up2_self]
    exact fin b s2
  · rw [if_neg q, if_neg q]
    show Ans (1, f_Reg_jump (up2 c2 4 (Int32.toNatClampNeg 1) x) v) (f_Mod_jumps_118 (up2 t2 17 (Int32.toNatClampNeg 1) x) v 1)
    unfold f_Mod_jumps_118
    rw [if_neg (by decide), bnd_q]
    exact fin b (s2.tr (jmp s2.1 v))
theorem i_ret {c t : Sg} (h : RR c t) (b : BG c t) : Ans (1, up2 (f_Pro_pop c).2 3 2 (f_Pro_pop c).1) (up2 (f_Mod_pop t).2 15 3 (f_Mod_pop t).1) := by
  obtain ⟨v, c2, t2, e1, e2, hv, s⟩ := pop h
  rw [e1, e2]
  exact fin b (s.tr (sip s.1 hv))
theorem nt {c t : Sg} (h : RR c t) (b : BG c t) : Ans (1, f_Pro_interrupt (f_Dec_nextByte c).2 (f_Dec_nextByte c).1) (f_Mod_interrupt (f_Mod_next t).2 (f_Mod_next t).1) := by
  obtain ⟨v, c2, t2, e1, e2, hv, s⟩ := nb h
  rw [e1, e2]
  exact ans1 (int_eq s.1 v) (int_unk (b.st s).2.2.2)
theorem irt {c t : Sg} (h : RR c t) (b : BG c t) (j : Nat) : Ans (bnd (f_Pro_pop c) fun r8 => bnd (up2 r8.2 3 2 r8.1) fun s9 => bnd (f_Pro_pop s9) fun r10 => bnd (up2 r10.2 5 j r10.1) fun s11 => bnd (f_Pro_pop s11) fun r12 => bnd (up2 r12.2 6 0 (r12.1 &&& (3777 : Int32))) fun s13 => ((1 : Int32), s13)) (bnd (f_Mod_pop t) fun r5 => bnd (up2 r5.2 15 3 r5.1) fun s6 => bnd (f_Mod_pop s6) fun r7 => bnd (up2 r7.2 18 j r7.1) fun s8 => bnd (f_Mod_pop s8) fun r9 => bnd (up2 r9.2 15 4 (r9.1 &&& (3777 : Int32))) fun s10 => s10) := by
  obtain ⟨v, c2, t2, e1, e2, hv, s⟩ := pop h
  simp only [bnd_q, e1, e2]
  have s2 := s.tr (sip s.1 hv)
  obtain ⟨v3, c3, t3, e3, e4, hv3, s3⟩ := pop s2.1
  rw [e3, e4]
  dsimp only
  have s4 := s2.tr s3
  have h5 := s4.1.seg j hv3
  have u5 : up2 t3 18 j v3 15 16 = 0 := by
    show t3 15 16 = 0
    rw [s4.2.2.1 16 (by decide) (by decide)]
    exact b.2.2.2
  obtain ⟨v6, c6, t6, e6, e7, hv6, s6⟩ := pop h5
  rw [e6, e7]
  dsimp only
  have s7 := ffs (x := v6 &&& 3777) s6.1 (and_idem _ _)
  refine ans1 s7.1 ?_
  rw [s7.2.2.1 16 (by decide) (by decide), s6.2.2.1 16 (by decide) (by decide)]
  exact u5
theorem inp {c t : Sg} (h : RR c t) (b : BG c t) : Ans (1, f_Reg_change (f_Por_answer (f_Dec_nextByte c).2 (f_Dec_nextByte c).1).2 0 0 (f_Por_answer (f_Dec_nextByte c).2 (f_Dec_nextByte c).1).1) (f_Mod_setRegister (f_Mod_answer (f_Mod_next t).2 (f_Mod_next t).1).2 0 (f_Mod_answer (f_Mod_next t).2 (f_Mod_next t).1).1 0) := by
  obtain ⟨v, c2, t2, e1, e2, hv, s⟩ := nb h
  rw [e1, e2]
  dsimp only
  obtain ⟨e3, h3⟩ := pa_eq s.1 v
  have u3 : (f_Mod_answer t2 v).2 15 16 = 0 := p_Mod_answer (P := fun z => z 15 16 = 0) (WP_at (R := fun z => z = 0) rfl) (b.st s).2.2.2
  rw [e3]
  have s4 := sreg h3 v8_0 (f_Mod_answer t2 v).1 0
  exact ans1 s4.1 (by rw [s4.2.2.1 16 (by decide) (by decide)]; exact u3)
theorem out {c t : Sg} (h : RR c t) (b : BG c t) (j : Nat) : Ans (1, f_Por_get (f_Dec_nextByte c).2 (f_Dec_nextByte c).1 (((f_Dec_nextByte c).2 4 j) &&& 255)) (f_Mod_give (f_Mod_next t).2 (f_Mod_next t).1 (((f_Mod_next t).2 17 j) &&& 255)) := by
  obtain ⟨v, c2, t2, e1, e2, hv, s⟩ := nb h
  rw [e1, e2]
  dsimp only
  rw [(s.1.2.1.2.1 j).1]
  exact ans1 (pg_eq s.1 v (rng2_and _)) (p_Mod_give (P := fun z => z 15 16 = 0) (WP_at (R := fun z => z = 0) rfl) (b.st s).2.2.2)
theorem hlt {c t : Sg} (h : RR c t) (b : BG c t) : Ans (1, up2 c 12 6 1) (up2 t 15 5 1) := ans1 (h.up 2 rfl (Or.inr rfl)) b.2.2.2
theorem nop {c t : Sg} (h : RR c t) : Ans (1, c) (up2 t 15 16 0) := ans1 (h.unk 0) rfl
theorem sfl {c t : Sg} (h : RR c t) (b : BG c t) {f : Int32} (hf : f &&& 3777 = f) (y : Int32) {z : Int32} (hz : z = 0 ∨ z = 1) : Ans (1, up2 (f_Fla_set c f y) 12 8 z) (up2 (f_Mod_flag t f y) 15 6 z) := by
  have s := setf h hf y
  exact ans1 (s.1.up 3 rfl hz) (by show f_Mod_flag t f y 15 16 = 0; rw [s.2.2.1 16 (by decide) (by decide)]; exact b.2.2.2)
