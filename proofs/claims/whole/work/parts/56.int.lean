/-! interrupt, timer, jump -/
theorem set_fop (c : Sg) (b y : Int32) : f_Fla_set c b y = up2 c 6 0 (fop (c 6 0) b y) := by
  unfold f_Fla_set fop
  by_cases h : y = 0
  · rw [if_pos h, if_pos h]; rfl
  · rw [if_neg h, if_neg h]; rfl
theorem fop_ok {F b : Int32} (hF : F &&& 3777 = F) (hb : b &&& 3777 = b) (y : Int32) : fop F b y &&& 3777 = fop F b y := by
  unfold fop
  by_cases h : y = 0
  · rw [if_pos h]
    apply Int32.toBitVec_inj.mp
    simp only [Int32.toBitVec_and, Int32.toBitVec_xor]
    have e : F.toBitVec &&& Int32.toBitVec 3777 = F.toBitVec := by rw [← Int32.toBitVec_and, hF]
    rw [BitVec.and_assoc, BitVec.and_comm (b.toBitVec ^^^ _), ← BitVec.and_assoc, e]
  · rw [if_neg h]
    have e := nf_and F 3777 b 3777
    rw [hF] at e
    rw [e, hb]
    have e2 : F &&& (3777 &&& 3777 : Int32) = F := hF
    rw [e2]
theorem setf {c t : Sg} (h : RR c t) {b : Int32} (hb : b &&& 3777 = b) (y : Int32) : ST c t (f_Fla_set c b y) (f_Mod_flag t b y) := by
  rw [set_fop, flag_eq, h.fl.1]
  exact ffs h (fop_ok h.fl.2 hb y)
theorem vec_adr : ∀ k, k < 16 → adr 0 ((4 : Int32) * nI k) = Int32.toNatClampNeg ((4 : Int32) * nI k) ∧ adr1 0 ((4 : Int32) * nI k) = Int32.toNatClampNeg ((4 : Int32) * nI k + 1) ∧ adr 0 ((4 : Int32) * nI k + 2) = Int32.toNatClampNeg ((4 : Int32) * nI k + 2) ∧ adr1 0 ((4 : Int32) * nI k + 2) = Int32.toNatClampNeg ((4 : Int32) * nI k + 3) := by decide +kernel
theorem int_eq {c t : Sg} (h : RR c t) (n : Int32) : RR (f_Pro_interrupt c n) (f_Mod_interrupt t n) := by
  obtain ⟨k, hk, ek⟩ := pk_andE n (m := 15) 4 rfl
  obtain ⟨a1, a2, a3, a4⟩ := vec_adr k hk
  simp only [f_Pro_interrupt, f_Mod_interrupt, bnd, ek]
  rw [h.fl.1]
  have s1 := push h (t 15 4)
  generalize f_Pro_push c (t 15 4) = c1 at s1 ⊢
  generalize f_Mod_push t (t 15 4) = t1 at s1 ⊢
  have h1 := s1.1
  rw [(h1.2.1.2.2 _).1]
  have s2 := push h1 (t1 18 (Int32.toNatClampNeg 1))
  generalize f_Pro_push c1 (t1 18 (Int32.toNatClampNeg 1)) = c2 at s2 ⊢
  generalize f_Mod_push t1 (t1 18 (Int32.toNatClampNeg 1)) = t2 at s2 ⊢
  have h2 := s2.1
  rw [h2.ip.1]
  have s3 := push h2 (t2 15 3)
  generalize f_Pro_push c2 (t2 15 3) = c3 at s3 ⊢
  generalize f_Mod_push t2 (t2 15 3) = t3 at s3 ⊢
  have s4 := setf s3.1 (b := 512) (by decide) 0
  generalize f_Fla_set c3 512 0 = c4 at s4 ⊢
  generalize f_Mod_flag t3 512 0 = t4 at s4 ⊢
  have h4 := s4.1
  obtain ⟨f1, f2⟩ := fW h4 0 ((4 : Int32) * nI k) (w := 1) (by decide)
  rw [a1, a2] at f1 f2
  rw [f1]
  dsimp only
  have h5 := h4.up 0 (a := 3) (b := 2) (x := 15) (y := 3) (k := 3) rfl f2
  generalize up2 c4 3 2 (t4 16 (Int32.toNatClampNeg ((4 : Int32) * nI k)) + (256 : Int32) * t4 16 (Int32.toNatClampNeg ((4 : Int32) * nI k + 1))) = c5 at h5 ⊢
  generalize up2 t4 15 3 (t4 16 (Int32.toNatClampNeg ((4 : Int32) * nI k)) + (256 : Int32) * t4 16 (Int32.toNatClampNeg ((4 : Int32) * nI k + 1))) = t5 at h5 ⊢
  obtain ⟨g1, g2⟩ := fW h5 0 ((4 : Int32) * nI k + 2) (w := 1) (by decide)
  rw [a3, a4] at g1 g2
  rw [g1]
  dsimp only
  have h6 := h5.seg (Int32.toNatClampNeg 1) g2
  generalize up2 c5 5 (Int32.toNatClampNeg 1) (t5 16 (Int32.toNatClampNeg ((4 : Int32) * nI k + 2)) + (256 : Int32) * t5 16 (Int32.toNatClampNeg ((4 : Int32) * nI k + 3))) = c6 at h6 ⊢
  generalize up2 t5 18 (Int32.toNatClampNeg 1) (t5 16 (Int32.toNatClampNeg ((4 : Int32) * nI k + 2)) + (256 : Int32) * t5 16 (Int32.toNatClampNeg ((4 : Int32) * nI k + 3))) = t6 at h6 ⊢
  rw [(h6.get 4 rfl).1]
  exact h6.up 4 rfl trivial
theorem int_unk {t : Sg} {n : Int32} (h : t 15 16 = 0) : f_Mod_interrupt t n 15 16 = 0 := p_Mod_interrupt (P := fun z => z 15 16 = 0) (WP_at (R := fun z => z = 0) rfl) h
theorem jmp {c t : Sg} (h : RR c t) (d : Int32) : ST c t (f_Reg_jump c d) (up2 t 15 3 ((t 15 3 + d) &&& 65535)) := by
  simp only [f_Reg_jump, bnd]
  rw [h.ip.1]
  exact sip h (rng3_and _)
/-! the timer -/
theorem RR.tmg {c t c2 t2 : Sg} (h : RR c t) (hT : TM c2 t2) (hc : ∀ a b, (a, b) ≠ (8, 1) → (a, b) ≠ (8, 2) → c2 a b = c a b) (ht : ∀ a b, (a, b) ≠ (15, 21) → (a, b) ≠ (15, 22) → (a, b) ≠ (15, 23) → t2 a b = t a b) : RR c2 t2 := by
  obtain ⟨h1, h2, -, h4⟩ := h
  refine ⟨fun q hq => ?_, ⟨fun i => ?_, fun i => ?_, fun i => ?_⟩, hT, ?_⟩
  · obtain ⟨⟨f1, f2, f3, f4, f5, f6, f7⟩, g1, g2, g3, g4, g5⟩ := far hq
    obtain ⟨⟨qa, qb⟩, ⟨qx, qy⟩, qk⟩ := q
    dsimp only at f4 f5 g1 g2 g3 g4 ⊢
    rw [hc _ _ f4 f5, ht _ _ g2 g3 g4]
    exact h1 _ hq
  · rw [hc _ _ (by simp) (by simp), ht _ _ (by simp) (by simp) (by simp)]; exact h2.1 i
  · rw [hc _ _ (by simp) (by simp), ht _ _ (by simp) (by simp) (by simp)]; exact h2.2.1 i
  · rw [hc _ _ (by simp) (by simp), ht _ _ (by simp) (by simp) (by simp)]; exact h2.2.2 i
  · obtain ⟨k1, m, k2, k3, k4⟩ := h4
    refine ⟨by rw [hc _ _ (by simp) (by simp), ht _ _ (by simp) (by simp) (by simp)]; exact k1, m, k2, by rw [ht _ _ (by simp) (by simp) (by simp)]; exact k3, fun j hj => ?_⟩
    rw [hc _ _ (by simp) (by simp), ht _ _ (by simp) (by simp) (by simp)]
    exact k4 j hj
theorem tick_eq {c t : Sg} (h : RR c t) : RR (f_Tim_tick c) (f_Mod_tickTimer t) := by
  obtain ⟨e2, hT⟩ := h.2.2.1
  unfold f_Tim_tick f_Mod_tickTimer
  rcases hT with ⟨h1, h2⟩ | ⟨h1, h2, h3, h4⟩
  · rw [if_pos h1, if_pos h2]
    exact h
  · have n1 : ¬ t 15 21 = 0 := by rw [h1]; decide
    have n2 : ¬ c 8 1 = 0 := fun z => by
      rw [h2] at z
      rw [z] at h3
      exact absurd h3.1 (by decide)
    rw [if_neg n1, if_neg n2]
    simp only [bnd, up2_put, up2_twice]
    rw [h2]
    have key : ∀ v : Int32, 1 ≤ v.toInt ∧ v.toInt ≤ 65536 → RR (up2 c 8 1 v) (up2 t 15 23 v) := fun v hv => by
      refine h.tmg ⟨?_, Or.inr ⟨?_, ?_, ?_, ?_⟩⟩ (fun a b q1 q2 => up2_get (neP (Ne.symm q1))) (fun a b q1 q2 q3 => up2_get (neP (Ne.symm q3)))
      · rw [up2_get (by decide), up2_get (by decide)]; exact e2
      · rw [up2_get (by decide)]; exact h1
      · rw [up2_put, up2_put]
      · rw [up2_put]; exact hv
      · rw [up2_get (by decide)]; exact h4
    by_cases hz : t 15 23 - 1 = 0
    · rw [if_pos hz, if_pos hz, up2_get (by decide), up2_get (by decide), e2]
      exact (key _ h4).req rq0
    · rw [if_neg hz, if_neg hz]
      have e1 : (1 : Int32).toInt = 1 := by decide
      have es : (t 15 23 - 1).toInt = (t 15 23).toInt - 1 := by
        rw [sub_toInt2 (by omega) (by rw [e1]; omega), e1]
      have : ¬ (t 15 23 - 1).toInt = 0 := fun z => hz (Int32.toInt_inj.mp (by rw [z]; rfl))
      exact key _ (by omega)
