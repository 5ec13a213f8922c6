/-! what an instruction has read, side by side -/
def TK (t t2 : Sg) : Prop := ∀ k, 9 ≤ k → k ≤ 16 → t2 15 k = t 15 k
theorem TK.rfl {t : Sg} : TK t t := fun _ _ _ => Eq.refl _
theorem WP_tk {W : List (Nat × Option Nat)} {t : Sg} (h : (W.all fun q => decide (q.1 ≠ 15) || (match q.2 with | none => false | some k => decide (k < 9) || decide (16 < k))) = true) : WP W (TK t) := by
  intro s i j v hw hp k h1 h2
  by_cases hi : 15 = i
  · subst hi
    rcases hw with hw | hw
    · have := List.all_eq_true.mp h _ hw
      simp at this
    · have := List.all_eq_true.mp h _ hw
      simp only [ne_eq, not_true, decide_false, Bool.false_or, Bool.or_eq_true, decide_eq_true_eq] at this
      rw [up2_get (fun e => by omega)]
      exact hp k h1 h2
  · rw [up2_ne _ _ _ hi]
    exact hp k h1 h2
def ST (c t c2 t2 : Sg) : Prop := RR c2 t2 ∧ c2 14 = c 14 ∧ TK t t2 ∧ t2 18 = t 18
def BG (c t : Sg) : Prop := (c 14 2 = t 15 9 ∧ rng 3 (t 15 9)) ∧ (c 14 8 = t 15 10 ∧ (t 15 10 = -1 ∨ vp_in (t 15 10) 4)) ∧ ((c 14 4 = 0 ∧ t 15 11 = -1) ∨ (c 14 4 = t 15 11 ∧ (t 15 11 = 242 ∨ t 15 11 = 243))) ∧ t 15 16 = 0
def ME (w : Int32) (c t : Sg) : Prop := (c 14 5 = t 15 12 ∧ vp_in (t 15 12) 8) ∧ c 14 11 = w ∧ ((c 14 7 = 0 ∧ c 14 9 = t 15 13 ∧ vp_in (t 15 13) 8) ∨ (c 14 7 = 1 ∧ t 15 13 = -1 ∧ c 14 6 = t 15 14 ∧ rng 3 (t 15 14) ∧ c 14 10 = t 18 (Int32.toNatClampNeg (t 15 15))))
theorem BG.kp {c t c2 t2 : Sg} (h : BG c t) (h1 : c2 14 = c 14) (h2 : TK t t2) : BG c2 t2 := by
  unfold BG
  rw [h1, h2 9 (by decide) (by decide), h2 10 (by decide) (by decide), h2 11 (by decide) (by decide), h2 16 (by decide) (by decide)]
  exact h
theorem BG.st {c t c2 t2 : Sg} (h : BG c t) (s : ST c t c2 t2) : BG c2 t2 := h.kp s.2.1 s.2.2.1
theorem ME.st {w : Int32} {c t c2 t2 : Sg} (h : ME w c t) (s : ST c t c2 t2) : ME w c2 t2 := by
  obtain ⟨-, h1, h2, h3⟩ := s
  unfold ME
  rw [h1, h3, h2 12 (by decide) (by decide), h2 13 (by decide) (by decide), h2 14 (by decide) (by decide), h2 15 (by decide) (by decide)]
  exact h
theorem ST.tr {c t c2 t2 c3 t3 : Sg} (h : ST c t c2 t2) (g : ST c2 t2 c3 t3) : ST c t c3 t3 := ⟨g.1, g.2.1.trans h.2.1, fun k h1 h2 => (g.2.2.1 k h1 h2).trans (h.2.2.1 k h1 h2), g.2.2.2.trans h.2.2.2⟩
theorem ST.rfl {c t : Sg} (h : RR c t) : ST c t c t := ⟨h, Eq.refl _, TK.rfl, Eq.refl _⟩
/-- the answer of an instruction of the class against the twin's state -/
def Ans (r : Int32 × Sg) (t : Sg) : Prop := RR r.2 t ∧ ((r.1 = 0 ∧ ¬ t 15 16 = 0 ∧ r.2 14 2 = t 15 9 ∧ rng 3 (t 15 9)) ∨ (¬ r.1 = 0 ∧ t 15 16 = 0))
theorem ans1 {c t : Sg} (h : RR c t) (h2 : t 15 16 = 0) : Ans (1, c) t := ⟨h, Or.inr ⟨show ¬ (1 : Int32) = 0 by decide, h2⟩⟩
theorem ans0 {c t : Sg} (h : RR c t) (b : BG c t) : Ans (0, c) (up2 t 15 16 1) := ⟨h.ts rfl 1, Or.inl ⟨Eq.refl _, by rw [up2_put]; decide, by rw [up2_get (by decide)]; exact b.1.1, by rw [up2_get (by decide)]; exact b.1.2⟩⟩
theorem RR.unk {c t : Sg} (h : RR c t) (v : Int32) : RR c (up2 t 15 16 v) := h.ts rfl v
theorem BG.unk {c t : Sg} (h : BG c t) : BG c (up2 t 15 16 0) := by
  unfold BG
  rw [up2_put, up2_get (by decide), up2_get (by decide), up2_get (by decide)]
  exact ⟨h.1, h.2.1, h.2.2.1, Eq.refl _⟩
theorem ME.unk {w : Int32} {c t : Sg} (h : ME w c t) : ME w c (up2 t 15 16 0) := by
  unfold ME
  rw [up2_ne t (a := 18) _ _ (by decide), up2_get (by decide), up2_get (by decide), up2_get (by decide), up2_get (by decide)]
  exact h
theorem up2_self (σ : Sg) (a b : Nat) : up2 σ a b (σ a b) = σ := by
  funext x y
  by_cases h : x = a ∧ y = b
  · obtain ⟨h1, h2⟩ := h
    subst h1
    subst h2
    rw [up2_put]
  · rw [up2_get h]
/-! the primitives again, with what they leave alone -/
theorem nb {c t : Sg} (h : RR c t) : ∃ v c2 t2, f_Dec_nextByte c = (v, c2) ∧ f_Mod_next t = (v, t2) ∧ rng 2 v ∧ ST c t c2 t2 := by
  obtain ⟨e1, e2, e3⟩ := nb_eq h
  exact ⟨(f_Mod_next t).1, (f_Dec_nextByte c).2, (f_Mod_next t).2, Prod.ext e1 (Eq.refl _), Prod.ext (Eq.refl _) (Eq.refl _), e2, e3, p_Dec_nextByte (P := fun z => z 14 = c 14) (WP_cell (R := fun m => m = c 14) (Eq.refl _)) (Eq.refl _), p_Mod_next (P := TK t) (WP_tk (Eq.refl _)) TK.rfl, p_Mod_next (P := fun z => z 18 = t 18) (WP_cell (R := fun m => m = t 18) (Eq.refl _)) (Eq.refl _)⟩
theorem nw {c t : Sg} (h : RR c t) : ∃ v c2 t2, f_Dec_nextWord c = (v, c2) ∧ f_Mod_nextWord t = (v, t2) ∧ rng 3 v ∧ ST c t c2 t2 := by
  obtain ⟨e1, e2, e3⟩ := nw_eq h
  exact ⟨(f_Mod_nextWord t).1, (f_Dec_nextWord c).2, (f_Mod_nextWord t).2, Prod.ext e1 (Eq.refl _), Prod.ext (Eq.refl _) (Eq.refl _), e2, e3, p_Dec_nextWord (P := fun z => z 14 = c 14) (WP_cell (R := fun m => m = c 14) (Eq.refl _)) (Eq.refl _), p_Mod_nextWord (P := TK t) (WP_tk (Eq.refl _)) TK.rfl, p_Mod_nextWord (P := fun z => z 18 = t 18) (WP_cell (R := fun m => m = t 18) (Eq.refl _)) (Eq.refl _)⟩
theorem ns {c t : Sg} (h : RR c t) : ∃ v c2 t2, f_Dec_nextSigned c = (v, c2) ∧ f_Mod_nextSigned t = (v, t2) ∧ ST c t c2 t2 := by
  obtain ⟨e1, e3⟩ := ns_eq h
  exact ⟨(f_Mod_nextSigned t).1, (f_Dec_nextSigned c).2, (f_Mod_nextSigned t).2, Prod.ext e1 (Eq.refl _), Prod.ext (Eq.refl _) (Eq.refl _), e3, p_Dec_nextSigned (P := fun z => z 14 = c 14) (WP_cell (R := fun m => m = c 14) (Eq.refl _)) (Eq.refl _), p_Mod_nextSigned (P := TK t) (WP_tk (Eq.refl _)) TK.rfl, p_Mod_nextSigned (P := fun z => z 18 = t 18) (WP_cell (R := fun m => m = t 18) (Eq.refl _)) (Eq.refl _)⟩
theorem im {c t : Sg} (h : RR c t) (w : Int32) : ∃ v c2 t2, f_Dec_nextOf c w = (v, c2) ∧ f_Mod_immediate t w = (v, t2) ∧ VW w v ∧ ST c t c2 t2 := by
  obtain ⟨e1, e2, e4, e3⟩ := im_eq h w
  exact ⟨(f_Mod_immediate t w).1, (f_Dec_nextOf c w).2, (f_Mod_immediate t w).2, Prod.ext e1 (Eq.refl _), Prod.ext (Eq.refl _) (Eq.refl _), ⟨e2, e4⟩, e3, p_Dec_nextOf (P := fun z => z 14 = c 14) (WP_cell (R := fun m => m = c 14) (Eq.refl _)) (Eq.refl _), p_Mod_immediate (P := TK t) (WP_tk (Eq.refl _)) TK.rfl, p_Mod_immediate (P := fun z => z 18 = t 18) (WP_cell (R := fun m => m = t 18) (Eq.refl _)) (Eq.refl _)⟩
theorem pop {c t : Sg} (h : RR c t) : ∃ v c2 t2, f_Pro_pop c = (v, c2) ∧ f_Mod_pop t = (v, t2) ∧ rng 3 v ∧ ST c t c2 t2 := by
  obtain ⟨e1, e2, e3⟩ := pop_eq h
  exact ⟨(f_Mod_pop t).1, (f_Pro_pop c).2, (f_Mod_pop t).2, Prod.ext e1 (Eq.refl _), Prod.ext (Eq.refl _) (Eq.refl _), e2, e3, p_Pro_pop (P := fun z => z 14 = c 14) (WP_cell (R := fun m => m = c 14) (Eq.refl _)) (Eq.refl _), p_Mod_pop (P := TK t) (WP_tk (Eq.refl _)) TK.rfl, p_Mod_pop (P := fun z => z 18 = t 18) (WP_cell (R := fun m => m = t 18) (Eq.refl _)) (Eq.refl _)⟩
theorem push {c t : Sg} (h : RR c t) (v : Int32) : ST c t (f_Pro_push c v) (f_Mod_push t v) :=
  ⟨push_eq h v, p_Pro_push (P := fun z => z 14 = c 14) (WP_cell (R := fun m => m = c 14) (Eq.refl _)) (Eq.refl _), p_Mod_push (P := TK t) (WP_tk (Eq.refl _)) TK.rfl, p_Mod_push (P := fun z => z 18 = t 18) (WP_cell (R := fun m => m = t 18) (Eq.refl _)) (Eq.refl _)⟩
theorem sreg {c t : Sg} (h : RR c t) {k : Int32} (hk : vp_in k 8) (v w : Int32) : ST c t (f_Reg_change c k w v) (f_Mod_setRegister t k v w) :=
  ⟨sr_eq h hk v w, p_Reg_change (P := fun z => z 14 = c 14) (WP_cell (R := fun m => m = c 14) (Eq.refl _)) (Eq.refl _), p_Mod_setRegister (P := TK t) (WP_tk (Eq.refl _)) TK.rfl, p_Mod_setRegister (P := fun z => z 18 = t 18) (WP_cell (R := fun m => m = t 18) (Eq.refl _)) (Eq.refl _)⟩
theorem smem {c t : Sg} (h : RR c t) (s o v w : Int32) : ST c t (f_Mem_store c s o w v) (f_Mod_set t s o v w) :=
  ⟨set_eq h s o v w, p_Mem_store (P := fun z => z 14 = c 14) (WP_cell (R := fun m => m = c 14) (Eq.refl _)) (Eq.refl _), p_Mod_set (P := TK t) (WP_tk (Eq.refl _)) TK.rfl, p_Mod_set (P := fun z => z 18 = t 18) (WP_cell (R := fun m => m = t 18) (Eq.refl _)) (Eq.refl _)⟩
theorem ffs {c t : Sg} (h : RR c t) {x : Int32} (hx : x &&& 3777 = x) : ST c t (up2 c 6 0 x) (up2 t 15 4 x) :=
  ⟨h.up 1 (Eq.refl _) hx, up2_ne _ _ _ (by decide), fun k h1 h2 => up2_get (fun e => by omega), up2_ne _ _ _ (by decide)⟩
theorem swor {c t : Sg} (h : RR c t) (j : Nat) {v : Int32} (hv : rng 3 v) : ST c t (up2 c 4 j v) (up2 t 17 j v) :=
  ⟨h.wor j hv, up2_ne _ _ _ (by decide), fun k h1 h2 => by rw [up2_ne _ _ _ (by decide)], up2_ne _ _ _ (by decide)⟩
theorem sip {c t : Sg} (h : RR c t) {v : Int32} (hv : rng 3 v) : ST c t (up2 c 3 2 v) (up2 t 15 3 v) :=
  ⟨h.up 0 (Eq.refl _) hv, up2_ne _ _ _ (by decide), fun k h1 h2 => up2_get (fun e => by omega), up2_ne _ _ _ (by decide)⟩
theorem greg {c t : Sg} (h : RR c t) {k : Int32} (hk : vp_in k 8) (w : Int32) : ∃ v, f_Reg_value c k w = (v, c) ∧ f_Mod_getRegister t k w = (v, t) ∧ VW w v := gr_eq h hk w
theorem v8_0 : vp_in (0 : Int32) 8 := vin (Eq.refl _)
/-! the operand e -/
theorem val {w : Int32} {c t : Sg} (h : RR c t) (m : ME w c t) : ∃ v, f_Dec_value c = (v, c) ∧ f_Mod_getE t w = (v, t) ∧ VW w v := by
  obtain ⟨-, m2, m3⟩ := m
  unfold f_Dec_value f_Mod_getE
  rcases m3 with ⟨m3, m4, m5⟩ | ⟨m3, m4, m5, -, m6⟩
  · have hn : ¬ t 15 13 < 0 := fun z => m5 (Or.inl z)
    obtain ⟨v, g1, g2, g3⟩ := greg h m5 w
    rw [if_pos m3, if_neg hn, m4, m2]
    refine ⟨v, ?_, ?_, g3⟩
    · rw [g1]; rfl
    · rw [g2]; rfl
  · have hn : t 15 13 < 0 := by rw [m4]; decide
    obtain ⟨v, g1, g2, g3⟩ := get_eq h (t 18 (Int32.toNatClampNeg (t 15 15))) (t 15 14) w
    rw [if_neg (by rw [m3]; decide), if_pos hn, m5, m6, m2]
    refine ⟨v, ?_, ?_, g3⟩
    · rw [g1]; rfl
    · rw [g2]; rfl
theorem chg {w : Int32} {c t : Sg} (h : RR c t) (m : ME w c t) (v : Int32) : ST c t (f_Dec_change c v) (f_Mod_setE t v w) := by
  refine ⟨?_, p_Dec_change (P := fun z => z 14 = c 14) (WP_cell (R := fun m => m = c 14) (Eq.refl _)) (Eq.refl _), p_Mod_setE (P := TK t) (WP_tk (Eq.refl _)) TK.rfl, p_Mod_setE (P := fun z => z 18 = t 18) (WP_cell (R := fun m => m = t 18) (Eq.refl _)) (Eq.refl _)⟩
  obtain ⟨-, m2, m3⟩ := m
  unfold f_Dec_change f_Mod_setE
  rcases m3 with ⟨m3, m4, m5⟩ | ⟨m3, m4, m5, -, m6⟩
  · have hn : ¬ t 15 13 < 0 := fun z => m5 (Or.inl z)
    rw [if_pos m3, if_neg hn, m4, m2]
    exact sr_eq h m5 v w
  · have hn : t 15 13 < 0 := by rw [m4]; decide
    rw [if_neg (by rw [m3]; decide), if_pos hn, m5, m6, m2]
    exact set_eq h _ _ v w
/-! a value written back -/
theorem lo_hi {n : Nat} (h : n < 65536) : (n &&& 65280) ||| (n % 256) = n ∧ (n % 256) ||| (n / 256 * 256) = n := by
  have e : n % 256 ||| (n / 256 * 256) = n := by
    rw [or_mul (k := 8) (Nat.mod_lt _ (by decide))]
    omega
  refine ⟨?_, e⟩
  have e2 : n &&& 65280 = n / 256 * 256 := by
    have q1 : (n &&& 65280) % 2 ^ 8 = 0 := by
      rw [Nat.and_mod_two_pow]
      show n % 2 ^ 8 &&& 0 = 0
      rw [Nat.and_zero]
    have q2 : (n &&& 65280) / 2 ^ 8 = n / 2 ^ 8 := by
      rw [Nat.and_div_two_pow]
      show n / 2 ^ 8 &&& (2 ^ 8 - 1) = n / 2 ^ 8
      rw [Nat.and_two_pow_sub_one_eq_mod]
      omega
    omega
  rw [e2, Nat.or_comm, e]
theorem back_reg {c t : Sg} (h : RR c t) {k w v : Int32} (e : f_Reg_value c k w = (v, c)) : f_Reg_change c k w v = c := by
  have ev : (f_Reg_value c k w).1 = v := by rw [e]
  subst ev
  unfold f_Reg_value f_Reg_change
  by_cases hw : w = 0
  · rw [if_pos hw, if_pos hw]
    obtain ⟨a1, a2⟩ := h.2.1.2.1 (Int32.toNatClampNeg (k &&& 3))
    rw [← a1] at a2
    obtain ⟨n, hn, en⟩ := rng_nI3 a2
    by_cases h4 : 4 ≤ k
    · rw [if_pos h4, if_pos h4]
      simp only [bnd, en]
      rw [pk_andN (by omega) 8 (Eq.refl _), pk_shrN (by omega) ((8 : Int32) &&& 31) 8 (Eq.refl _), pk_andN (by omega) 8 (Eq.refl _), pk_shlN ((8 : Int32) &&& 31) 8 (Eq.refl _) (by omega), nI_or]
      have q : n % 2 ^ 8 ||| (n / 2 ^ 8 % 2 ^ 8) * 2 ^ 8 = n := by
        have := (lo_hi hn).2
        have q2 : n / 2 ^ 8 % 2 ^ 8 = n / 256 := by omega
        rw [q2]
        exact this
      rw [q, ← en, up2_self]
    · rw [if_neg h4, if_neg h4]
      simp only [bnd, en]
      rw [pk_andN (m := 255) (by omega) 8 (Eq.refl _), pk_andN (m := 255) (by omega) 8 (Eq.refl _), show (65280 : Int32) = nI 65280 from Eq.refl _, nI_and, nI_or]
      have q : (n &&& 65280) ||| n % 2 ^ 8 % 2 ^ 8 = n := by
        have := (lo_hi hn).1
        have q2 : n % 2 ^ 8 % 2 ^ 8 = n % 256 := by omega
        rw [q2]
        exact this
      rw [q, ← en, up2_self]
  · rw [if_neg hw, if_neg hw]
    obtain ⟨a1, a2⟩ := h.2.1.2.1 (Int32.toNatClampNeg (k &&& 7))
    rw [← a1] at a2
    obtain ⟨n, hn, en⟩ := rng_nI3 a2
    simp only [bnd, en]
    rw [pk_andN (by omega) 16 (Eq.refl _), Nat.mod_eq_of_lt hn, ← en, up2_self]
theorem back_mem {c t : Sg} (h : RR c t) {s o w v : Int32} (e : f_Mem_fetch c s o w = (v, c)) : f_Mem_store c s o w v = c := by
  obtain ⟨a1, a2⟩ := h.2.1.1 (adr s o)
  rw [← a1] at a2
  obtain ⟨i, hi, ei⟩ := rng_nI a2
  by_cases hw : w = 0
  · subst hw
    rw [fB] at e
    have ev : c 2 (adr s o) = v := congrArg Prod.fst e
    subst ev
    simp only [f_Mem_store, bnd, if_pos]
    show up2 c 2 (adr s o) (c 2 (adr s o) &&& 255) = c
    rw [ei, pk_andN (by omega) 8 (Eq.refl _), Nat.mod_eq_of_lt hi, ← ei, up2_self]
  · obtain ⟨b1, b2⟩ := h.2.1.1 (adr1 s o)
    rw [← b1] at b2
    obtain ⟨j, hj, ej⟩ := rng_nI b2
    rw [(fW h s o hw).1, ← a1, ← b1, ei, ej, show (256 : Int32) = nI 256 from Eq.refl _, pk_mul, nI_add] at e
    have ev : nI (i + 256 * j) = v := congrArg Prod.fst e
    subst ev
    simp only [f_Mem_store, bnd, if_neg hw]
    show up2 (up2 c 2 (adr s o) (nI (i + 256 * j) &&& 255)) 2 (adr1 s o) ((nI (i + 256 * j) >>> ((8 : Int32) &&& 31)) &&& 255) = c
    rw [pk_andN (by omega) 8 (Eq.refl _), pk_shrN (by omega) ((8 : Int32) &&& 31) 8 (Eq.refl _), pk_andN (by omega) 8 (Eq.refl _)]
    have q1 : (i + 256 * j) % 2 ^ 8 = i := by omega
    have q2 : (i + 256 * j) / 2 ^ 8 % 2 ^ 8 = j := by omega
    rw [q1, q2, ← ei, up2_self, ← ej, up2_self]
theorem back {w v : Int32} {c t : Sg} (h : RR c t) (e : f_Dec_value c = (v, c)) : f_Dec_change c v = c := by
  unfold f_Dec_value at e
  unfold f_Dec_change
  by_cases h7 : c 14 7 = 0
  · rw [if_pos h7] at e ⊢
    exact back_reg h e
  · rw [if_neg h7] at e ⊢
    exact back_mem h e
