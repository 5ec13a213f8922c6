/-! INSTRUCTIONS side by side, the first -/
theorem bnd_q {α β : Type} (x : α) (k : α → β) : bnd x k = k x := by rw [bnd]
theorem fin {c t c2 t2 : Sg} (b : BG c t) (s : ST c t c2 t2) : Ans (1, c2) t2 := ans1 s.1 (by rw [s.2.2.1 16 (by decide) (by decide)]; exact b.2.2.2)
theorem reg_fl {c : Sg} {k w v : Int32} (x : Int32) (e : f_Reg_value c k w = (v, c)) : f_Reg_value (up2 c 6 0 x) k w = (v, up2 c 6 0 x) := by
  have e1 : (f_Reg_value (up2 c 6 0 x) k w).1 = (f_Reg_value c k w).1 := by
    unfold f_Reg_value
    split
    · split <;> rfl
    · rfl
  have e2 : (f_Reg_value (up2 c 6 0 x) k w).2 = up2 c 6 0 x := by
    unfold f_Reg_value
    split
    · split <;> rfl
    · rfl
  rw [e] at e1
  exact Prod.ext e1 e2
theorem fet_fl {c : Sg} {s o w v : Int32} (x : Int32) (e : f_Mem_fetch c s o w = (v, c)) : f_Mem_fetch (up2 c 6 0 x) s o w = (v, up2 c 6 0 x) := by
  have e1 : (f_Mem_fetch (up2 c 6 0 x) s o w).1 = (f_Mem_fetch c s o w).1 := by
    unfold f_Mem_fetch
    split <;> rfl
  have e2 : (f_Mem_fetch (up2 c 6 0 x) s o w).2 = up2 c 6 0 x := by
    unfold f_Mem_fetch
    split <;> rfl
  rw [e] at e1
  exact Prod.ext e1 e2
theorem val_fl {c : Sg} {v : Int32} (x : Int32) (e : f_Dec_value c = (v, c)) : f_Dec_value (up2 c 6 0 x) = (v, up2 c 6 0 x) := by
  unfold f_Dec_value at e ⊢
  rw [show up2 c 6 0 x 14 = c 14 from up2_ne _ _ _ (by decide)]
  by_cases h0 : c 14 7 = 0
  · rw [if_pos h0] at e ⊢
    exact reg_fl x e
  · rw [if_neg h0] at e ⊢
    exact fet_fl x e
/-- what a combination gives goes to the operand; a comparison gives it back as it was -/
theorem putE {w k a g : Int32} {c t : Sg} (h : RR c t) (b : BG c t) (m : ME w c t) (ea : f_Dec_value c = (a, c)) (ha : VW w a) (hg : VW w g) : Ans (1, f_Dec_change (f_Fla_combine c k a g w).2 (f_Fla_combine c k a g w).1) (if k = 7 then (f_Mod_combine t k a g w).2 else f_Mod_setE (f_Mod_combine t k a g w).2 (f_Mod_combine t k a g w).1 w) := by
  obtain ⟨u, x, e1, e2, hx, hu⟩ := ff_combine h k ha hg
  have e7 : k = 7 → u = a := fun q => by
    have z := comb7 c a g w
    rw [q] at e1
    rw [e1] at z
    exact z
  rw [e1, e2]
  have s1 := ffs h hx
  by_cases h7 : k = 7
  · rw [if_pos h7, e7 h7]
    show Ans (1, f_Dec_change (up2 c 6 0 x) a) (up2 t 15 4 x)
    rw [back (w := w) s1.1 (val_fl x ea)]
    exact fin b s1
  · rw [if_neg h7]
    exact fin b (s1.tr (chg s1.1 (m.st s1) u))
theorem putR {w k a g r : Int32} {c t : Sg} (h : RR c t) (b : BG c t) (hr : vp_in r 8) (ea : f_Reg_value c r w = (a, c)) (ha : VW w a) (hg : VW w g) : Ans (1, f_Reg_change (f_Fla_combine c k a g w).2 r w (f_Fla_combine c k a g w).1) (if k = 7 then (f_Mod_combine t k a g w).2 else f_Mod_setRegister (f_Mod_combine t k a g w).2 r (f_Mod_combine t k a g w).1 w) := by
  obtain ⟨u, x, e1, e2, hx, hu⟩ := ff_combine h k ha hg
  have e7 : k = 7 → u = a := fun q => by
    have z := comb7 c a g w
    rw [q] at e1
    rw [e1] at z
    exact z
  rw [e1, e2]
  have s1 := ffs h hx
  by_cases h7 : k = 7
  · rw [if_pos h7, e7 h7]
    show Ans (1, f_Reg_change (up2 c 6 0 x) r w a) (up2 t 15 4 x)
    rw [back_reg s1.1 (reg_fl x ea)]
    exact fin b s1
  · rw [if_neg h7]
    exact fin b (s1.tr (sreg s1.1 hr u w))
theorem putA {w k a g : Int32} {c t : Sg} (h : RR c t) (b : BG c t) (ha : VW w a) (hg : VW w g) : Ans (1, f_Reg_change (f_Fla_combine c k a g w).2 0 w (f_Fla_combine c k a g w).1) (f_Mod_setRegister (f_Mod_combine t k a g w).2 0 (f_Mod_combine t k a g w).1 w) := by
  obtain ⟨u, x, e1, e2, hx, hu⟩ := ff_combine h k ha hg
  rw [e1, e2]
  have s1 := ffs h hx
  exact fin b (s1.tr (sreg s1.1 v8_0 u w))
theorem mcomb12 (t : Sg) (k a g w : Int32) : (f_Mod_combine t k a g w).2 15 12 = t 15 12 := p_Mod_combine (P := fun z => z 15 12 = t 15 12) (WP_at (R := fun z => z = t 15 12) rfl) rfl
theorem comb16 {c t : Sg} (h : RR c t) (b : BG c t) (a x3 k w : Int32) (e4 : a &&& 4 = 0 ↔ x3 < 4) (e2 : x3 < 4 → (a &&& 2 = 0 ↔ ¬ 2 ≤ x3)) : Ans (f_Pro_combine_16 c a k w) (f_Mod_combinations_21 t k x3 w) := by
  unfold f_Pro_combine_16 f_Mod_combinations_21
  by_cases h4 : a &&& 4 = 0
  · have e2 := e2 (e4.mp h4)
    rw [if_pos h4, if_pos (e4.mp h4)]
    obtain ⟨h1, b1, m1⟩ := rm_eq h b w
    generalize f_Dec_readModrm c w = c1 at *
    generalize f_Mod_readModrm t = t1 at *
    obtain ⟨v, ev1, ev2, hv⟩ := val h1 m1
    obtain ⟨g, eg1, eg2, hg⟩ := greg h1 m1.1.2 w
    simp only [bnd_q, ev1, ev2, m1.1.1, eg1, eg2]
    by_cases h2 : a &&& 2 = 0
    · rw [if_pos h2, if_neg (e2.mp h2)]
      have z := putE (k := k) h1 b1 m1 ev1 hv hg
      unfold f_Mod_combinations_118
      rw [if_neg (e2.mp h2)]
      exact z
    · have h2' : 2 ≤ x3 := Decidable.byContradiction fun q => h2 (e2.mpr q)
      rw [if_neg h2, if_pos h2']
      have z := putR (k := k) h1 b1 m1.1.2 eg1 hg hv
      unfold f_Mod_combinations_118
      rw [if_pos h2', mcomb12]
      exact z
  · rw [if_neg h4, if_neg (fun q => h4 (e4.mpr q))]
    obtain ⟨v, c2, t2, i1, i2, hv, s1⟩ := im h w
    obtain ⟨g, eg1, eg2, hg⟩ := greg s1.1 v8_0 w
    simp only [bnd_q, i1, i2, eg1, eg2]
    exact putA s1.1 (b.st s1) hg hv
theorem cg65 {w y : Int32} {c t : Sg} (h : RR c t) (b : BG c t) (m : ME w c t) (hy : VW w y) : Ans (f_Pro_combineGiven_65 c w y) (f_Mod_withImmediate_39 t w y) := by
  unfold f_Pro_combineGiven_65 f_Mod_withImmediate_39
  obtain ⟨v, ev1, ev2, hv⟩ := val h m
  simp only [bnd_q, ev1, ev2, m.1.1, mcomb12]
  exact putE h b m ev1 hv hy
theorem cg28 {c t : Sg} (h : RR c t) (b : BG c t) {a w : Int32} (ha : ¬ a = 131) : Ans (f_Pro_combineGiven_28 c a w) (f_Mod_withImmediate_12 t a w) := by
  unfold f_Pro_combineGiven_28 f_Mod_withImmediate_12
  obtain ⟨h1, b1, m1⟩ := rm_eq h b w
  generalize f_Dec_readModrm c w = c1 at *
  generalize f_Mod_readModrm t = t1 at *
  simp only [bnd_q]
  rw [if_neg ha, if_neg ha]
  obtain ⟨v, c2, t2, i1, i2, hv, s1⟩ := im h1 w
  simp only [i1, i2]
  exact cg65 s1.1 (b1.st s1) (m1.st s1) hv
theorem cg131 {c t : Sg} (h : RR c t) (b : BG c t) : Ans (f_Pro_combineGiven_28 c 131 1) (f_Mod_withImmediate_12 t 131 1) := by
  unfold f_Pro_combineGiven_28 f_Mod_withImmediate_12
  obtain ⟨h1, b1, m1⟩ := rm_eq h b 1
  generalize f_Dec_readModrm c 1 = c1 at *
  generalize f_Mod_readModrm t = t1 at *
  simp only [bnd_q]
  rw [if_pos trivial]
  obtain ⟨v, c2, t2, i1, i2, s1⟩ := ns h1
  simp only [i1, i2]
  exact cg65 s1.1 (b1.st s1) (m1.st s1) ⟨rng3_and _, fun z => absurd z (by decide)⟩
/-- the stack -/
theorem pseg {c t : Sg} (h : RR c t) (b : BG c t) (j : Nat) : Ans (1, f_Pro_push c (c 5 j)) (f_Mod_push t (t 18 j)) := by
  rw [(h.2.1.2.2 j).1]
  exact fin b (push h _)
theorem pwor {c t : Sg} (h : RR c t) (b : BG c t) (j : Nat) : Ans (1, f_Pro_push c (c 4 j)) (f_Mod_push t (t 17 j)) := by
  rw [(h.2.1.2.1 j).1]
  exact fin b (push h _)
theorem rwor {c t : Sg} (h : RR c t) (b : BG c t) (j : Nat) : Ans (1, up2 (f_Pro_pop c).2 4 j (f_Pro_pop c).1) (up2 (f_Mod_pop t).2 17 j (f_Mod_pop t).1) := by
  obtain ⟨v, c2, t2, e1, e2, hv, s⟩ := pop h
  rw [e1, e2]
  exact fin b (s.tr (swor s.1 j hv))
theorem rseg {c t : Sg} (h : RR c t) (b : BG c t) (j : Nat) {y : Int32} (hy : y = 0 ∨ y = 1) : Ans (1, up2 (up2 (f_Pro_pop c).2 5 j (f_Pro_pop c).1) 12 8 y) (up2 (up2 (f_Mod_pop t).2 18 j (f_Mod_pop t).1) 15 6 y) := by
  obtain ⟨v, c2, t2, e1, e2, hv, s⟩ := pop h
  rw [e1, e2]
  refine ans1 ((s.1.seg j hv).up 3 rfl hy) ?_
  show t2 15 16 = 0
  rw [s.2.2.1 16 (by decide) (by decide)]
  exact b.2.2.2
theorem cmore {c t : Sg} (h : RR c t) (b : BG c t) (j : Nat) : Ans (1, up2 (f_Fla_oneMore c (c 4 j) 1).2 4 j (f_Fla_oneMore c (c 4 j) 1).1) (up2 (f_Mod_byOne t (t 17 j) 0 1).2 17 j (f_Mod_byOne t (t 17 j) 0 1).1) := by
  obtain ⟨e, r⟩ := h.2.1.2.1 j
  obtain ⟨u, x, e1, e2, hx, hu⟩ := ff_more (w := 1) (a := t 17 j) h ⟨r, fun z => absurd z (by decide)⟩
  rw [e, e1, e2]
  have s1 := ffs h hx
  exact fin b (s1.tr (swor s1.1 j hu.1))
theorem cless {c t : Sg} (h : RR c t) (b : BG c t) (j : Nat) : Ans (1, up2 (f_Fla_oneLess c (c 4 j) 1).2 4 j (f_Fla_oneLess c (c 4 j) 1).1) (up2 (f_Mod_byOne t (t 17 j) 1 1).2 17 j (f_Mod_byOne t (t 17 j) 1 1).1) := by
  obtain ⟨e, r⟩ := h.2.1.2.1 j
  obtain ⟨u, x, e1, e2, hx, hu⟩ := ff_one (w := 1) (a := t 17 j) (y := 1) h (by decide) ⟨r, fun z => absurd z (by decide)⟩
  rw [e, e1, e2]
  have s1 := ffs h hx
  exact fin b (s1.tr (swor s1.1 j hu.1))
/-- moves -/
theorem mvE {w : Int32} {c t : Sg} (z : RBM w c t) : Ans (1, f_Dec_change (f_Reg_value c (c 14 5) w).2 (f_Reg_value c (c 14 5) w).1) (f_Mod_setE (f_Mod_getRegister (up2 t 15 16 0) (up2 t 15 16 0 15 12) w).2 (f_Mod_getRegister (up2 t 15 16 0) (up2 t 15 16 0 15 12) w).1 w) := by
  obtain ⟨h, b, m⟩ := z
  have h := h.unk 0
  have b := b.unk
  have m := m.unk
  generalize up2 t 15 16 0 = t1 at *
  obtain ⟨g, eg1, eg2, hg⟩ := greg h m.1.2 w
  rw [m.1.1, eg1, eg2]
  exact fin b (chg h m g)
theorem mvR {w : Int32} {c t : Sg} (z : RBM w c t) : Ans (1, f_Reg_change (f_Dec_value c).2 (c 14 5) w (f_Dec_value c).1) (f_Mod_setRegister (f_Mod_getE (up2 t 15 16 0) w).2 (up2 t 15 16 0 15 12) (f_Mod_getE (up2 t 15 16 0) w).1 w) := by
  obtain ⟨h, b, m⟩ := z
  have h := h.unk 0
  have b := b.unk
  have m := m.unk
  generalize up2 t 15 16 0 = t1 at *
  obtain ⟨g, eg1, eg2, hg⟩ := val h m
  rw [m.1.1, eg1, eg2]
  exact fin b (sreg h m.1.2 g w)
theorem mv140 {c t : Sg} (z : RBM 1 c t) : Ans (1, f_Dec_change c (c 5 (Int32.toNatClampNeg ((c 14 5) &&& 3)))) (f_Mod_setE (up2 t 15 16 0) (up2 t 15 16 0 18 (Int32.toNatClampNeg ((t 15 12) &&& 3))) 1) := by
  obtain ⟨h, b, m⟩ := z
  have e : t 15 12 = up2 t 15 16 0 15 12 := rfl
  rw [e]
  have h := h.unk 0
  have b := b.unk
  have m := m.unk
  generalize up2 t 15 16 0 = t1 at *
  rw [m.1.1, (h.2.1.2.2 _).1]
  exact fin b (chg h m _)
theorem mv142 {c t : Sg} (z : RBM 1 c t) (j : Nat) {y : Int32} (hy : y = 0 ∨ y = 1) : Ans (1, up2 (up2 (f_Dec_value c).2 5 j (f_Dec_value c).1) 12 8 y) (up2 (up2 (f_Mod_getE (up2 t 15 16 0) 1).2 18 j (f_Mod_getE (up2 t 15 16 0) 1).1) 15 6 y) := by
  obtain ⟨h, b, m⟩ := z
  have h := h.unk 0
  have b := b.unk
  have m := m.unk
  generalize up2 t 15 16 0 = t1 at *
  obtain ⟨g, eg1, eg2, hg⟩ := val h m
  rw [eg1, eg2]
  exact ans1 ((h.seg j hg.1).up 3 rfl hy) b.2.2.2
theorem mg {c t : Sg} (h : RR c t) (b : BG c t) {k : Int32} (hk : vp_in k 8) (w : Int32) : Ans (1, f_Reg_change (f_Dec_nextOf c w).2 k w (f_Dec_nextOf c w).1) (f_Mod_setRegister (f_Mod_immediate t w).2 k (f_Mod_immediate t w).1 w) := by
  obtain ⟨v, c2, t2, i1, i2, hv, s1⟩ := im h w
  rw [i1, i2]
  exact fin b (s1.tr (sreg s1.1 hk v w))
