/-! ONE OPERAND side by side -/
theorem ones1 (t : Sg) (x w : Int32) : f_Mod_ones_71 t x w 1 = up2 t 15 16 1 := by
  rw [f_Mod_ones_71, bnd_q, if_neg (by rw [up2_put]; decide)]
theorem ones0 (t : Sg) (x w v : Int32) (ev : f_Mod_getE (up2 t 15 16 0) w = (v, up2 t 15 16 0)) : f_Mod_ones_71 t x w 0 = (if x ≤ 250 then (if up2 t 15 16 0 15 12 = 2 then f_Mod_setE (up2 t 15 16 0) (v ^^^ -1) w else (if up2 t 15 16 0 15 12 = 3 then f_Mod_setE (f_Mod_less (up2 t 15 16 0) 0 v 0 w).2 (f_Mod_less (up2 t 15 16 0) 0 v 0 w).1 w else (if up2 t 15 16 0 15 12 = 4 then f_Mod_multiply (up2 t 15 16 0) w else f_Mod_divide (up2 t 15 16 0) w))) else (if up2 t 15 16 0 15 12 = 1 then f_Mod_ones_111 (up2 t 15 16 0) w 1 v else f_Mod_ones_111 (up2 t 15 16 0) w 0 v)) := by
  rw [f_Mod_ones_71, bnd_q, if_pos up2_put, ev, bnd_q]
  simp only [bnd_q]
theorem uNot {w v : Int32} {c t : Sg} (h : RR c t) (b : BG c t) (m : ME w c t) : Ans (1, f_Dec_change c (v ^^^ -1)) (f_Mod_setE t (v ^^^ -1) w) := fin b (chg h m _)
theorem uNeg {w v : Int32} {c t : Sg} (h : RR c t) (b : BG c t) (m : ME w c t) (hv : VW w v) : Ans (1, f_Dec_change (f_Fla_difference c 0 v 0 w).2 (f_Fla_difference c 0 v 0 w).1) (f_Mod_setE (f_Mod_less t 0 v 0 w).2 (f_Mod_less t 0 v 0 w).1 w) := by
  obtain ⟨u, x, e1, e2, hx, hu⟩ := ff_diff (k := 0) h (VW_0 w) hv (Or.inl rfl)
  rw [e1, e2]
  have s1 := ffs h hx
  exact fin b (s1.tr (chg s1.1 (m.st s1) u))
theorem uInc {w v : Int32} {c t : Sg} (h : RR c t) (b : BG c t) (m : ME w c t) (hv : VW w v) : Ans (f_Pro_countOperand_64 (f_Fla_oneMore c v w).2 (f_Fla_oneMore c v w).1) (f_Mod_ones_111 t w 0 v) := by
  rw [f_Pro_countOperand_64, f_Mod_ones_111, bnd_q, bnd_q, bnd_q]
  obtain ⟨u, x, e1, e2, hx, hu⟩ := ff_more h hv
  rw [e1, e2]
  have s1 := ffs h hx
  exact fin b (s1.tr (chg s1.1 (m.st s1) u))
theorem uDec {w v : Int32} {c t : Sg} (h : RR c t) (b : BG c t) (m : ME w c t) (hv : VW w v) : Ans (f_Pro_countOperand_64 (f_Fla_oneLess c v w).2 (f_Fla_oneLess c v w).1) (f_Mod_ones_111 t w 1 v) := by
  rw [f_Pro_countOperand_64, f_Mod_ones_111, bnd_q, bnd_q, bnd_q]
  obtain ⟨u, x, e1, e2, hx, hu⟩ := ff_one (y := 1) h (by decide) hv
  rw [e1, e2]
  have s1 := ffs h hx
  exact fin b (s1.tr (chg s1.1 (m.st s1) u))
theorem uMul {w v : Int32} {c t : Sg} (h : RR c t) (b : BG c t) (hw : w = 0 ∨ w = 1) (ev : f_Mod_getE t w = (v, t)) (hv : VW w v) : Ans (1, f_Pro_multiply c v w) (f_Mod_multiply t w) := by
  rcases hw with rfl | rfl
  · exact mul8 h b ev (hv.2 rfl)
  · exact mul16 h b ev hv.1
theorem uDiv {w v : Int32} {c t : Sg} (h : RR c t) (b : BG c t) (hw : w = 0 ∨ w = 1) (ev : f_Mod_getE t w = (v, t)) (hv : VW w v) : Ans (if (f_Pro_divide c v w).1 = 0 then (1, f_Pro_interrupt (f_Pro_divide c v w).2 0) else (1, (f_Pro_divide c v w).2)) (f_Mod_divide t w) := by
  rcases hw with rfl | rfl
  · exact div8 h b ev (hv.2 rfl)
  · exact div16 h b ev hv.1
theorem un35 {c t : Sg} (h : RR c t) (b : BG c t) {x w : Int32} (hx : ¬ 250 ≤ x) (hx2 : x ≤ 250) (hw : w = 0 ∨ w = 1) : Ans (f_Pro_haltOrUnary_35 c w) (f_Mod_ones_12 t x w) := by
  rw [f_Pro_haltOrUnary_35, f_Mod_ones_12]
  obtain ⟨h1, b1, m1⟩ := rm_eq h b w
  generalize f_Dec_readModrm c w = c1 at *
  generalize f_Mod_readModrm t = t1 at *
  have h2 := h1.unk 0
  have b2 := b1.unk
  have m2 := m1.unk
  obtain ⟨v, ev1, ev2, hv⟩ := val h2 m2
  have k2 : up2 t1 15 16 0 15 12 = t1 15 12 := rfl
  simp only [bnd_q, ev1]
  rw [if_neg hx, m1.1.1]
  unfold f_Mod_ones_50
  rw [ones1, ones0 _ _ _ _ ev2, if_pos hx2, k2]
  have z := ans0 h1 b1
  rcases v8_cases m1.1.2 with e | e | e | e | e | e | e | e
  · rw [e]
    rw [if_neg (show ¬ (0 : Int32) = 2 by decide), if_neg (show ¬ (0 : Int32) = 3 by decide), if_neg (show ¬ (0 : Int32) = 4 by decide), if_neg (show ¬ (0 : Int32) = 5 by decide), if_neg (show ¬ (0 : Int32) = 6 by decide), if_pos (show (0 : Int32) < 2 by decide)]
    exact z
  · rw [e]
    rw [if_neg (show ¬ (1 : Int32) = 2 by decide), if_neg (show ¬ (1 : Int32) = 3 by decide), if_neg (show ¬ (1 : Int32) = 4 by decide), if_neg (show ¬ (1 : Int32) = 5 by decide), if_neg (show ¬ (1 : Int32) = 6 by decide), if_pos (show (1 : Int32) < 2 by decide)]
    exact z
  · rw [e]
    rw [if_pos rfl, if_neg (show ¬ (2 : Int32) < 2 by decide), if_neg (show ¬ (2 : Int32) = 5 by decide), if_neg (show ¬ (2 : Int32) = 7 by decide), if_pos rfl]
    exact uNot h2 b2 m2
  · rw [e]
    rw [if_neg (show ¬ (3 : Int32) = 2 by decide), if_pos rfl, if_neg (show ¬ (3 : Int32) < 2 by decide), if_neg (show ¬ (3 : Int32) = 5 by decide), if_neg (show ¬ (3 : Int32) = 7 by decide), if_neg (show ¬ (3 : Int32) = 2 by decide), if_pos rfl]
    exact uNeg h2 b2 m2 hv
  · rw [e]
    rw [if_neg (show ¬ (4 : Int32) = 2 by decide), if_neg (show ¬ (4 : Int32) = 3 by decide), if_pos rfl, if_neg (show ¬ (4 : Int32) < 2 by decide), if_neg (show ¬ (4 : Int32) = 5 by decide), if_neg (show ¬ (4 : Int32) = 7 by decide), if_neg (show ¬ (4 : Int32) = 2 by decide), if_neg (show ¬ (4 : Int32) = 3 by decide), if_pos rfl]
    exact uMul h2 b2 hw ev2 hv
  · rw [e]
    rw [if_neg (show ¬ (5 : Int32) = 2 by decide), if_neg (show ¬ (5 : Int32) = 3 by decide), if_neg (show ¬ (5 : Int32) = 4 by decide), if_pos rfl, if_neg (show ¬ (5 : Int32) < 2 by decide), if_pos rfl]
    exact z
  · rw [e]
    rw [if_neg (show ¬ (6 : Int32) = 2 by decide), if_neg (show ¬ (6 : Int32) = 3 by decide), if_neg (show ¬ (6 : Int32) = 4 by decide), if_neg (show ¬ (6 : Int32) = 5 by decide), if_pos rfl, if_neg (show ¬ (6 : Int32) < 2 by decide), if_neg (show ¬ (6 : Int32) = 5 by decide), if_neg (show ¬ (6 : Int32) = 7 by decide), if_neg (show ¬ (6 : Int32) = 2 by decide), if_neg (show ¬ (6 : Int32) = 3 by decide), if_neg (show ¬ (6 : Int32) = 4 by decide)]
    exact uDiv h2 b2 hw ev2 hv
  · rw [e]
    rw [if_neg (show ¬ (7 : Int32) = 2 by decide), if_neg (show ¬ (7 : Int32) = 3 by decide), if_neg (show ¬ (7 : Int32) = 4 by decide), if_neg (show ¬ (7 : Int32) = 5 by decide), if_neg (show ¬ (7 : Int32) = 6 by decide), if_neg (show ¬ (7 : Int32) < 2 by decide), if_neg (show ¬ (7 : Int32) = 5 by decide), if_pos rfl]
    exact z
theorem cop {c t : Sg} (h : RR c t) (b : BG c t) {x w : Int32} (hx : 250 ≤ x) (hx2 : ¬ x ≤ 250) : Ans (f_Pro_countOperand c w) (f_Mod_ones_12 t x w) := by
  rw [f_Pro_countOperand, f_Mod_ones_12]
  obtain ⟨h1, b1, m1⟩ := rm_eq h b w
  generalize f_Dec_readModrm c w = c1 at *
  generalize f_Mod_readModrm t = t1 at *
  have h2 := h1.unk 0
  have b2 := b1.unk
  have m2 := m1.unk
  obtain ⟨v, ev1, ev2, hv⟩ := val h2 m2
  have k2 : up2 t1 15 16 0 15 12 = t1 15 12 := rfl
  simp only [bnd_q, ev1]
  rw [if_pos hx, m1.1.1, ones1, ones0 _ _ _ _ ev2, if_neg hx2, k2]
  by_cases h3 : t1 15 12 ≤ 1
  · rw [if_pos h3, if_pos h3]
    by_cases h4 : t1 15 12 = 0
    · rw [if_pos h4, h4, if_neg (show ¬ (0 : Int32) = 1 by decide)]
      exact uInc h2 b2 m2 hv
    · have h5 : t1 15 12 = 1 := by
        rcases v8_cases m1.1.2 with e | e | e | e | e | e | e | e
        · exact absurd e h4
        · exact e
        all_goals exact absurd h3 (by rw [e]; decide)
      rw [if_neg h4, if_pos h5]
      exact uDec h2 b2 m2 hv
  · rw [if_neg h3, if_neg h3]
    exact ans0 h1 b1
