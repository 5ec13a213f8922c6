/-! WHICH INSTRUCTION: moves, and the rest -/
theorem ac136 {c t : Sg} (h : RR c t) (b : BG c t) : Ans (f_Pro_perform c (nI 136)) (f_Mod_execute t (nI 136)) := by
  have hn : 136 < 256 := by decide
  rw [pf8 c (by decide), xMov t hn (by omega) (by omega), if_pos (show 136 ≤ nI 136 by decide), f_Pro_move, if_neg (show ¬ nI 136 = 143 by decide), if_neg (show ¬ 139 < nI 136 by decide), if_neg (show ¬ nI 136 &&& 1 = 1 by decide), f_Pro_move_28, bnd_q, if_pos (show nI 136 < 140 by decide), if_neg (show ¬ 138 ≤ nI 136 by decide), bnd_q, bnd_q]
  rw [f_Mod_moves, if_neg (show ¬ nI 136 &&& 1 = 1 by decide), f_Mod_moves_12, bnd_q, if_neg (show ¬ nI 136 = 142 by decide), f_Mod_moves_37, if_neg (show ¬ nI 136 = 141 by decide), f_Mod_moves_55, f_Mod_moves_56, bnd_q, if_pos up2_put, if_neg (show ¬ 138 ≤ nI 136 by decide), bnd_q, bnd_q, f_Mod_moves_88, if_neg (show ¬ nI 136 = 138 by decide), if_neg (show ¬ nI 136 = 139 by decide), f_Mod_moves_116, if_neg (show ¬ nI 136 = 140 by decide), f_Mod_moves_134, if_neg (show ¬ nI 136 = 141 by decide), f_Mod_moves_154, if_neg (show ¬ nI 136 = 142 by decide)]
  exact mvE (rm_eq h b 0)
theorem ac137 {c t : Sg} (h : RR c t) (b : BG c t) : Ans (f_Pro_perform c (nI 137)) (f_Mod_execute t (nI 137)) := by
  have hn : 137 < 256 := by decide
  rw [pf8 c (by decide), xMov t hn (by omega) (by omega), if_pos (show 136 ≤ nI 137 by decide), f_Pro_move, if_neg (show ¬ nI 137 = 143 by decide), if_neg (show ¬ 139 < nI 137 by decide), if_pos (show nI 137 &&& 1 = 1 by decide), f_Pro_move_23, f_Pro_move_28, bnd_q, if_pos (show nI 137 < 140 by decide), if_neg (show ¬ 138 ≤ nI 137 by decide), bnd_q, bnd_q]
  rw [f_Mod_moves, if_pos (show nI 137 &&& 1 = 1 by decide), f_Mod_moves_12, bnd_q, if_neg (show ¬ nI 137 = 142 by decide), f_Mod_moves_37, if_neg (show ¬ nI 137 = 141 by decide), f_Mod_moves_55, f_Mod_moves_56, bnd_q, if_pos up2_put, if_neg (show ¬ 138 ≤ nI 137 by decide), bnd_q, bnd_q, f_Mod_moves_88, if_neg (show ¬ nI 137 = 138 by decide), if_neg (show ¬ nI 137 = 139 by decide), f_Mod_moves_116, if_neg (show ¬ nI 137 = 140 by decide), f_Mod_moves_134, if_neg (show ¬ nI 137 = 141 by decide), f_Mod_moves_154, if_neg (show ¬ nI 137 = 142 by decide)]
  exact mvE (rm_eq h b 1)
theorem ac138 {c t : Sg} (h : RR c t) (b : BG c t) : Ans (f_Pro_perform c (nI 138)) (f_Mod_execute t (nI 138)) := by
  have hn : 138 < 256 := by decide
  rw [pf8 c (by decide), xMov t hn (by omega) (by omega), if_pos (show 136 ≤ nI 138 by decide), f_Pro_move, if_neg (show ¬ nI 138 = 143 by decide), if_neg (show ¬ 139 < nI 138 by decide), if_neg (show ¬ nI 138 &&& 1 = 1 by decide), f_Pro_move_28, bnd_q, if_pos (show nI 138 < 140 by decide), if_pos (show 138 ≤ nI 138 by decide), bnd_q, bnd_q]
  rw [f_Mod_moves, if_neg (show ¬ nI 138 &&& 1 = 1 by decide), f_Mod_moves_12, bnd_q, if_neg (show ¬ nI 138 = 142 by decide), f_Mod_moves_37, if_neg (show ¬ nI 138 = 141 by decide), f_Mod_moves_55, f_Mod_moves_56, bnd_q, if_pos up2_put, if_pos (show 138 ≤ nI 138 by decide), f_Mod_moves_88, if_pos (show nI 138 = 138 by decide), f_Mod_moves_102, bnd_q, bnd_q, f_Mod_moves_116, if_neg (show ¬ nI 138 = 140 by decide), f_Mod_moves_134, if_neg (show ¬ nI 138 = 141 by decide), f_Mod_moves_154, if_neg (show ¬ nI 138 = 142 by decide)]
  exact mvR (rm_eq h b 0)
theorem ac139 {c t : Sg} (h : RR c t) (b : BG c t) : Ans (f_Pro_perform c (nI 139)) (f_Mod_execute t (nI 139)) := by
  have hn : 139 < 256 := by decide
  rw [pf8 c (by decide), xMov t hn (by omega) (by omega), if_pos (show 136 ≤ nI 139 by decide), f_Pro_move, if_neg (show ¬ nI 139 = 143 by decide), if_neg (show ¬ 139 < nI 139 by decide), if_pos (show nI 139 &&& 1 = 1 by decide), f_Pro_move_23, f_Pro_move_28, bnd_q, if_pos (show nI 139 < 140 by decide), if_pos (show 138 ≤ nI 139 by decide), bnd_q, bnd_q]
  rw [f_Mod_moves, if_pos (show nI 139 &&& 1 = 1 by decide), f_Mod_moves_12, bnd_q, if_neg (show ¬ nI 139 = 142 by decide), f_Mod_moves_37, if_neg (show ¬ nI 139 = 141 by decide), f_Mod_moves_55, f_Mod_moves_56, bnd_q, if_pos up2_put, if_pos (show 138 ≤ nI 139 by decide), f_Mod_moves_88, if_neg (show ¬ nI 139 = 138 by decide), if_pos (show nI 139 = 139 by decide), f_Mod_moves_102, bnd_q, bnd_q, f_Mod_moves_116, if_neg (show ¬ nI 139 = 140 by decide), f_Mod_moves_134, if_neg (show ¬ nI 139 = 141 by decide), f_Mod_moves_154, if_neg (show ¬ nI 139 = 142 by decide)]
  exact mvR (rm_eq h b 1)
theorem ac140 {c t : Sg} (h : RR c t) (b : BG c t) : Ans (f_Pro_perform c (nI 140)) (f_Mod_execute t (nI 140)) := by
  have hn : 140 < 256 := by decide
  rw [pf8 c (by decide), xMov t hn (by omega) (by omega), if_pos (show 136 ≤ nI 140 by decide), f_Pro_move, if_neg (show ¬ nI 140 = 143 by decide), if_pos (show 139 < nI 140 by decide), f_Pro_move_23, f_Pro_move_28, bnd_q, if_neg (show ¬ nI 140 < 140 by decide), bnd_q, f_Pro_moveSegmentOrOffset, if_pos (show nI 140 = 140 by decide), bnd_q]
  rw [f_Mod_moves, if_neg (show ¬ nI 140 &&& 1 = 1 by decide), f_Mod_moves_12, bnd_q, if_neg (show ¬ nI 140 = 142 by decide), f_Mod_moves_37, if_neg (show ¬ nI 140 = 141 by decide), f_Mod_moves_55, f_Mod_moves_56, bnd_q, if_pos up2_put, if_pos (show 138 ≤ nI 140 by decide), f_Mod_moves_88, if_neg (show ¬ nI 140 = 138 by decide), if_neg (show ¬ nI 140 = 139 by decide), f_Mod_moves_116, if_pos (show nI 140 = 140 by decide), bnd_q, f_Mod_moves_134, if_neg (show ¬ nI 140 = 141 by decide), f_Mod_moves_154, if_neg (show ¬ nI 140 = 142 by decide)]
  exact mv140 (rm_eq h b 1)
theorem tm142 (t : Sg) : f_Mod_moves t (nI 142) = (if ((f_Mod_readModrm t 15 12) &&& (3 : Int32)) = (1 : Int32) then up2 (f_Mod_readModrm t) 15 16 1 else f_Mod_moves_154 (up2 (f_Mod_readModrm t) 15 16 0) (nI 142) ((f_Mod_readModrm t 15 12) &&& 3)) := by
  rw [f_Mod_moves, if_neg (show ¬ nI 142 &&& 1 = 1 by decide), f_Mod_moves_12, bnd_q, if_pos (show nI 142 = 142 by decide), f_Mod_moves_51, f_Mod_moves_56, bnd_q, if_neg (show ¬ up2 (f_Mod_readModrm t) 15 16 1 15 16 = 0 by rw [up2_put]; decide), f_Mod_moves_37, if_neg (show ¬ nI 142 = 141 by decide), f_Mod_moves_55, f_Mod_moves_56, bnd_q, if_pos (show up2 (f_Mod_readModrm t) 15 16 0 15 16 = 0 from up2_put), if_pos (show 138 ≤ nI 142 by decide), f_Mod_moves_88, if_neg (show ¬ nI 142 = 138 by decide), if_neg (show ¬ nI 142 = 139 by decide), f_Mod_moves_116, if_neg (show ¬ nI 142 = 140 by decide), f_Mod_moves_134, if_neg (show ¬ nI 142 = 141 by decide)]
theorem tm154 (t : Sg) (k : Int32) : f_Mod_moves_154 t (nI 142) k = (if k = 2 then up2 (up2 (f_Mod_getE t 1).2 18 (Int32.toNatClampNeg k) (f_Mod_getE t 1).1) 15 6 1 else up2 (up2 (f_Mod_getE t 1).2 18 (Int32.toNatClampNeg k) (f_Mod_getE t 1).1) 15 6 0) := by
  rw [f_Mod_moves_154, if_pos (show nI 142 = 142 by decide), bnd_q, bnd_q, bnd_q, bnd_q]
theorem mv142a {c t : Sg} (z : RBM 1 c t) : Ans (f_Pro_moveSegmentOrOffset c (nI 142)) (if ((t 15 12) &&& (3 : Int32)) = (1 : Int32) then up2 t 15 16 1 else f_Mod_moves_154 (up2 t 15 16 0) (nI 142) ((t 15 12) &&& 3)) := by
  have e := z.2.2.1.1
  rw [tm154, f_Pro_moveSegmentOrOffset, if_neg (show ¬ nI 142 = 140 by decide), if_neg (show ¬ nI 142 = 141 by decide), bnd_q, bnd_q, bnd_q, bnd_q, e]
  by_cases q : (t 15 12) &&& 3 = 1
  · rw [if_pos q, if_pos q]
    exact ans0 z.1 z.2.1
  · rw [if_neg q, if_neg q]
    by_cases q2 : (t 15 12) &&& 3 = 2
    · rw [if_pos q2, if_pos q2]
      exact mv142 z _ (Or.inr rfl)
    · rw [if_neg q2, if_neg q2]
      exact mv142 z _ (Or.inl rfl)
theorem ac142 {c t : Sg} (h : RR c t) (b : BG c t) : Ans (f_Pro_perform c (nI 142)) (f_Mod_execute t (nI 142)) := by
  have hn : 142 < 256 := by decide
  rw [pf8 c (by decide), xMov t hn (by omega) (by omega), if_pos (show 136 ≤ nI 142 by decide), f_Pro_move, if_neg (show ¬ nI 142 = 143 by decide), if_pos (show 139 < nI 142 by decide), f_Pro_move_23, f_Pro_move_28, bnd_q, if_neg (show ¬ nI 142 < 140 by decide), bnd_q, tm142]
  exact mv142a (rm_eq h b 1)
theorem tm141 (t : Sg) : f_Mod_moves t (nI 141) = (if (f_Mod_readModrm t 15 13) < (0 : Int32) then f_Mod_setRegister (up2 (f_Mod_readModrm t) 15 16 0) (up2 (f_Mod_readModrm t) 15 16 0 15 12) (up2 (f_Mod_readModrm t) 15 16 0 15 14) 1 else up2 (f_Mod_readModrm t) 15 16 1) := by
  rw [f_Mod_moves, if_pos (show nI 141 &&& 1 = 1 by decide), f_Mod_moves_12, bnd_q, if_neg (show ¬ nI 141 = 142 by decide), f_Mod_moves_37, if_pos (show nI 141 = 141 by decide), f_Mod_moves_51, f_Mod_moves_56, bnd_q, if_neg (show ¬ up2 (f_Mod_readModrm t) 15 16 1 15 16 = 0 by rw [up2_put]; decide), f_Mod_moves_55, f_Mod_moves_56, bnd_q, if_pos (show up2 (f_Mod_readModrm t) 15 16 0 15 16 = 0 from up2_put), if_pos (show 138 ≤ nI 141 by decide), f_Mod_moves_88, if_neg (show ¬ nI 141 = 138 by decide), if_neg (show ¬ nI 141 = 139 by decide), f_Mod_moves_116, if_neg (show ¬ nI 141 = 140 by decide), f_Mod_moves_134, if_pos (show nI 141 = 141 by decide), bnd_q, f_Mod_moves_154, if_neg (show ¬ nI 141 = 142 by decide)]
theorem mv141a {c t : Sg} (z : RBM 1 c t) : Ans (f_Pro_moveSegmentOrOffset c (nI 141)) (if (t 15 13) < (0 : Int32) then f_Mod_setRegister (up2 t 15 16 0) (up2 t 15 16 0 15 12) (up2 t 15 16 0 15 14) 1 else up2 t 15 16 1) := by
  rw [f_Pro_moveSegmentOrOffset, if_neg (show ¬ nI 141 = 140 by decide), if_pos (show nI 141 = 141 by decide), bnd_q]
  rcases z.2.2.2.2 with ⟨e7, -, r⟩ | ⟨e7, r, e6, hr, -⟩
  · rw [if_pos e7, e7, if_neg (fun q => r (Or.inl q))]
    exact ans0 z.1 z.2.1
  · rw [if_neg (by rw [e7]; decide), if_pos (by rw [r]; decide)]
    have ec : f_Reg_change c (c 14 5) 1 (c 14 6) = up2 c 4 (Int32.toNatClampNeg ((c 14 5) &&& (7 : Int32))) (c 14 6) := by
      rw [f_Reg_change, if_neg (by decide), bnd_q, e6, and_id (k := 16) rfl (by decide) (vp_in_iff.mpr hr)]
    rw [← ec]
    have m2 := z.2.2.unk
    have s := sreg (z.1.unk 0) m2.1.2 (up2 t 15 16 0 15 14) 1
    rw [← m2.1.1, show up2 t 15 16 0 15 14 = c 14 6 from e6.symm] at s
    rw [show up2 t 15 16 0 15 14 = c 14 6 from e6.symm, ← m2.1.1]
    rw [show f_Reg_change c (c 14 5) 1 (c 14 6) 14 7 = 1 by rw [s.2.1]; exact e7]
    exact fin z.2.1.unk s
theorem ac141 {c t : Sg} (h : RR c t) (b : BG c t) : Ans (f_Pro_perform c (nI 141)) (f_Mod_execute t (nI 141)) := by
  have hn : 141 < 256 := by decide
  rw [pf8 c (by decide), xMov t hn (by omega) (by omega), if_pos (show 136 ≤ nI 141 by decide), f_Pro_move, if_neg (show ¬ nI 141 = 143 by decide), if_pos (show 139 < nI 141 by decide), f_Pro_move_23, f_Pro_move_28, bnd_q, if_neg (show ¬ nI 141 < 140 by decide), bnd_q, tm141]
  exact mv141a (rm_eq h b 1)
theorem ac143 {c t : Sg} (h : RR c t) (b : BG c t) : Ans (f_Pro_perform c (nI 143)) (f_Mod_execute t (nI 143)) := by
  have hn : 143 < 256 := by decide
  refine aUnk h b ?_ (xUnk t hn (by unfold J; omega) (by unfold Z; omega) (by omega) (by omega) (by omega) (by omega) (by omega) (by omega) (by omega) (by omega) (by omega))
  rw [pf8 c (by decide), if_pos (show 136 ≤ nI 143 by decide), f_Pro_move, if_pos (show nI 143 = 143 by decide)]
theorem ac144 {c t : Sg} (h : RR c t) (b : BG c t) : Ans (f_Pro_perform c (nI 144)) (f_Mod_execute t (nI 144)) := by
  have hn : 144 < 256 := by decide
  rw [pf9 c (by decide), if_pos (show nI 144 = 144 by decide), x144]
  exact nop h
theorem aU145 {c t : Sg} (h : RR c t) (b : BG c t) {n : Nat} (hn : n < 256) (h1 : 145 ≤ n) (h2 : n ≤ 159) : Ans (f_Pro_perform c (nI n)) (f_Mod_execute t (nI n)) := by
  refine aUnk h b ?_ (xUnk t hn (by unfold J; omega) (by unfold Z; omega) (by omega) (by omega) (by omega) (by omega) (by omega) (by omega) (by omega) (by omega) (by omega))
  rw [pf9 c (by omega), if_neg (nE (K := 144) (k := 144) rfl (by omega) hn (by decide))]
theorem ac164 {c t : Sg} (h : RR c t) (b : BG c t) : Ans (f_Pro_perform c (nI 164)) (f_Mod_execute t (nI 164)) := by
  have hn : 164 < 256 := by decide
  rw [pf10 c (by decide), f_Pro_string, if_neg (show ¬ nI 164 < 164 by decide), if_pos (show nI 164 ≤ 165 by decide), x164]
  exact str_eq (w := 0) h b (by rw [f_Pro_stringOnce, if_neg (show ¬ nI 164 &&& 1 = 1 by decide)]) (by rw [f_Mod_string, if_neg (show ¬ nI 164 &&& 1 = 1 by decide)]) (by decide) (Or.inl (by decide)) (by decide)
theorem ac165 {c t : Sg} (h : RR c t) (b : BG c t) : Ans (f_Pro_perform c (nI 165)) (f_Mod_execute t (nI 165)) := by
  have hn : 165 < 256 := by decide
  rw [pf10 c (by decide), f_Pro_string, if_neg (show ¬ nI 165 < 164 by decide), if_pos (show nI 165 ≤ 165 by decide), x165]
  exact str_eq (w := 1) h b (by rw [f_Pro_stringOnce, if_pos (show nI 165 &&& 1 = 1 by decide)]) (by rw [f_Mod_string, if_pos (show nI 165 &&& 1 = 1 by decide)]) (by decide) (Or.inl (by decide)) (by decide)
theorem ac170 {c t : Sg} (h : RR c t) (b : BG c t) : Ans (f_Pro_perform c (nI 170)) (f_Mod_execute t (nI 170)) := by
  have hn : 170 < 256 := by decide
  rw [pf10 c (by decide), f_Pro_string, if_neg (show ¬ nI 170 < 164 by decide), if_neg (show ¬ nI 170 ≤ 165 by decide), if_pos (show 170 ≤ nI 170 by decide), xStr t hn (by omega) (by omega)]
  exact str_eq (w := 0) h b (by rw [f_Pro_stringOnce, if_neg (show ¬ nI 170 &&& 1 = 1 by decide)]) (by rw [f_Mod_string, if_neg (show ¬ nI 170 &&& 1 = 1 by decide)]) (by decide) (Or.inr (Or.inl (by decide))) (by decide)
theorem ac171 {c t : Sg} (h : RR c t) (b : BG c t) : Ans (f_Pro_perform c (nI 171)) (f_Mod_execute t (nI 171)) := by
  have hn : 171 < 256 := by decide
  rw [pf10 c (by decide), f_Pro_string, if_neg (show ¬ nI 171 < 164 by decide), if_neg (show ¬ nI 171 ≤ 165 by decide), if_pos (show 170 ≤ nI 171 by decide), xStr t hn (by omega) (by omega)]
  exact str_eq (w := 1) h b (by rw [f_Pro_stringOnce, if_pos (show nI 171 &&& 1 = 1 by decide)]) (by rw [f_Mod_string, if_pos (show nI 171 &&& 1 = 1 by decide)]) (by decide) (Or.inr (Or.inl (by decide))) (by decide)
theorem ac172 {c t : Sg} (h : RR c t) (b : BG c t) : Ans (f_Pro_perform c (nI 172)) (f_Mod_execute t (nI 172)) := by
  have hn : 172 < 256 := by decide
  rw [pf10 c (by decide), f_Pro_string, if_neg (show ¬ nI 172 < 164 by decide), if_neg (show ¬ nI 172 ≤ 165 by decide), if_pos (show 170 ≤ nI 172 by decide), xStr t hn (by omega) (by omega)]
  exact str_eq (w := 0) h b (by rw [f_Pro_stringOnce, if_neg (show ¬ nI 172 &&& 1 = 1 by decide)]) (by rw [f_Mod_string, if_neg (show ¬ nI 172 &&& 1 = 1 by decide)]) (by decide) (Or.inr (Or.inr (Or.inl (by decide)))) (by decide)
theorem ac173 {c t : Sg} (h : RR c t) (b : BG c t) : Ans (f_Pro_perform c (nI 173)) (f_Mod_execute t (nI 173)) := by
  have hn : 173 < 256 := by decide
  rw [pf10 c (by decide), f_Pro_string, if_neg (show ¬ nI 173 < 164 by decide), if_neg (show ¬ nI 173 ≤ 165 by decide), if_pos (show 170 ≤ nI 173 by decide), xStr t hn (by omega) (by omega)]
  exact str_eq (w := 1) h b (by rw [f_Pro_stringOnce, if_pos (show nI 173 &&& 1 = 1 by decide)]) (by rw [f_Mod_string, if_pos (show nI 173 &&& 1 = 1 by decide)]) (by decide) (Or.inr (Or.inr (Or.inl (by decide)))) (by decide)
theorem ac174 {c t : Sg} (h : RR c t) (b : BG c t) : Ans (f_Pro_perform c (nI 174)) (f_Mod_execute t (nI 174)) := by
  have hn : 174 < 256 := by decide
  rw [pf10 c (by decide), f_Pro_string, if_neg (show ¬ nI 174 < 164 by decide), if_neg (show ¬ nI 174 ≤ 165 by decide), if_pos (show 170 ≤ nI 174 by decide), xStr t hn (by omega) (by omega)]
  exact str_eq (w := 0) h b (by rw [f_Pro_stringOnce, if_neg (show ¬ nI 174 &&& 1 = 1 by decide)]) (by rw [f_Mod_string, if_neg (show ¬ nI 174 &&& 1 = 1 by decide)]) (by decide) (Or.inr (Or.inr (Or.inr (by decide)))) (by decide)
theorem ac175 {c t : Sg} (h : RR c t) (b : BG c t) : Ans (f_Pro_perform c (nI 175)) (f_Mod_execute t (nI 175)) := by
  have hn : 175 < 256 := by decide
  rw [pf10 c (by decide), f_Pro_string, if_neg (show ¬ nI 175 < 164 by decide), if_neg (show ¬ nI 175 ≤ 165 by decide), if_pos (show 170 ≤ nI 175 by decide), xStr t hn (by omega) (by omega)]
  exact str_eq (w := 1) h b (by rw [f_Pro_stringOnce, if_pos (show nI 175 &&& 1 = 1 by decide)]) (by rw [f_Mod_string, if_pos (show nI 175 &&& 1 = 1 by decide)]) (by decide) (Or.inr (Or.inr (Or.inr (by decide)))) (by decide)
theorem aU160 {c t : Sg} (h : RR c t) (b : BG c t) {n : Nat} (hn : n < 256) (h1 : (160 ≤ n ∧ n ≤ 163) ∨ (166 ≤ n ∧ n ≤ 169)) : Ans (f_Pro_perform c (nI n)) (f_Mod_execute t (nI n)) := by
  refine aUnk h b ?_ (xUnk t hn (by unfold J; omega) (by unfold Z; omega) (by omega) (by omega) (by omega) (by omega) (by omega) (by omega) (by omega) (by omega) (by omega))
  rw [pf10 c (by omega), f_Pro_string]
  by_cases q : n < 164
  · rw [if_pos (ltY (K := 164) (k := 164) rfl q (by decide))]
  · rw [if_neg (ltN (K := 164) (k := 164) rfl (by omega) hn), if_neg (leN (K := 165) (k := 165) rfl (by omega) hn), if_neg (geN (K := 170) (k := 170) rfl (by omega) (by decide))]
theorem aMg0 {c t : Sg} (h : RR c t) (b : BG c t) {n : Nat} (hn : n < 256) (h1 : 176 ≤ n) (h2 : n ≤ 183) : Ans (f_Pro_perform c (nI n)) (f_Mod_execute t (nI n)) := by
  rw [pf11 c (by omega), f_Pro_moveGiven, if_pos (ltY (K := 184) (k := 184) rfl (by omega) (by decide)), f_Pro_moveGiven_12, bnd_q, bnd_q, xMg0 t hn h1 h2, f_Mod_execute_272, bnd_q, if_pos (ltY (K := 184) (k := 184) rfl (by omega) (by decide)), f_Mod_execute_296, bnd_q]
  exact mg h b (pk_andIn _ 3 rfl (by decide)) 0
theorem aMg1 {c t : Sg} (h : RR c t) (b : BG c t) {n : Nat} (hn : n < 256) (h1 : 184 ≤ n) (h2 : n ≤ 191) : Ans (f_Pro_perform c (nI n)) (f_Mod_execute t (nI n)) := by
  rw [pf11 c (by omega), f_Pro_moveGiven, if_neg (ltN (K := 184) (k := 184) rfl (by omega) hn), f_Pro_moveGiven_12, bnd_q, bnd_q, xMg1 t hn h1 h2, f_Mod_execute_272, bnd_q, if_neg (ltN (K := 184) (k := 184) rfl (by omega) hn), f_Mod_execute_296, bnd_q]
  exact mg h b (pk_andIn _ 3 rfl (by decide)) 1
theorem ac195 {c t : Sg} (h : RR c t) (b : BG c t) : Ans (f_Pro_perform c (nI 195)) (f_Mod_execute t (nI 195)) := by
  have hn : 195 < 256 := by decide
  rw [pf12 c (by decide), f_Pro_leave, if_pos (show nI 195 = 195 by decide), bnd_q, bnd_q, xJ t hn (by unfold J; omega), f_Mod_jumps, if_pos (show nI 195 = 195 by decide), bnd_q, bnd_q]
  exact i_ret h b
theorem ac205 {c t : Sg} (h : RR c t) (b : BG c t) : Ans (f_Pro_perform c (nI 205)) (f_Mod_execute t (nI 205)) := by
  have hn : 205 < 256 := by decide
  rw [pf12 c (by decide), f_Pro_leave, if_neg (show ¬ nI 205 = 195 by decide), if_pos (show nI 205 = 205 by decide), bnd_q, bnd_q, x205, f_Mod_others, if_pos (show nI 205 = 205 by decide), bnd_q, bnd_q]
  exact nt h b
theorem ac207 {c t : Sg} (h : RR c t) (b : BG c t) : Ans (f_Pro_perform c (nI 207)) (f_Mod_execute t (nI 207)) := by
  have hn : 207 < 256 := by decide
  rw [pf12 c (by decide), f_Pro_leave, if_neg (show ¬ nI 207 = 195 by decide), if_neg (show ¬ nI 207 = 205 by decide), if_pos (show nI 207 = 207 by decide), x207, f_Mod_others, if_neg (show ¬ nI 207 = 205 by decide), if_pos (show nI 207 = 207 by decide)]
  exact irt h b _
theorem aU192 {c t : Sg} (h : RR c t) (b : BG c t) {n : Nat} (hn : n < 256) (h1 : 192 ≤ n) (h2 : n ≤ 207) (h3 : n ≠ 195 ∧ n ≠ 205 ∧ n ≠ 207) : Ans (f_Pro_perform c (nI n)) (f_Mod_execute t (nI n)) := by
  refine aUnk h b ?_ (xUnk t hn (by unfold J; omega) (by unfold Z; omega) (by omega) (by omega) (by omega) (by omega) (by omega) (by omega) (by omega) (by omega) (by omega))
  rw [pf12 c (by omega), f_Pro_leave, if_neg (nE (K := 195) (k := 195) rfl (by omega) hn (by decide)), if_neg (nE (K := 205) (k := 205) rfl (by omega) hn (by decide)), if_neg (nE (K := 207) (k := 207) rfl (by omega) hn (by decide))]
theorem aU208 {c t : Sg} (h : RR c t) (b : BG c t) {n : Nat} (hn : n < 256) (h1 : 208 ≤ n) (h2 : n ≤ 223) : Ans (f_Pro_perform c (nI n)) (f_Mod_execute t (nI n)) := by
  exact aUnk h b (pf13 c (by omega)) (xUnk t hn (by unfold J; omega) (by unfold Z; omega) (by omega) (by omega) (by omega) (by omega) (by omega) (by omega) (by omega) (by omega) (by omega))
theorem ac226 {c t : Sg} (h : RR c t) (b : BG c t) : Ans (f_Pro_perform c (nI 226)) (f_Mod_execute t (nI 226)) := by
  have hn : 226 < 256 := by decide
  rw [pf14 c (by decide), f_Pro_jumpOrPort, if_pos (show nI 226 = 226 by decide), bnd_q, bnd_q, xJ t hn (by unfold J; omega), f_Mod_jumps, if_neg (show ¬ nI 226 = 195 by decide), if_neg (show ¬ nI 226 = 232 by decide), if_neg (show ¬ nI 226 = 233 by decide), bnd_q]
  exact jlp h b
theorem ac228 {c t : Sg} (h : RR c t) (b : BG c t) : Ans (f_Pro_perform c (nI 228)) (f_Mod_execute t (nI 228)) := by
  have hn : 228 < 256 := by decide
  rw [pf14 c (by decide), f_Pro_jumpOrPort, if_neg (show ¬ nI 228 = 226 by decide), if_neg (show ¬ nI 228 = 227 by decide), if_pos (show nI 228 = 228 by decide), bnd_q, bnd_q, bnd_q, x228, f_Mod_others, if_neg (show ¬ nI 228 = 205 by decide), if_neg (show ¬ nI 228 = 207 by decide), if_pos (show nI 228 = 228 by decide), bnd_q, bnd_q, bnd_q]
  exact inp h b
theorem ac230 {c t : Sg} (h : RR c t) (b : BG c t) : Ans (f_Pro_perform c (nI 230)) (f_Mod_execute t (nI 230)) := by
  have hn : 230 < 256 := by decide
  rw [pf14 c (by decide), f_Pro_jumpOrPort, if_neg (show ¬ nI 230 = 226 by decide), if_neg (show ¬ nI 230 = 227 by decide), if_neg (show ¬ nI 230 = 228 by decide), if_neg (show ¬ nI 230 = 229 by decide), if_pos (show nI 230 = 230 by decide), bnd_q, bnd_q, bnd_q, v80, x230, f_Mod_others, if_neg (show ¬ nI 230 = 205 by decide), if_neg (show ¬ nI 230 = 207 by decide), if_neg (show ¬ nI 230 = 228 by decide), if_pos (show nI 230 = 230 by decide), bnd_q, bnd_q, zn0]
  exact out h b 0
theorem ac232 {c t : Sg} (h : RR c t) (b : BG c t) : Ans (f_Pro_perform c (nI 232)) (f_Mod_execute t (nI 232)) := by
  have hn : 232 < 256 := by decide
  rw [pf14 c (by decide), f_Pro_jumpOrPort, if_neg (show ¬ nI 232 = 226 by decide), if_neg (show ¬ nI 232 = 227 by decide), if_neg (show ¬ nI 232 = 228 by decide), if_neg (show ¬ nI 232 = 229 by decide), if_neg (show ¬ nI 232 = 230 by decide), if_neg (show ¬ nI 232 = 231 by decide), if_pos (show nI 232 = 232 by decide), bnd_q, bnd_q, xJ t hn (by unfold J; omega), f_Mod_jumps, if_neg (show ¬ nI 232 = 195 by decide), if_pos (show nI 232 = 232 by decide), f_Mod_jumps_30, bnd_q, f_Mod_jumps_41, if_neg (show ¬ nI 232 = 226 by decide), f_Mod_jumps_83, bnd_q, in_n (L := 112) (H := 127) (lo := 112) (hi := 127) rfl rfl (by omega) hn (by decide), if_pos rfl, f_Mod_jumps_103, if_pos (show nI 232 = 232 by decide), bnd_q]
  dsimp only
  exact jcl h b
theorem ac233 {c t : Sg} (h : RR c t) (b : BG c t) : Ans (f_Pro_perform c (nI 233)) (f_Mod_execute t (nI 233)) := by
  have hn : 233 < 256 := by decide
  rw [pf14 c (by decide), f_Pro_jumpOrPort, if_neg (show ¬ nI 233 = 226 by decide), if_neg (show ¬ nI 233 = 227 by decide), if_neg (show ¬ nI 233 = 228 by decide), if_neg (show ¬ nI 233 = 229 by decide), if_neg (show ¬ nI 233 = 230 by decide), if_neg (show ¬ nI 233 = 231 by decide), if_neg (show ¬ nI 233 = 232 by decide), if_pos (show nI 233 = 233 by decide), bnd_q, bnd_q, xJ t hn (by unfold J; omega), f_Mod_jumps, if_neg (show ¬ nI 233 = 195 by decide), if_neg (show ¬ nI 233 = 232 by decide), if_pos (show nI 233 = 233 by decide), f_Mod_jumps_30, bnd_q, f_Mod_jumps_41, if_neg (show ¬ nI 233 = 226 by decide), f_Mod_jumps_83, bnd_q, in_n (L := 112) (H := 127) (lo := 112) (hi := 127) rfl rfl (by omega) hn (by decide), if_pos rfl, f_Mod_jumps_103, if_neg (show ¬ nI 233 = 232 by decide)]
  dsimp only
  exact jnr h b
theorem ac235 {c t : Sg} (h : RR c t) (b : BG c t) : Ans (f_Pro_perform c (nI 235)) (f_Mod_execute t (nI 235)) := by
  have hn : 235 < 256 := by decide
  rw [pf14 c (by decide), f_Pro_jumpOrPort, if_neg (show ¬ nI 235 = 226 by decide), if_neg (show ¬ nI 235 = 227 by decide), if_neg (show ¬ nI 235 = 228 by decide), if_neg (show ¬ nI 235 = 229 by decide), if_neg (show ¬ nI 235 = 230 by decide), if_neg (show ¬ nI 235 = 231 by decide), if_neg (show ¬ nI 235 = 232 by decide), if_neg (show ¬ nI 235 = 233 by decide), if_neg (show ¬ nI 235 = 234 by decide), if_pos (show nI 235 = 235 by decide), bnd_q, bnd_q, xJ t hn (by unfold J; omega), f_Mod_jumps, if_neg (show ¬ nI 235 = 195 by decide), if_neg (show ¬ nI 235 = 232 by decide), if_neg (show ¬ nI 235 = 233 by decide), bnd_q, f_Mod_jumps_41, if_neg (show ¬ nI 235 = 226 by decide), f_Mod_jumps_83, bnd_q, in_n (L := 112) (H := 127) (lo := 112) (hi := 127) rfl rfl (by omega) hn (by decide), if_pos rfl, f_Mod_jumps_103, if_neg (show ¬ nI 235 = 232 by decide)]
  exact jsh h b
theorem jpU {n : Nat} (c : Sg) (hn : n < 256) (h1 : n ≠ 226 ∧ n ≠ 228 ∧ n ≠ 230 ∧ n ≠ 232 ∧ n ≠ 233 ∧ n ≠ 235) : f_Pro_jumpOrPort c (nI n) = (0, c) := by
  rw [f_Pro_jumpOrPort, if_neg (nE (K := 226) (k := 226) rfl (by omega) hn (by decide))]
  by_cases q : nI n = 227
  · rw [if_pos q]
  rw [if_neg q, if_neg (nE (K := 228) (k := 228) rfl (by omega) hn (by decide))]
  by_cases q : nI n = 229
  · rw [if_pos q]
  rw [if_neg q, if_neg (nE (K := 230) (k := 230) rfl (by omega) hn (by decide))]
  by_cases q : nI n = 231
  · rw [if_pos q]
  rw [if_neg q, if_neg (nE (K := 232) (k := 232) rfl (by omega) hn (by decide)), if_neg (nE (K := 233) (k := 233) rfl (by omega) hn (by decide))]
  by_cases q : nI n = 234
  · rw [if_pos q]
  rw [if_neg q, if_neg (nE (K := 235) (k := 235) rfl (by omega) hn (by decide))]
theorem aU224 {c t : Sg} (h : RR c t) (b : BG c t) {n : Nat} (hn : n < 256) (h1 : 224 ≤ n) (h2 : n ≤ 239) (h3 : n ≠ 226 ∧ n ≠ 228 ∧ n ≠ 230 ∧ n ≠ 232 ∧ n ≠ 233 ∧ n ≠ 235) : Ans (f_Pro_perform c (nI n)) (f_Mod_execute t (nI n)) := by
  refine aUnk h b ?_ (xUnk t hn (by unfold J; omega) (by unfold Z; omega) (by omega) (by omega) (by omega) (by omega) (by omega) (by omega) (by omega) (by omega) (by omega))
  rw [pf14 c (by omega), jpU c hn h3]
theorem aU240 {c t : Sg} (h : RR c t) (b : BG c t) {n : Nat} (hn : n < 256) (h1 : 240 ≤ n) (h2 : n ≤ 245) (h3 : n ≠ 244) : Ans (f_Pro_perform c (nI n)) (f_Mod_execute t (nI n)) := by
  refine aUnk h b ?_ (xUnk t hn (by unfold J; omega) (by unfold Z; omega) (by omega) (by omega) (by omega) (by omega) (by omega) (by omega) (by omega) (by omega) (by omega))
  rw [pf15 c (by omega), if_pos (ltY (K := 254) (k := 254) rfl (by omega) (by decide)), if_neg (geN (K := 248) (k := 248) rfl (by omega) (by decide)), f_Pro_haltOrUnary, if_neg (nE (K := 244) (k := 244) rfl (by omega) hn (by decide)), if_neg (geN (K := 246) (k := 246) rfl (by omega) (by decide))]
theorem ac244 {c t : Sg} (h : RR c t) (b : BG c t) : Ans (f_Pro_perform c (nI 244)) (f_Mod_execute t (nI 244)) := by
  have hn : 244 < 256 := by decide
  rw [pf15 c (by decide), if_pos (show nI 244 < 254 by decide), if_neg (show ¬ 248 ≤ nI 244 by decide), f_Pro_haltOrUnary, if_pos (show nI 244 = 244 by decide), bnd_q, x244, f_Mod_others, if_neg (show ¬ nI 244 = 205 by decide), if_neg (show ¬ nI 244 = 207 by decide), if_neg (show ¬ nI 244 = 228 by decide), if_neg (show ¬ nI 244 = 230 by decide), if_pos (show nI 244 = 244 by decide), bnd_q]
  exact hlt h b
theorem ac246 {c t : Sg} (h : RR c t) (b : BG c t) : Ans (f_Pro_perform c (nI 246)) (f_Mod_execute t (nI 246)) := by
  have hn : 246 < 256 := by decide
  rw [pf15 c (by decide), if_pos (show nI 246 < 254 by decide), if_neg (show ¬ 248 ≤ nI 246 by decide), f_Pro_haltOrUnary, if_neg (show ¬ nI 246 = 244 by decide), if_pos (show 246 ≤ nI 246 by decide), if_neg (show ¬ nI 246 = 247 by decide), x246, f_Mod_ones, if_neg (show ¬ nI 246 &&& 1 = 1 by decide)]
  exact un35 h b (by decide) (by decide) (Or.inl rfl)
theorem ac247 {c t : Sg} (h : RR c t) (b : BG c t) : Ans (f_Pro_perform c (nI 247)) (f_Mod_execute t (nI 247)) := by
  have hn : 247 < 256 := by decide
  rw [pf15 c (by decide), if_pos (show nI 247 < 254 by decide), if_neg (show ¬ 248 ≤ nI 247 by decide), f_Pro_haltOrUnary, if_neg (show ¬ nI 247 = 244 by decide), if_pos (show 246 ≤ nI 247 by decide), if_pos (show nI 247 = 247 by decide), x247, f_Mod_ones, if_pos (show nI 247 &&& 1 = 1 by decide)]
  exact un35 h b (by decide) (by decide) (Or.inr rfl)
theorem ac248 {c t : Sg} (h : RR c t) (b : BG c t) : Ans (f_Pro_perform c (nI 248)) (f_Mod_execute t (nI 248)) := by
  have hn : 248 < 256 := by decide
  rw [pf15 c (by decide), if_pos (show nI 248 < 254 by decide), if_pos (show 248 ≤ nI 248 by decide), f_Pro_setFlag, if_neg (show ¬ 250 ≤ nI 248 by decide), f_Pro_setFlag_27, if_neg (show ¬ nI 248 &&& 1 = 1 by decide), f_Pro_setFlag_45, bnd_q, if_neg (show ¬ nI 248 = 251 by decide), bnd_q]
  rw [xFl t hn (by omega) (by omega), f_Mod_others, if_neg (show ¬ nI 248 = 205 by decide), if_neg (show ¬ nI 248 = 207 by decide), if_neg (show ¬ nI 248 = 228 by decide), if_neg (show ¬ nI 248 = 230 by decide), if_neg (show ¬ nI 248 = 244 by decide), if_neg (show ¬ 250 ≤ nI 248 by decide), f_Mod_others_159, if_neg (show ¬ nI 248 &&& 1 = 1 by decide), f_Mod_others_171, bnd_q, if_neg (show ¬ nI 248 = 251 by decide), bnd_q]
  exact sfl h b (by decide) 0 (Or.inl rfl)
theorem ac249 {c t : Sg} (h : RR c t) (b : BG c t) : Ans (f_Pro_perform c (nI 249)) (f_Mod_execute t (nI 249)) := by
  have hn : 249 < 256 := by decide
  rw [pf15 c (by decide), if_pos (show nI 249 < 254 by decide), if_pos (show 248 ≤ nI 249 by decide), f_Pro_setFlag, if_neg (show ¬ 250 ≤ nI 249 by decide), f_Pro_setFlag_27, if_pos (show nI 249 &&& 1 = 1 by decide), f_Pro_setFlag_45, bnd_q, if_neg (show ¬ nI 249 = 251 by decide), bnd_q]
  rw [xFl t hn (by omega) (by omega), f_Mod_others, if_neg (show ¬ nI 249 = 205 by decide), if_neg (show ¬ nI 249 = 207 by decide), if_neg (show ¬ nI 249 = 228 by decide), if_neg (show ¬ nI 249 = 230 by decide), if_neg (show ¬ nI 249 = 244 by decide), if_neg (show ¬ 250 ≤ nI 249 by decide), f_Mod_others_159, if_pos (show nI 249 &&& 1 = 1 by decide), f_Mod_others_171, bnd_q, if_neg (show ¬ nI 249 = 251 by decide), bnd_q]
  exact sfl h b (by decide) 1 (Or.inl rfl)
theorem ac250 {c t : Sg} (h : RR c t) (b : BG c t) : Ans (f_Pro_perform c (nI 250)) (f_Mod_execute t (nI 250)) := by
  have hn : 250 < 256 := by decide
  rw [pf15 c (by decide), if_pos (show nI 250 < 254 by decide), if_pos (show 248 ≤ nI 250 by decide), f_Pro_setFlag, if_pos (show 250 ≤ nI 250 by decide), if_neg (show ¬ 252 ≤ nI 250 by decide), f_Pro_setFlag_27, if_neg (show ¬ nI 250 &&& 1 = 1 by decide), f_Pro_setFlag_45, bnd_q, if_neg (show ¬ nI 250 = 251 by decide), bnd_q]
  rw [xFl t hn (by omega) (by omega), f_Mod_others, if_neg (show ¬ nI 250 = 205 by decide), if_neg (show ¬ nI 250 = 207 by decide), if_neg (show ¬ nI 250 = 228 by decide), if_neg (show ¬ nI 250 = 230 by decide), if_neg (show ¬ nI 250 = 244 by decide), if_pos (show 250 ≤ nI 250 by decide), if_neg (show ¬ 252 ≤ nI 250 by decide), f_Mod_others_159, if_neg (show ¬ nI 250 &&& 1 = 1 by decide), f_Mod_others_171, bnd_q, if_neg (show ¬ nI 250 = 251 by decide), bnd_q]
  exact sfl h b (by decide) 0 (Or.inl rfl)
theorem ac251 {c t : Sg} (h : RR c t) (b : BG c t) : Ans (f_Pro_perform c (nI 251)) (f_Mod_execute t (nI 251)) := by
  have hn : 251 < 256 := by decide
  rw [pf15 c (by decide), if_pos (show nI 251 < 254 by decide), if_pos (show 248 ≤ nI 251 by decide), f_Pro_setFlag, if_pos (show 250 ≤ nI 251 by decide), if_neg (show ¬ 252 ≤ nI 251 by decide), f_Pro_setFlag_27, if_pos (show nI 251 &&& 1 = 1 by decide), f_Pro_setFlag_45, bnd_q, if_pos (show nI 251 = 251 by decide), bnd_q]
  rw [xFl t hn (by omega) (by omega), f_Mod_others, if_neg (show ¬ nI 251 = 205 by decide), if_neg (show ¬ nI 251 = 207 by decide), if_neg (show ¬ nI 251 = 228 by decide), if_neg (show ¬ nI 251 = 230 by decide), if_neg (show ¬ nI 251 = 244 by decide), if_pos (show 250 ≤ nI 251 by decide), if_neg (show ¬ 252 ≤ nI 251 by decide), f_Mod_others_159, if_pos (show nI 251 &&& 1 = 1 by decide), f_Mod_others_171, bnd_q, if_pos (show nI 251 = 251 by decide), bnd_q]
  exact sfl h b (by decide) 1 (Or.inr rfl)
theorem ac252 {c t : Sg} (h : RR c t) (b : BG c t) : Ans (f_Pro_perform c (nI 252)) (f_Mod_execute t (nI 252)) := by
  have hn : 252 < 256 := by decide
  rw [pf15 c (by decide), if_pos (show nI 252 < 254 by decide), if_pos (show 248 ≤ nI 252 by decide), f_Pro_setFlag, if_pos (show 250 ≤ nI 252 by decide), if_pos (show 252 ≤ nI 252 by decide), f_Pro_setFlag_27, if_neg (show ¬ nI 252 &&& 1 = 1 by decide), f_Pro_setFlag_45, bnd_q, if_neg (show ¬ nI 252 = 251 by decide), bnd_q]
  rw [xFl t hn (by omega) (by omega), f_Mod_others, if_neg (show ¬ nI 252 = 205 by decide), if_neg (show ¬ nI 252 = 207 by decide), if_neg (show ¬ nI 252 = 228 by decide), if_neg (show ¬ nI 252 = 230 by decide), if_neg (show ¬ nI 252 = 244 by decide), if_pos (show 250 ≤ nI 252 by decide), if_pos (show 252 ≤ nI 252 by decide), f_Mod_others_159, if_neg (show ¬ nI 252 &&& 1 = 1 by decide), f_Mod_others_171, bnd_q, if_neg (show ¬ nI 252 = 251 by decide), bnd_q]
  exact sfl h b (by decide) 0 (Or.inl rfl)
theorem ac253 {c t : Sg} (h : RR c t) (b : BG c t) : Ans (f_Pro_perform c (nI 253)) (f_Mod_execute t (nI 253)) := by
  have hn : 253 < 256 := by decide
  rw [pf15 c (by decide), if_pos (show nI 253 < 254 by decide), if_pos (show 248 ≤ nI 253 by decide), f_Pro_setFlag, if_pos (show 250 ≤ nI 253 by decide), if_pos (show 252 ≤ nI 253 by decide), f_Pro_setFlag_27, if_pos (show nI 253 &&& 1 = 1 by decide), f_Pro_setFlag_45, bnd_q, if_neg (show ¬ nI 253 = 251 by decide), bnd_q]
  rw [xFl t hn (by omega) (by omega), f_Mod_others, if_neg (show ¬ nI 253 = 205 by decide), if_neg (show ¬ nI 253 = 207 by decide), if_neg (show ¬ nI 253 = 228 by decide), if_neg (show ¬ nI 253 = 230 by decide), if_neg (show ¬ nI 253 = 244 by decide), if_pos (show 250 ≤ nI 253 by decide), if_pos (show 252 ≤ nI 253 by decide), f_Mod_others_159, if_pos (show nI 253 &&& 1 = 1 by decide), f_Mod_others_171, bnd_q, if_neg (show ¬ nI 253 = 251 by decide), bnd_q]
  exact sfl h b (by decide) 1 (Or.inl rfl)
theorem ac254 {c t : Sg} (h : RR c t) (b : BG c t) : Ans (f_Pro_perform c (nI 254)) (f_Mod_execute t (nI 254)) := by
  have hn : 254 < 256 := by decide
  rw [pf15 c (by decide), if_neg (show ¬ nI 254 < 254 by decide), if_neg (show ¬ nI 254 = 255 by decide), f_Pro_perform_202, bnd_q, xOne t hn (by omega), f_Mod_ones, if_neg (show ¬ nI 254 &&& 1 = 1 by decide)]
  exact cop h b (by decide) (by decide)
theorem ac255 {c t : Sg} (h : RR c t) (b : BG c t) : Ans (f_Pro_perform c (nI 255)) (f_Mod_execute t (nI 255)) := by
  have hn : 255 < 256 := by decide
  rw [pf15 c (by decide), if_neg (show ¬ nI 255 < 254 by decide), if_pos (show nI 255 = 255 by decide), f_Pro_perform_202, bnd_q, xOne t hn (by omega), f_Mod_ones, if_pos (show nI 255 &&& 1 = 1 by decide)]
  exact cop h b (by decide) (by decide)
theorem all_eq {c t : Sg} (h : RR c t) (b : BG c t) {n : Nat} (hn : n < 256) : Ans (f_Pro_perform c (nI n)) (f_Mod_execute t (nI n)) := by
  by_cases q : n < 64
  · by_cases q1 : n % 8 < 6
    · exact aComb h b q q1
    by_cases q2 : 32 ≤ n
    · exact aU32 h b hn q2 q (by omega)
    by_cases q3 : n = 6
    · subst q3; exact ac6 h b
    by_cases q3 : n = 7
    · subst q3; exact ac7 h b
    by_cases q3 : n = 14
    · subst q3; exact ac14 h b
    by_cases q3 : n = 15
    · subst q3; exact ac15 h b
    by_cases q3 : n = 22
    · subst q3; exact ac22 h b
    by_cases q3 : n = 23
    · subst q3; exact ac23 h b
    by_cases q3 : n = 30
    · subst q3; exact ac30 h b
    by_cases q3 : n = 31
    · subst q3; exact ac31 h b
    omega
  by_cases q : n ≤ 71
  · exact aInc h b hn (by omega) q
  by_cases q : n ≤ 79
  · exact aDec h b hn (by omega) q
  by_cases q : n ≤ 87
  · exact aPush h b hn (by omega) q
  by_cases q : n ≤ 95
  · exact aPop h b hn (by omega) q
  by_cases q : n ≤ 111
  · exact aU96 h b hn (by omega) q
  by_cases q : n = 122 ∨ n = 123
  · exact aU122 h b hn q
  by_cases q : n ≤ 127
  · exact aJcc h b hn (by omega) q (by omega) (by omega)
  by_cases q : n = 128
  · subst q; exact ac128 h b
  by_cases q : n = 129
  · subst q; exact ac129 h b
  by_cases q : n = 131
  · subst q; exact ac131 h b
  by_cases q : n ≤ 135
  · exact aU130 h b hn (by omega)
  by_cases q : n = 136
  · subst q; exact ac136 h b
  by_cases q : n = 137
  · subst q; exact ac137 h b
  by_cases q : n = 138
  · subst q; exact ac138 h b
  by_cases q : n = 139
  · subst q; exact ac139 h b
  by_cases q : n = 140
  · subst q; exact ac140 h b
  by_cases q : n = 141
  · subst q; exact ac141 h b
  by_cases q : n = 142
  · subst q; exact ac142 h b
  by_cases q : n = 143
  · subst q; exact ac143 h b
  by_cases q : n = 144
  · subst q; exact ac144 h b
  by_cases q : n ≤ 159
  · exact aU145 h b hn (by omega) q
  by_cases q : n = 164
  · subst q; exact ac164 h b
  by_cases q : n = 165
  · subst q; exact ac165 h b
  by_cases q : n = 170
  · subst q; exact ac170 h b
  by_cases q : n = 171
  · subst q; exact ac171 h b
  by_cases q : n = 172
  · subst q; exact ac172 h b
  by_cases q : n = 173
  · subst q; exact ac173 h b
  by_cases q : n = 174
  · subst q; exact ac174 h b
  by_cases q : n = 175
  · subst q; exact ac175 h b
  by_cases q : n ≤ 175
  · exact aU160 h b hn (by omega)
  by_cases q : n ≤ 183
  · exact aMg0 h b hn (by omega) q
  by_cases q : n ≤ 191
  · exact aMg1 h b hn (by omega) q
  by_cases q : n = 195
  · subst q; exact ac195 h b
  by_cases q : n = 205
  · subst q; exact ac205 h b
  by_cases q : n = 207
  · subst q; exact ac207 h b
  by_cases q : n ≤ 207
  · exact aU192 h b hn (by omega) q (by omega)
  by_cases q : n ≤ 223
  · exact aU208 h b hn (by omega) q
  by_cases q : n = 226
  · subst q; exact ac226 h b
  by_cases q : n = 228
  · subst q; exact ac228 h b
  by_cases q : n = 230
  · subst q; exact ac230 h b
  by_cases q : n = 232
  · subst q; exact ac232 h b
  by_cases q : n = 233
  · subst q; exact ac233 h b
  by_cases q : n = 235
  · subst q; exact ac235 h b
  by_cases q : n ≤ 239
  · exact aU224 h b hn (by omega) q (by omega)
  by_cases q : n = 244
  · subst q; exact ac244 h b
  by_cases q : n ≤ 245
  · exact aU240 h b hn (by omega) q (by omega)
  by_cases q : n = 246
  · subst q; exact ac246 h b
  by_cases q : n = 247
  · subst q; exact ac247 h b
  by_cases q : n = 248
  · subst q; exact ac248 h b
  by_cases q : n = 249
  · subst q; exact ac249 h b
  by_cases q : n = 250
  · subst q; exact ac250 h b
  by_cases q : n = 251
  · subst q; exact ac251 h b
  by_cases q : n = 252
  · subst q; exact ac252 h b
  by_cases q : n = 253
  · subst q; exact ac253 h b
  by_cases q : n = 254
  · subst q; exact ac254 h b
  by_cases q : n = 255
  · subst q; exact ac255 h b
  omega
