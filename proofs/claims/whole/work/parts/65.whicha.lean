/-! WHICH INSTRUCTION: the class's choice -/
theorem p4 {n : Nat} (hn : n < 256) : nI n >>> ((4 : Int32) &&& 31) = nI (n / 16) := pk_shrN (by omega) _ 4 (by decide)
theorem pf0 {n : Nat} (c : Sg) (hk : n / 16 = 0) : f_Pro_perform c (nI n) = f_Pro_perform_80 c (nI n) := by
  rw [f_Pro_perform, p4 (by omega), hk, if_pos (show nI 0 = 0 from rfl)]
theorem pf1 {n : Nat} (c : Sg) (hk : n / 16 = 1) : f_Pro_perform c (nI n) = f_Pro_perform_80 c (nI n) := by
  rw [f_Pro_perform, p4 (by omega), hk, if_neg (show ¬ nI 1 = 0 by decide), if_pos (show nI 1 = 1 from rfl)]
theorem pf2 {n : Nat} (c : Sg) (hk : n / 16 = 2) : f_Pro_perform c (nI n) = f_Pro_perform_80 c (nI n) := by
  rw [f_Pro_perform, p4 (by omega), hk, if_neg (show ¬ nI 2 = 0 by decide), if_neg (show ¬ nI 2 = 1 by decide), if_pos (show nI 2 = 2 from rfl)]
theorem pf3 {n : Nat} (c : Sg) (hk : n / 16 = 3) : f_Pro_perform c (nI n) = f_Pro_perform_80 c (nI n) := by
  rw [f_Pro_perform, p4 (by omega), hk, if_neg (show ¬ nI 3 = 0 by decide), if_neg (show ¬ nI 3 = 1 by decide), if_neg (show ¬ nI 3 = 2 by decide), if_pos (show nI 3 = 3 from rfl)]
theorem pf4 {n : Nat} (c : Sg) (hk : n / 16 = 4) : f_Pro_perform c (nI n) = f_Pro_countRegister c (nI n) := by
  rw [f_Pro_perform, p4 (by omega), hk, if_neg (show ¬ nI 4 = 0 by decide), if_neg (show ¬ nI 4 = 1 by decide), if_neg (show ¬ nI 4 = 2 by decide), if_neg (show ¬ nI 4 = 3 by decide), if_pos (show nI 4 = 4 from rfl), bnd_q]
theorem pf5 {n : Nat} (c : Sg) (hk : n / 16 = 5) : f_Pro_perform c (nI n) = f_Pro_registerOnStack c (nI n) := by
  rw [f_Pro_perform, p4 (by omega), hk, if_neg (show ¬ nI 5 = 0 by decide), if_neg (show ¬ nI 5 = 1 by decide), if_neg (show ¬ nI 5 = 2 by decide), if_neg (show ¬ nI 5 = 3 by decide), if_neg (show ¬ nI 5 = 4 by decide), if_pos (show nI 5 = 5 from rfl), bnd_q]
theorem pf6 {n : Nat} (c : Sg) (hk : n / 16 = 6) : f_Pro_perform c (nI n) = (0, c) := by
  rw [f_Pro_perform, p4 (by omega), hk, if_neg (show ¬ nI 6 = 0 by decide), if_neg (show ¬ nI 6 = 1 by decide), if_neg (show ¬ nI 6 = 2 by decide), if_neg (show ¬ nI 6 = 3 by decide), if_neg (show ¬ nI 6 = 4 by decide), if_neg (show ¬ nI 6 = 5 by decide), if_pos (show nI 6 = 6 from rfl)]
theorem pf7 {n : Nat} (c : Sg) (hk : n / 16 = 7) : f_Pro_perform c (nI n) = f_Pro_jumpIf c (nI n &&& 15) := by
  rw [f_Pro_perform, p4 (by omega), hk, if_neg (show ¬ nI 7 = 0 by decide), if_neg (show ¬ nI 7 = 1 by decide), if_neg (show ¬ nI 7 = 2 by decide), if_neg (show ¬ nI 7 = 3 by decide), if_neg (show ¬ nI 7 = 4 by decide), if_neg (show ¬ nI 7 = 5 by decide), if_neg (show ¬ nI 7 = 6 by decide), if_pos (show nI 7 = 7 from rfl), bnd_q]
theorem pf8 {n : Nat} (c : Sg) (hk : n / 16 = 8) : f_Pro_perform c (nI n) = (if 136 ≤ nI n then f_Pro_move c (nI n) else f_Pro_combineGiven c (nI n)) := by
  rw [f_Pro_perform, p4 (by omega), hk, if_neg (show ¬ nI 8 = 0 by decide), if_neg (show ¬ nI 8 = 1 by decide), if_neg (show ¬ nI 8 = 2 by decide), if_neg (show ¬ nI 8 = 3 by decide), if_neg (show ¬ nI 8 = 4 by decide), if_neg (show ¬ nI 8 = 5 by decide), if_neg (show ¬ nI 8 = 6 by decide), if_neg (show ¬ nI 8 = 7 by decide), if_pos (show nI 8 = 8 from rfl), bnd_q, bnd_q]
theorem pf9 {n : Nat} (c : Sg) (hk : n / 16 = 9) : f_Pro_perform c (nI n) = (if nI n = 144 then (1, c) else (0, c)) := by
  rw [f_Pro_perform, p4 (by omega), hk, if_neg (show ¬ nI 9 = 0 by decide), if_neg (show ¬ nI 9 = 1 by decide), if_neg (show ¬ nI 9 = 2 by decide), if_neg (show ¬ nI 9 = 3 by decide), if_neg (show ¬ nI 9 = 4 by decide), if_neg (show ¬ nI 9 = 5 by decide), if_neg (show ¬ nI 9 = 6 by decide), if_neg (show ¬ nI 9 = 7 by decide), if_neg (show ¬ nI 9 = 8 by decide), if_pos (show nI 9 = 9 from rfl)]
theorem pf10 {n : Nat} (c : Sg) (hk : n / 16 = 10) : f_Pro_perform c (nI n) = f_Pro_string c (nI n) := by
  rw [f_Pro_perform, p4 (by omega), hk, if_neg (show ¬ nI 10 = 0 by decide), if_neg (show ¬ nI 10 = 1 by decide), if_neg (show ¬ nI 10 = 2 by decide), if_neg (show ¬ nI 10 = 3 by decide), if_neg (show ¬ nI 10 = 4 by decide), if_neg (show ¬ nI 10 = 5 by decide), if_neg (show ¬ nI 10 = 6 by decide), if_neg (show ¬ nI 10 = 7 by decide), if_neg (show ¬ nI 10 = 8 by decide), if_neg (show ¬ nI 10 = 9 by decide), if_pos (show nI 10 = 10 from rfl), bnd_q]
theorem pf11 {n : Nat} (c : Sg) (hk : n / 16 = 11) : f_Pro_perform c (nI n) = f_Pro_moveGiven c (nI n) := by
  rw [f_Pro_perform, p4 (by omega), hk, if_neg (show ¬ nI 11 = 0 by decide), if_neg (show ¬ nI 11 = 1 by decide), if_neg (show ¬ nI 11 = 2 by decide), if_neg (show ¬ nI 11 = 3 by decide), if_neg (show ¬ nI 11 = 4 by decide), if_neg (show ¬ nI 11 = 5 by decide), if_neg (show ¬ nI 11 = 6 by decide), if_neg (show ¬ nI 11 = 7 by decide), if_neg (show ¬ nI 11 = 8 by decide), if_neg (show ¬ nI 11 = 9 by decide), if_neg (show ¬ nI 11 = 10 by decide), if_pos (show nI 11 = 11 from rfl), bnd_q]
theorem pf12 {n : Nat} (c : Sg) (hk : n / 16 = 12) : f_Pro_perform c (nI n) = f_Pro_leave c (nI n) := by
  rw [f_Pro_perform, p4 (by omega), hk, if_neg (show ¬ nI 12 = 0 by decide), if_neg (show ¬ nI 12 = 1 by decide), if_neg (show ¬ nI 12 = 2 by decide), if_neg (show ¬ nI 12 = 3 by decide), if_neg (show ¬ nI 12 = 4 by decide), if_neg (show ¬ nI 12 = 5 by decide), if_neg (show ¬ nI 12 = 6 by decide), if_neg (show ¬ nI 12 = 7 by decide), if_neg (show ¬ nI 12 = 8 by decide), if_neg (show ¬ nI 12 = 9 by decide), if_neg (show ¬ nI 12 = 10 by decide), if_neg (show ¬ nI 12 = 11 by decide), if_pos (show nI 12 = 12 from rfl), bnd_q]
theorem pf13 {n : Nat} (c : Sg) (hk : n / 16 = 13) : f_Pro_perform c (nI n) = (0, c) := by
  rw [f_Pro_perform, p4 (by omega), hk, if_neg (show ¬ nI 13 = 0 by decide), if_neg (show ¬ nI 13 = 1 by decide), if_neg (show ¬ nI 13 = 2 by decide), if_neg (show ¬ nI 13 = 3 by decide), if_neg (show ¬ nI 13 = 4 by decide), if_neg (show ¬ nI 13 = 5 by decide), if_neg (show ¬ nI 13 = 6 by decide), if_neg (show ¬ nI 13 = 7 by decide), if_neg (show ¬ nI 13 = 8 by decide), if_neg (show ¬ nI 13 = 9 by decide), if_neg (show ¬ nI 13 = 10 by decide), if_neg (show ¬ nI 13 = 11 by decide), if_neg (show ¬ nI 13 = 12 by decide), if_pos (show nI 13 = 13 from rfl)]
theorem pf14 {n : Nat} (c : Sg) (hk : n / 16 = 14) : f_Pro_perform c (nI n) = f_Pro_jumpOrPort c (nI n) := by
  rw [f_Pro_perform, p4 (by omega), hk, if_neg (show ¬ nI 14 = 0 by decide), if_neg (show ¬ nI 14 = 1 by decide), if_neg (show ¬ nI 14 = 2 by decide), if_neg (show ¬ nI 14 = 3 by decide), if_neg (show ¬ nI 14 = 4 by decide), if_neg (show ¬ nI 14 = 5 by decide), if_neg (show ¬ nI 14 = 6 by decide), if_neg (show ¬ nI 14 = 7 by decide), if_neg (show ¬ nI 14 = 8 by decide), if_neg (show ¬ nI 14 = 9 by decide), if_neg (show ¬ nI 14 = 10 by decide), if_neg (show ¬ nI 14 = 11 by decide), if_neg (show ¬ nI 14 = 12 by decide), if_neg (show ¬ nI 14 = 13 by decide), if_pos (show nI 14 = 14 from rfl), bnd_q]
theorem pf15 {n : Nat} (c : Sg) (hk : n / 16 = 15) : f_Pro_perform c (nI n) = (if nI n < 254 then (if 248 ≤ nI n then f_Pro_setFlag c (nI n) else f_Pro_haltOrUnary c (nI n)) else (if nI n = 255 then f_Pro_perform_202 c 1 else f_Pro_perform_202 c 0)) := by
  rw [f_Pro_perform, p4 (by omega), hk, if_neg (show ¬ nI 15 = 0 by decide), if_neg (show ¬ nI 15 = 1 by decide), if_neg (show ¬ nI 15 = 2 by decide), if_neg (show ¬ nI 15 = 3 by decide), if_neg (show ¬ nI 15 = 4 by decide), if_neg (show ¬ nI 15 = 5 by decide), if_neg (show ¬ nI 15 = 6 by decide), if_neg (show ¬ nI 15 = 7 by decide), if_neg (show ¬ nI 15 = 8 by decide), if_neg (show ¬ nI 15 = 9 by decide), if_neg (show ¬ nI 15 = 10 by decide), if_neg (show ¬ nI 15 = 11 by decide), if_neg (show ¬ nI 15 = 12 by decide), if_neg (show ¬ nI 15 = 13 by decide), if_neg (show ¬ nI 15 = 14 by decide), if_pos (show nI 15 = 15 from rfl), bnd_q, bnd_q]
theorem p80c {n : Nat} (c : Sg) (hn : n < 64) (h : n % 8 < 6) : f_Pro_perform c (nI n) = f_Pro_combine c (nI n) := by
  have e : f_Pro_perform_80 c (nI n) = f_Pro_combine c (nI n) := by
    rw [f_Pro_perform_80, a7 (by omega), if_neg (geN (K := 6) (k := 6) rfl h (by decide)), bnd_q]
  have q : n / 16 = 0 ∨ n / 16 = 1 ∨ n / 16 = 2 ∨ n / 16 = 3 := by omega
  rcases q with q | q | q | q
  · rw [pf0 c q, e]
  · rw [pf1 c q, e]
  · rw [pf2 c q, e]
  · rw [pf3 c q, e]
theorem p80s {n : Nat} (c : Sg) (hn : n < 64) (h : 6 ≤ n % 8) : f_Pro_perform c (nI n) = f_Pro_segmentOnStack c (nI n) := by
  have e : f_Pro_perform_80 c (nI n) = f_Pro_segmentOnStack c (nI n) := by
    rw [f_Pro_perform_80, a7 (by omega), if_pos (geY (K := 6) (k := 6) rfl h (by omega)), bnd_q]
  have q : n / 16 = 0 ∨ n / 16 = 1 ∨ n / 16 = 2 ∨ n / 16 = 3 := by omega
  rcases q with q | q | q | q
  · rw [pf0 c q, e]
  · rw [pf1 c q, e]
  · rw [pf2 c q, e]
  · rw [pf3 c q, e]
theorem r6 : ∀ r : Nat, r < 6 → ((nI r &&& 4 = 0 ↔ nI r < 4) ∧ (nI r < 4 → (nI r &&& 2 = 0 ↔ ¬ 2 ≤ nI r))) := by decide
theorem aComb {c t : Sg} (h : RR c t) (b : BG c t) {n : Nat} (hn : n < 64) (hr : n % 8 < 6) : Ans (f_Pro_perform c (nI n)) (f_Mod_execute t (nI n)) := by
  rw [p80c c hn hr, xComb t hn hr, f_Pro_combine, f_Mod_combinations]
  have e7 := a7 (n := n) (by omega)
  have e1 : (nI n &&& 7) &&& 1 = nI n &&& 1 := by rw [Int32.and_assoc]; rfl
  have e2 : nI n &&& 2 = nI (n % 8) &&& 2 := by rw [← e7, Int32.and_assoc]; rfl
  have e4 : nI n &&& 4 = nI (n % 8) &&& 4 := by rw [← e7, Int32.and_assoc]; rfl
  obtain ⟨g1, g2⟩ := r6 _ hr
  rw [← e4] at g1
  rw [← e2] at g2
  rw [e1, e7]
  by_cases q : nI n &&& 1 = 1
  · rw [if_pos q, if_pos q]
    exact comb16 h b _ _ _ _ g1 g2
  · rw [if_neg q, if_neg q]
    exact comb16 h b _ _ _ _ g1 g2
theorem ac6 {c t : Sg} (h : RR c t) (b : BG c t) : Ans (f_Pro_perform c (nI 6)) (f_Mod_execute t (nI 6)) := by
  have hn : 6 < 256 := by decide
  rw [p80s c (by decide) (by decide), xStk t (by unfold Z; omega), f_Pro_segmentOnStack, if_pos (show (nI 6 >>> ((3 : Int32) &&& 31)) ≤ 3 by decide), if_pos (show nI 6 &&& 1 = 0 by decide), bnd_q, f_Mod_stack, bnd_q, in_n (L := 80) (H := 87) (lo := 80) (hi := 87) rfl rfl (by omega) hn (by decide), if_pos rfl, f_Mod_stack_24, bnd_q, in_n (L := 88) (H := 95) (lo := 88) (hi := 95) rfl rfl (by omega) hn (by decide), if_pos rfl, f_Mod_stack_50, if_neg (show ¬ 32 ≤ nI 6 by decide), if_pos (show nI 6 &&& 7 = 6 by decide), bnd_q, f_Mod_stack_77, if_neg (show ¬ 32 ≤ nI 6 by decide), if_neg (show ¬ nI 6 &&& 7 = 7 by decide)]
  exact pseg h b _
theorem ac14 {c t : Sg} (h : RR c t) (b : BG c t) : Ans (f_Pro_perform c (nI 14)) (f_Mod_execute t (nI 14)) := by
  have hn : 14 < 256 := by decide
  rw [p80s c (by decide) (by decide), xStk t (by unfold Z; omega), f_Pro_segmentOnStack, if_pos (show (nI 14 >>> ((3 : Int32) &&& 31)) ≤ 3 by decide), if_pos (show nI 14 &&& 1 = 0 by decide), bnd_q, f_Mod_stack, bnd_q, in_n (L := 80) (H := 87) (lo := 80) (hi := 87) rfl rfl (by omega) hn (by decide), if_pos rfl, f_Mod_stack_24, bnd_q, in_n (L := 88) (H := 95) (lo := 88) (hi := 95) rfl rfl (by omega) hn (by decide), if_pos rfl, f_Mod_stack_50, if_neg (show ¬ 32 ≤ nI 14 by decide), if_pos (show nI 14 &&& 7 = 6 by decide), bnd_q, f_Mod_stack_77, if_neg (show ¬ 32 ≤ nI 14 by decide), if_neg (show ¬ nI 14 &&& 7 = 7 by decide)]
  exact pseg h b _
theorem ac22 {c t : Sg} (h : RR c t) (b : BG c t) : Ans (f_Pro_perform c (nI 22)) (f_Mod_execute t (nI 22)) := by
  have hn : 22 < 256 := by decide
  rw [p80s c (by decide) (by decide), xStk t (by unfold Z; omega), f_Pro_segmentOnStack, if_pos (show (nI 22 >>> ((3 : Int32) &&& 31)) ≤ 3 by decide), if_pos (show nI 22 &&& 1 = 0 by decide), bnd_q, f_Mod_stack, bnd_q, in_n (L := 80) (H := 87) (lo := 80) (hi := 87) rfl rfl (by omega) hn (by decide), if_pos rfl, f_Mod_stack_24, bnd_q, in_n (L := 88) (H := 95) (lo := 88) (hi := 95) rfl rfl (by omega) hn (by decide), if_pos rfl, f_Mod_stack_50, if_neg (show ¬ 32 ≤ nI 22 by decide), if_pos (show nI 22 &&& 7 = 6 by decide), bnd_q, f_Mod_stack_77, if_neg (show ¬ 32 ≤ nI 22 by decide), if_neg (show ¬ nI 22 &&& 7 = 7 by decide)]
  exact pseg h b _
theorem ac30 {c t : Sg} (h : RR c t) (b : BG c t) : Ans (f_Pro_perform c (nI 30)) (f_Mod_execute t (nI 30)) := by
  have hn : 30 < 256 := by decide
  rw [p80s c (by decide) (by decide), xStk t (by unfold Z; omega), f_Pro_segmentOnStack, if_pos (show (nI 30 >>> ((3 : Int32) &&& 31)) ≤ 3 by decide), if_pos (show nI 30 &&& 1 = 0 by decide), bnd_q, f_Mod_stack, bnd_q, in_n (L := 80) (H := 87) (lo := 80) (hi := 87) rfl rfl (by omega) hn (by decide), if_pos rfl, f_Mod_stack_24, bnd_q, in_n (L := 88) (H := 95) (lo := 88) (hi := 95) rfl rfl (by omega) hn (by decide), if_pos rfl, f_Mod_stack_50, if_neg (show ¬ 32 ≤ nI 30 by decide), if_pos (show nI 30 &&& 7 = 6 by decide), bnd_q, f_Mod_stack_77, if_neg (show ¬ 32 ≤ nI 30 by decide), if_neg (show ¬ nI 30 &&& 7 = 7 by decide)]
  exact pseg h b _
theorem ac7 {c t : Sg} (h : RR c t) (b : BG c t) : Ans (f_Pro_perform c (nI 7)) (f_Mod_execute t (nI 7)) := by
  have hn : 7 < 256 := by decide
  rw [p80s c (by decide) (by decide), xStk t (by unfold Z; omega), f_Pro_segmentOnStack, if_pos (show (nI 7 >>> ((3 : Int32) &&& 31)) ≤ 3 by decide), if_neg (show ¬ nI 7 &&& 1 = 0 by decide), if_neg (show ¬ nI 7 >>> ((3 : Int32) &&& 31) = 1 by decide), bnd_q, bnd_q, if_neg (show ¬ nI 7 >>> ((3 : Int32) &&& 31) = 2 by decide), bnd_q, f_Mod_stack, bnd_q, in_n (L := 80) (H := 87) (lo := 80) (hi := 87) rfl rfl (by omega) hn (by decide), if_pos rfl, f_Mod_stack_24, bnd_q, in_n (L := 88) (H := 95) (lo := 88) (hi := 95) rfl rfl (by omega) hn (by decide), if_pos rfl, f_Mod_stack_50, if_neg (show ¬ 32 ≤ nI 7 by decide), if_neg (show ¬ nI 7 &&& 7 = 6 by decide), f_Mod_stack_77, if_neg (show ¬ 32 ≤ nI 7 by decide), if_pos (show nI 7 &&& 7 = 7 by decide), bnd_q, bnd_q, if_neg (show ¬ nI 7 = 23 by decide), bnd_q]
  exact rseg h b _ (Or.inl rfl)
theorem ac23 {c t : Sg} (h : RR c t) (b : BG c t) : Ans (f_Pro_perform c (nI 23)) (f_Mod_execute t (nI 23)) := by
  have hn : 23 < 256 := by decide
  rw [p80s c (by decide) (by decide), xStk t (by unfold Z; omega), f_Pro_segmentOnStack, if_pos (show (nI 23 >>> ((3 : Int32) &&& 31)) ≤ 3 by decide), if_neg (show ¬ nI 23 &&& 1 = 0 by decide), if_neg (show ¬ nI 23 >>> ((3 : Int32) &&& 31) = 1 by decide), bnd_q, bnd_q, if_pos (show nI 23 >>> ((3 : Int32) &&& 31) = 2 by decide), bnd_q, f_Mod_stack, bnd_q, in_n (L := 80) (H := 87) (lo := 80) (hi := 87) rfl rfl (by omega) hn (by decide), if_pos rfl, f_Mod_stack_24, bnd_q, in_n (L := 88) (H := 95) (lo := 88) (hi := 95) rfl rfl (by omega) hn (by decide), if_pos rfl, f_Mod_stack_50, if_neg (show ¬ 32 ≤ nI 23 by decide), if_neg (show ¬ nI 23 &&& 7 = 6 by decide), f_Mod_stack_77, if_neg (show ¬ 32 ≤ nI 23 by decide), if_pos (show nI 23 &&& 7 = 7 by decide), bnd_q, bnd_q, if_pos (show nI 23 = 23 by decide), bnd_q]
  exact rseg h b _ (Or.inr rfl)
theorem ac31 {c t : Sg} (h : RR c t) (b : BG c t) : Ans (f_Pro_perform c (nI 31)) (f_Mod_execute t (nI 31)) := by
  have hn : 31 < 256 := by decide
  rw [p80s c (by decide) (by decide), xStk t (by unfold Z; omega), f_Pro_segmentOnStack, if_pos (show (nI 31 >>> ((3 : Int32) &&& 31)) ≤ 3 by decide), if_neg (show ¬ nI 31 &&& 1 = 0 by decide), if_neg (show ¬ nI 31 >>> ((3 : Int32) &&& 31) = 1 by decide), bnd_q, bnd_q, if_neg (show ¬ nI 31 >>> ((3 : Int32) &&& 31) = 2 by decide), bnd_q, f_Mod_stack, bnd_q, in_n (L := 80) (H := 87) (lo := 80) (hi := 87) rfl rfl (by omega) hn (by decide), if_pos rfl, f_Mod_stack_24, bnd_q, in_n (L := 88) (H := 95) (lo := 88) (hi := 95) rfl rfl (by omega) hn (by decide), if_pos rfl, f_Mod_stack_50, if_neg (show ¬ 32 ≤ nI 31 by decide), if_neg (show ¬ nI 31 &&& 7 = 6 by decide), f_Mod_stack_77, if_neg (show ¬ 32 ≤ nI 31 by decide), if_pos (show nI 31 &&& 7 = 7 by decide), bnd_q, bnd_q, if_neg (show ¬ nI 31 = 23 by decide), bnd_q]
  exact rseg h b _ (Or.inl rfl)
theorem aUnk {c t : Sg} (h : RR c t) (b : BG c t) {n : Nat} (ec : f_Pro_perform c (nI n) = (0, c)) (et : f_Mod_execute t (nI n) = up2 t 15 16 1) : Ans (f_Pro_perform c (nI n)) (f_Mod_execute t (nI n)) := by
  rw [ec, et]
  exact ans0 h b
theorem ac15 {c t : Sg} (h : RR c t) (b : BG c t) : Ans (f_Pro_perform c (nI 15)) (f_Mod_execute t (nI 15)) := by
  have hn : 15 < 256 := by decide
  refine aUnk h b ?_ (xUnk t hn (by unfold J; omega) (by unfold Z; omega) (by omega) (by omega) (by omega) (by omega) (by omega) (by omega) (by omega) (by omega) (by omega))
  rw [p80s c (by decide) (by decide), f_Pro_segmentOnStack, if_pos (show (nI 15 >>> ((3 : Int32) &&& 31)) ≤ 3 by decide), if_neg (show ¬ nI 15 &&& 1 = 0 by decide), if_pos (show nI 15 >>> ((3 : Int32) &&& 31) = 1 by decide)]
theorem aU32 {c t : Sg} (h : RR c t) (b : BG c t) {n : Nat} (hn : n < 256) (h1 : 32 ≤ n) (h2 : n < 64) (h3 : 6 ≤ n % 8) : Ans (f_Pro_perform c (nI n)) (f_Mod_execute t (nI n)) := by
  refine aUnk h b ?_ (xUnk t hn (by unfold J; omega) (by unfold Z; omega) (by omega) (by omega) (by omega) (by omega) (by omega) (by omega) (by omega) (by omega) (by omega))
  rw [p80s c h2 h3, f_Pro_segmentOnStack, pk_shrN (by omega) ((3 : Int32) &&& 31) 3 (by decide), if_neg (leN (K := 3) (k := 3) rfl (by omega) (by omega))]
theorem aInc {c t : Sg} (h : RR c t) (b : BG c t) {n : Nat} (hn : n < 256) (h1 : 64 ≤ n) (h2 : n ≤ 71) : Ans (f_Pro_perform c (nI n)) (f_Mod_execute t (nI n)) := by
  rw [pf4 c (by omega), xInc t hn h1 h2, f_Pro_countRegister, if_neg (geN (K := 72) (k := 72) rfl (by omega) (by decide)), bnd_q, bnd_q, f_Mod_execute_176, bnd_q, bnd_q]
  exact cmore h b _
theorem aDec {c t : Sg} (h : RR c t) (b : BG c t) {n : Nat} (hn : n < 256) (h1 : 72 ≤ n) (h2 : n ≤ 79) : Ans (f_Pro_perform c (nI n)) (f_Mod_execute t (nI n)) := by
  rw [pf4 c (by omega), xDec t hn h1 h2, f_Pro_countRegister, if_pos (geY (K := 72) (k := 72) rfl (by omega) hn), bnd_q, bnd_q, f_Mod_execute_176, bnd_q, bnd_q]
  exact cless h b _
theorem aPush {c t : Sg} (h : RR c t) (b : BG c t) {n : Nat} (hn : n < 256) (h1 : 80 ≤ n) (h2 : n ≤ 87) : Ans (f_Pro_perform c (nI n)) (f_Mod_execute t (nI n)) := by
  rw [pf5 c (by omega), xPP t hn h1 (by omega), f_Pro_registerOnStack, if_neg (geN (K := 88) (k := 88) rfl (by omega) (by decide)), bnd_q, f_Mod_stack, bnd_q, in_y (L := 80) (H := 87) (lo := 80) (hi := 87) rfl rfl (by omega) (by omega) hn (by decide), if_neg (show ¬ (1 : Int32) = 0 by decide), bnd_q, f_Mod_stack_24, bnd_q, in_n (L := 88) (H := 95) (lo := 88) (hi := 95) rfl rfl (by omega) hn (by decide), if_pos rfl, f_Mod_stack_50, if_pos (geY (K := 32) (k := 32) rfl (by omega) hn), f_Mod_stack_77, if_pos (geY (K := 32) (k := 32) rfl (by omega) hn)]
  exact pwor h b _
theorem aPop {c t : Sg} (h : RR c t) (b : BG c t) {n : Nat} (hn : n < 256) (h1 : 88 ≤ n) (h2 : n ≤ 95) : Ans (f_Pro_perform c (nI n)) (f_Mod_execute t (nI n)) := by
  rw [pf5 c (by omega), xPP t hn (by omega) h2, f_Pro_registerOnStack, if_pos (geY (K := 88) (k := 88) rfl (by omega) hn), bnd_q, bnd_q, f_Mod_stack, bnd_q, in_n (L := 80) (H := 87) (lo := 80) (hi := 87) rfl rfl (by omega) hn (by decide), if_pos rfl, f_Mod_stack_24, bnd_q, in_y (L := 88) (H := 95) (lo := 88) (hi := 95) rfl rfl (by omega) (by omega) hn (by decide), if_neg (show ¬ (1 : Int32) = 0 by decide), bnd_q, bnd_q, f_Mod_stack_50, if_pos (geY (K := 32) (k := 32) rfl (by omega) hn), f_Mod_stack_77, if_pos (geY (K := 32) (k := 32) rfl (by omega) hn)]
  exact rwor h b _
theorem aU96 {c t : Sg} (h : RR c t) (b : BG c t) {n : Nat} (hn : n < 256) (h1 : 96 ≤ n) (h2 : n ≤ 111) : Ans (f_Pro_perform c (nI n)) (f_Mod_execute t (nI n)) := by
  exact aUnk h b (pf6 c (by omega)) (xUnk t hn (by unfold J; omega) (by unfold Z; omega) (by omega) (by omega) (by omega) (by omega) (by omega) (by omega) (by omega) (by omega) (by omega))
theorem d15 {n : Nat} (hn : n < 256) : nI n &&& 15 = nI (n % 16) := pk_andN (by omega) 4 rfl
theorem aJcc {c t : Sg} (h : RR c t) (b : BG c t) {n : Nat} (hn : n < 256) (h1 : 112 ≤ n) (h2 : n ≤ 127) (h3 : n ≠ 122) (h4 : n ≠ 123) : Ans (f_Pro_perform c (nI n)) (f_Mod_execute t (nI n)) := by
  have q1 : ¬ nI n &&& 15 = 10 := by rw [d15 hn]; exact nE (k := 10) rfl (by omega) (by omega) (by decide)
  have q2 : ¬ nI n &&& 15 = 11 := by rw [d15 hn]; exact nE (k := 11) rfl (by omega) (by omega) (by decide)
  rw [pf7 c (by omega), xJ t hn (by unfold J; omega), f_Pro_jumpIf, if_neg q1, if_neg q2, bnd_q, bnd_q, f_Mod_jumps, if_neg (nE (K := 195) (k := 195) rfl (by omega) hn (by decide)), if_neg (nE (K := 232) (k := 232) rfl (by omega) hn (by decide)), if_neg (nE (K := 233) (k := 233) rfl (by omega) hn (by decide)), bnd_q, f_Mod_jumps_41, if_neg (nE (K := 226) (k := 226) rfl (by omega) hn (by decide)), f_Mod_jumps_83, bnd_q, in_y (L := 112) (H := 127) (lo := 112) (hi := 127) rfl rfl (by omega) (by omega) hn (by decide), if_neg (show ¬ (1 : Int32) = 0 by decide), bnd_q, f_Mod_jumps_103, if_neg (nE (K := 232) (k := 232) rfl (by omega) hn (by decide))]
  exact jif h b _
theorem aU122 {c t : Sg} (h : RR c t) (b : BG c t) {n : Nat} (hn : n < 256) (h1 : n = 122 ∨ n = 123) : Ans (f_Pro_perform c (nI n)) (f_Mod_execute t (nI n)) := by
  refine aUnk h b ?_ (xUnk t hn (by unfold J; omega) (by unfold Z; omega) (by omega) (by omega) (by omega) (by omega) (by omega) (by omega) (by omega) (by omega) (by omega))
  rcases h1 with rfl | rfl
  · rw [pf7 c (by decide), f_Pro_jumpIf, if_pos (show nI 122 &&& 15 = 10 by decide)]
  · rw [pf7 c (by decide), f_Pro_jumpIf, if_neg (show ¬ nI 123 &&& 15 = 10 by decide), if_pos (show nI 123 &&& 15 = 11 by decide)]
theorem ac128 {c t : Sg} (h : RR c t) (b : BG c t) : Ans (f_Pro_perform c (nI 128)) (f_Mod_execute t (nI 128)) := by
  have hn : 128 < 256 := by decide
  rw [pf8 c (by decide), if_neg (show ¬ 136 ≤ nI 128 by decide), x128, f_Pro_combineGiven, if_neg (show ¬ 131 < nI 128 by decide), if_neg (show ¬ nI 128 = 130 by decide), if_pos (show nI 128 = 128 by decide), f_Mod_withImmediate, if_pos (show nI 128 = 128 by decide)]
  exact cg28 h b (by decide)
theorem ac129 {c t : Sg} (h : RR c t) (b : BG c t) : Ans (f_Pro_perform c (nI 129)) (f_Mod_execute t (nI 129)) := by
  have hn : 129 < 256 := by decide
  rw [pf8 c (by decide), if_neg (show ¬ 136 ≤ nI 129 by decide), x129, f_Pro_combineGiven, if_neg (show ¬ 131 < nI 129 by decide), if_neg (show ¬ nI 129 = 130 by decide), if_neg (show ¬ nI 129 = 128 by decide), f_Mod_withImmediate, if_neg (show ¬ nI 129 = 128 by decide)]
  exact cg28 h b (by decide)
theorem ac131 {c t : Sg} (h : RR c t) (b : BG c t) : Ans (f_Pro_perform c (nI 131)) (f_Mod_execute t (nI 131)) := by
  have hn : 131 < 256 := by decide
  rw [pf8 c (by decide), if_neg (show ¬ 136 ≤ nI 131 by decide), x131, f_Pro_combineGiven, if_neg (show ¬ 131 < nI 131 by decide), if_neg (show ¬ nI 131 = 130 by decide), if_neg (show ¬ nI 131 = 128 by decide), f_Mod_withImmediate, if_neg (show ¬ nI 131 = 128 by decide)]
  exact cg131 h b
theorem aU130 {c t : Sg} (h : RR c t) (b : BG c t) {n : Nat} (hn : n < 256) (h1 : n = 130 ∨ (132 ≤ n ∧ n ≤ 135)) : Ans (f_Pro_perform c (nI n)) (f_Mod_execute t (nI n)) := by
  refine aUnk h b ?_ (xUnk t hn (by unfold J; omega) (by unfold Z; omega) (by omega) (by omega) (by omega) (by omega) (by omega) (by omega) (by omega) (by omega) (by omega))
  rw [pf8 c (by omega), if_neg (geN (K := 136) (k := 136) rfl (by omega) (by decide)), f_Pro_combineGiven]
  by_cases q : n = 130
  · subst q
    rw [if_neg (show ¬ 131 < nI 130 by decide), if_pos (show nI 130 = 130 by decide)]
  · rw [if_pos (show (131 : Int32) < nI n from nI_lt (a := 131) (by omega) (by omega))]
