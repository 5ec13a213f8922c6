/-! STRING INSTRUCTIONS side by side -/
def dd (F w : Int32) : Int32 := (if w = 0 then 1 else 2) * (if F &&& 1024 = 0 then 1 else -1)
theorem go_eq (t : Sg) (k w : Int32) : f_Mod_go t k w = up2 t 17 (Int32.toNatClampNeg k) ((t 17 (Int32.toNatClampNeg k) + dd (t 15 4) w) &&& 65535) := by
  unfold f_Mod_go f_Mod_go_9 dd
  simp only [is_eq, bnd_q]
  have m1 : (1 : Int32) * 1 = 1 := by decide
  have m2 : (2 : Int32) * 1 = 2 := by decide
  have m3 : (1 : Int32) * -1 = -1 := by decide
  have m4 : (2 : Int32) * -1 = -2 := by decide
  by_cases hw : w = 0
  · rw [if_pos hw, if_pos hw]
    by_cases hf : t 15 4 &&& 1024 = 0
    · rw [if_pos (b01_n (fun q => q hf)), if_pos hf, m1]
    · rw [if_neg (by rw [b01_1 hf]; decide), if_neg hf, m3, Int32.sub_eq_add_neg]
  · rw [if_neg hw, if_neg hw]
    by_cases hf : t 15 4 &&& 1024 = 0
    · rw [if_pos (b01_n (fun q => q hf)), if_pos hf, m2]
    · rw [if_neg (by rw [b01_1 hf]; decide), if_neg hf, m4, Int32.sub_eq_add_neg]
theorem tl_eq (c : Sg) (w X x6 x7 : Int32) : f_Pro_stringOnce_187 c w X x6 x7 = (if X = 164 then f_Pro_stringOnce_231 c X x6 x7 (dd (c 6 0) w) else if X = 172 then f_Pro_stringOnce_231 c X x6 x7 (dd (c 6 0) w) else f_Pro_stringOnce_249 c X x7 (dd (c 6 0) w)) := by
  unfold f_Pro_stringOnce_187 f_Pro_stringOnce_196 f_Pro_stringOnce_214 dd
  simp only [on_eq, bnd_q]
  by_cases hw : w = 0
  · rw [if_pos hw, if_pos hw]
    by_cases hf : c 6 0 &&& 1024 = 0
    · rw [if_pos (b01_n (fun q => q hf)), if_pos hf]
    · rw [if_neg (by rw [b01_1 hf]; decide), if_neg hf]
  · rw [if_neg hw, if_neg hw]
    by_cases hf : c 6 0 &&& 1024 = 0
    · rw [if_pos (b01_n (fun q => q hf)), if_pos hf]
    · rw [if_neg (by rw [b01_1 hf]; decide), if_neg hf]
/-- behind it all stands alike, and the count is as it was -/
def SX (c t c2 t2 : Sg) : Prop := ST c t c2 t2 ∧ t2 17 1 = t 17 1
theorem zn6 : Int32.toNatClampNeg (6 : Int32) = 6 := by decide
theorem zn7 : Int32.toNatClampNeg (7 : Int32) = 7 := by decide
theorem zn1 : Int32.toNatClampNeg (1 : Int32) = 1 := by decide
theorem zn0 : Int32.toNatClampNeg (0 : Int32) = 0 := by decide
theorem tail_eq {c t c2 t2 : Sg} (s : SX c t c2 t2) {w X x6 x7 : Int32} (h6 : c2 4 6 = x6) (h7 : c2 4 7 = x7) (hX : X = 164 ∨ X = 170 ∨ X = 172 ∨ X = 174) : SX c t (f_Pro_stringOnce_187 c2 w X x6 x7) (f_Mod_string_176 t2 w X) := by
  obtain ⟨s, s1⟩ := s
  rw [tl_eq, s.1.fl.1]
  have e6 : t2 17 6 = x6 := by rw [← (s.1.2.1.2.1 6).1]; exact h6
  have e7 : t2 17 7 = x7 := by rw [← (s.1.2.1.2.1 7).1]; exact h7
  unfold f_Mod_string_176 f_Mod_string_190 f_Mod_string_197 f_Pro_stringOnce_231 f_Pro_stringOnce_249
  simp only [bnd_q, go_eq, zn6, zn7]
  generalize hd : dd (t2 15 4) w = d
  have hd' : dd (up2 t2 17 6 ((t2 17 6 + d) &&& 65535) 15 4) w = d := hd
  rw [hd', e6, show up2 t2 17 6 ((x6 + d) &&& 65535) 17 7 = x7 from e7, e7]
  have sa := s.tr (swor s.1 6 (rng3_and (x6 + d)))
  have sb := sa.tr (swor sa.1 7 (rng3_and (x7 + d)))
  have sc := s.tr (swor s.1 7 (rng3_and (x7 + d)))
  rcases hX with rfl | rfl | rfl | rfl
  · rw [if_pos rfl, if_pos rfl, if_neg (by decide), if_neg (by decide)]
    exact ⟨sb, s1⟩
  · rw [if_neg (by decide), if_neg (by decide), if_neg (by decide), if_neg (by decide), if_neg (by decide), if_neg (by decide)]
    exact ⟨sc, s1⟩
  · exact ⟨sa, s1⟩
  · rw [if_neg (by decide), if_neg (by decide), if_neg (by decide), if_neg (by decide), if_neg (by decide), if_neg (by decide)]
    exact ⟨sc, s1⟩
theorem rc0 (c : Sg) (w v : Int32) (j : Nat) (hj : j ≠ 0) : f_Reg_change c 0 w v 4 j = c 4 j := by
  unfold f_Reg_change
  split
  · split
    · exact up2_get (fun q => hj (by rw [q.2]; decide))
    · exact up2_get (fun q => hj (by rw [q.2]; decide))
  · exact up2_get (fun q => hj (by rw [q.2]; decide))
theorem sg_or {c t : Sg} (h : RR c t) (b : BG c t) : ∃ S y, f_Dec_segmentOr c 3 = (S, c) ∧ t 18 (Int32.toNatClampNeg y) = S ∧ ∀ x w, f_Mod_string_12 t x w = f_Mod_string_38 t w (x &&& 254) y := by
  obtain ⟨e, r⟩ := b.2.1
  unfold f_Dec_segmentOr f_Mod_string_12
  rcases r with r | r
  · rw [e, r, if_pos rfl]
    refine ⟨_, 3, rfl, ?_, fun x w => if_pos (by decide)⟩
    rw [(h.2.1.2.2 _).1]; rfl
  · have hn : ¬ t 15 10 < 0 := fun q => r (Or.inl q)
    rw [e, if_neg (fun q => hn (by rw [q]; decide)), and_id (k := 2) rfl (by decide) r]
    exact ⟨_, t 15 10, rfl, (h.2.1.2.2 _).1.symm, fun x w => if_neg hn⟩
theorem m4 (c : Sg) (s o w v : Int32) : f_Mem_store c s o w v 4 = c 4 := p_Mem_store (P := fun z => z 4 = c 4) (WP_cell (R := fun m => m = c 4) rfl) rfl
theorem SXm {c t c2 t2 : Sg} (h : RR c t) (s : ST c t c2 t2) (e : c2 4 1 = c 4 1) : SX c t c2 t2 := ⟨s, by rw [← (s.1.2.1.2.1 1).1, e, (h.2.1.2.1 1).1]⟩
theorem w164 (t : Sg) (w S : Int32) : f_Mod_string_80 t w 164 S = f_Mod_string_176 t w 164 := by
  rw [f_Mod_string_80, if_neg (by decide), f_Mod_string_111, if_neg (by decide), f_Mod_string_138, if_neg (by decide)]
theorem w170 (t : Sg) (w S : Int32) : f_Mod_string_80 t w 170 S = f_Mod_string_176 (f_Mod_set (f_Mod_getRegister t 0 w).2 (t 18 0) (t 17 7) (f_Mod_getRegister t 0 w).1 w) w 170 := by
  rw [f_Mod_string_80, if_pos rfl, bnd_q, bnd_q, f_Mod_string_111, if_neg (by decide), f_Mod_string_138, if_neg (by decide), zn0, zn7]
theorem w172 (t : Sg) (w S : Int32) : f_Mod_string_80 t w 172 S = f_Mod_string_176 (f_Mod_setRegister (f_Mod_get t S (t 17 6) w).2 0 (f_Mod_get t S (t 17 6) w).1 w) w 172 := by
  rw [f_Mod_string_80, if_neg (by decide), f_Mod_string_111, if_pos rfl, bnd_q, bnd_q, f_Mod_string_138, if_neg (by decide), zn6]
theorem w174 (t : Sg) (w S : Int32) : f_Mod_string_80 t w 174 S = f_Mod_string_176 (f_Mod_less (f_Mod_get (f_Mod_getRegister t 0 w).2 ((f_Mod_getRegister t 0 w).2 18 0) ((f_Mod_getRegister t 0 w).2 17 7) w).2 (f_Mod_getRegister t 0 w).1 (f_Mod_get (f_Mod_getRegister t 0 w).2 ((f_Mod_getRegister t 0 w).2 18 0) ((f_Mod_getRegister t 0 w).2 17 7) w).1 0 w).2 w 174 := by
  rw [f_Mod_string_80, if_neg (by decide), f_Mod_string_111, if_neg (by decide), f_Mod_string_138, if_pos rfl, bnd_q, bnd_q, bnd_q, zn0, zn7]
theorem once_eq {c t : Sg} (h : RR c t) (b : BG c t) {x : Int32} (w : Int32) (hx : x &&& -2 = x &&& 254) (hX : x &&& 254 = 164 ∨ x &&& 254 = 170 ∨ x &&& 254 = 172 ∨ x &&& 254 = 174) : SX c t (f_Pro_stringOnce_12 c x w) (f_Mod_string_12 t x w) := by
  obtain ⟨S, y, e1, e2, e3⟩ := sg_or h b
  rw [e3]
  unfold f_Pro_stringOnce_12 f_Mod_string_38
  rw [hx]
  generalize x &&& 254 = X at *
  obtain ⟨g, g1, g2, hg⟩ := greg h v8_0 w
  simp only [bnd_q, e1, g1, zn6, zn7, zn0]
  rw [e2]
  have w6 := (h.2.1.2.1 6).1
  have w7 := (h.2.1.2.1 7).1
  have s0 := (h.2.1.2.2 0).1
  rcases hX with rfl | rfl | rfl | rfl
  · rw [if_pos rfl, if_pos rfl, w164]
    obtain ⟨v, f1, f2, hv⟩ := get_eq h S (c 4 6) w
    rw [← w6, ← w7, ← s0, f1, f2]
    exact tail_eq (SXm h (smem h _ _ v w) (by rw [m4])) (by rw [m4]) (by rw [m4]) (Or.inl rfl)
  · rw [if_neg (show ¬ (170 : Int32) = 164 by decide), if_pos rfl, if_neg (show ¬ (170 : Int32) = 164 by decide), w170, g2, ← w7, ← s0]
    exact tail_eq (SXm h (smem h _ _ g w) (by rw [m4])) (by rw [m4]) (by rw [m4]) (Or.inr (Or.inl rfl))
  · obtain ⟨v, f1, f2, hv⟩ := get_eq h S (c 4 6) w
    rw [if_neg (show ¬ (172 : Int32) = 164 by decide), if_neg (show ¬ (172 : Int32) = 170 by decide), if_pos rfl, if_neg (show ¬ (172 : Int32) = 164 by decide), w172, f1, ← w6, f2]
    exact tail_eq (SXm h (sreg h v8_0 v w) (rc0 _ _ _ _ (by decide))) (rc0 _ _ _ _ (by decide)) (rc0 _ _ _ _ (by decide)) (Or.inr (Or.inr (Or.inl rfl)))
  · obtain ⟨v, f1, f2, hv⟩ := get_eq h (c 5 0) (c 4 7) w
    rw [if_neg (show ¬ (174 : Int32) = 164 by decide), if_neg (show ¬ (174 : Int32) = 170 by decide), if_neg (show ¬ (174 : Int32) = 172 by decide), if_neg (show ¬ (174 : Int32) = 164 by decide), w174, f1, g2]
    dsimp only
    rw [← w7, ← s0, f2]
    dsimp only
    obtain ⟨u, F, d1, d2, hF, hu⟩ := ff_diff (k := 0) h hg hv (Or.inl rfl)
    rw [d1, d2]
    exact tail_eq (SXm h (ffs h hF) rfl) rfl rfl (Or.inr (Or.inr (Or.inr rfl)))
theorem str_eq {c t : Sg} (h : RR c t) (b : BG c t) {x w : Int32} (eC : f_Pro_stringOnce c x = f_Pro_stringOnce_12 c x w) (eT : f_Mod_string t x = f_Mod_string_12 t x w) (hx : x &&& -2 = x &&& 254) (hX : x &&& 254 = 164 ∨ x &&& 254 = 170 ∨ x &&& 254 = 172 ∨ x &&& 254 = 174) (hl : x < 174 ↔ ¬ x &&& 254 = 174) : Ans (f_Pro_string_23 c x) (f_Mod_strings t x) := by
  have o := once_eq h b w hx hX
  unfold f_Pro_string_23 f_Mod_strings
  rw [eC, eT]
  generalize f_Pro_stringOnce_12 c x w = c2 at *
  generalize f_Mod_string_12 t x w = t2 at *
  obtain ⟨s, n1⟩ := o
  have b2 := b.st s
  simp only [bnd_q, zn1]
  have rp := b.2.2.1
  rcases rp with ⟨r1, r2⟩ | ⟨r1, r2⟩
  · rw [if_pos r1, r2, if_neg (by decide)]
    exact fin b s
  · have q0 : ¬ c 14 4 = 0 := by rw [r1]; rcases r2 with r | r <;> rw [r] <;> decide
    have q1 : 0 ≤ t 15 11 := by rcases r2 with r | r <;> rw [r] <;> decide
    rw [if_neg q0, if_pos q1, (h.2.1.2.1 1).1]
    by_cases hz : t 17 1 = 0
    · rw [if_pos hz, if_pos hz]
      exact ans1 h b.2.2.2
    rw [if_neg hz, if_neg hz, (s.1.2.1.2.1 1).1, n1]
    have hr : rng 3 (t 17 1 - 1) := rng3_dec (h.2.1.2.1 1).2 hz
    have s3 := s.tr (swor s.1 1 hr)
    have b3 := b.st s3
    have v1 : up2 c2 4 1 (t 17 1 - 1) 4 1 = t 17 1 - 1 := up2_put
    have v2 : up2 t2 17 1 (t 17 1 - 1) 17 1 = t 17 1 - 1 := up2_put
    generalize up2 c2 4 1 (t 17 1 - 1) = c3 at *
    generalize up2 t2 17 1 (t 17 1 - 1) = t3 at *
    have e14 : c3 14 4 = t3 15 11 := by rw [s3.2.1, r1, s3.2.2.1 11 (by decide) (by decide)]
    have stay : Ans (f_Pro_string_116 c3 1) t3 := by
      unfold f_Pro_string_116
      split
      · exact ans1 s3.1 b3.2.2.2
      · rw [if_neg (by decide)]
        exact ans1 s3.1 b3.2.2.2
    have agn : ¬ t 17 1 - 1 = 0 → Ans (f_Pro_string_116 c3 0) (f_Mod_strings_101 t3 0) := fun q => by
      unfold f_Pro_string_116 f_Mod_strings_101
      rw [zn1, v1, if_neg q, if_pos rfl, if_pos rfl, bnd_q, bnd_q, b3.1.1]
      exact fin b3 (sip s3.1 b3.1.2)
    unfold f_Mod_strings_58 f_Mod_strings_93 f_Mod_strings_100 f_Mod_strings_96 f_Pro_string_90 f_Pro_string_115
    simp only [bnd_q, on_eq, is_eq, zn1]
    rw [v2, e14, s3.1.fl.1]
    by_cases hq : t 17 1 - 1 = 0
    · rw [if_pos hq, if_pos hq]
      have st0 : ∀ y, Ans (f_Pro_string_116 c3 y) (f_Mod_strings_101 t3 1) := fun y => by
        unfold f_Pro_string_116 f_Mod_strings_101
        rw [zn1, v1, if_pos hq, if_neg (by decide)]
        exact ans1 s3.1 b3.2.2.2
      have e5 : (if x &&& 254 = 174 then f_Mod_strings_101 t3 1 else f_Mod_strings_101 t3 1) = f_Mod_strings_101 t3 1 := by split <;> rfl
      rw [e5]
      repeat' split
      all_goals exact st0 _
    · rw [if_neg hq, if_neg hq]
      by_cases hl2 : x < 174
      · rw [if_neg (hl.mp hl2), if_pos trivial, if_pos hl2, if_pos hl2]
        have e5 : (if t3 15 11 = 243 then f_Pro_string_116 c3 0 else f_Pro_string_116 c3 0) = f_Pro_string_116 c3 0 := by split <;> rfl
        rw [e5]
        exact agn hq
      · rw [if_pos (Decidable.byContradiction fun q => hl2 (hl.mpr q)), if_neg (show ¬ (1 : Int32) = 0 by decide), if_neg hl2, if_neg hl2]
        have st1 : Ans (f_Pro_string_116 c3 1) (f_Mod_strings_101 t3 1) := by
          unfold f_Mod_strings_101
          rw [if_neg (by decide)]
          exact stay
        by_cases h3 : t3 15 11 = 243
        · rw [if_pos h3, if_pos h3]
          by_cases h4 : b01 (¬ t3 15 4 &&& 64 = 0) = 1
          · rw [if_pos h4, if_pos h4]; exact agn hq
          · rw [if_neg h4, if_neg h4]; exact st1
        · rw [if_neg h3, if_neg h3]
          by_cases h4 : b01 (¬ t3 15 4 &&& 64 = 0) = 0
          · rw [if_pos h4, if_pos h4]; exact agn hq
          · rw [if_neg h4, if_neg h4]; exact st1
