/-! the modrm byte, side by side -/
def usg (x d : Int32) : Int32 := if d = 0 then (if x = 2 then 2 else if x = 3 then 2 else if x = 6 then 2 else 3) else 3
theorem usg_or (x d : Int32) : usg x d = 2 ∨ usg x d = 3 := by
  unfold usg
  by_cases h : d = 0
  · rw [if_pos h]
    by_cases h2 : x = 2
    · rw [if_pos h2]; exact Or.inl rfl
    rw [if_neg h2]
    by_cases h3 : x = 3
    · rw [if_pos h3]; exact Or.inl rfl
    rw [if_neg h3]
    by_cases h6 : x = 6
    · rw [if_pos h6]; exact Or.inl rfl
    rw [if_neg h6]; exact Or.inr rfl
  · rw [if_neg h]; exact Or.inr rfl
theorem rm244 (t : Sg) (y u z : Int32) : f_Mod_readModrm_244 t y u z = up2 (up2 t 15 14 ((z + y) &&& 65535)) 15 15 (if t 15 10 < 0 then (if u = 0 then 3 else 2) else t 15 10) := by
  have e : up2 t 15 14 ((z + y) &&& 65535) 15 10 = t 15 10 := up2_get (by decide)
  simp only [f_Mod_readModrm_244, bnd, e]
  by_cases h : t 15 10 < 0
  · rw [if_pos h, if_pos h]
    by_cases h2 : u = 0
    · rw [if_pos h2, if_pos h2]
    · rw [if_neg h2, if_neg h2]
  · rw [if_neg h, if_neg h]
theorem rm199 (t : Sg) (x d p q y : Int32) : f_Mod_readModrm_199 t x d p q y = up2 (up2 t 15 14 (((if d = 0 then p + q else 0) + y) &&& 65535)) 15 15 (if t 15 10 < 0 then usg x d else t 15 10) := by
  have k1 : ∀ u, f_Mod_readModrm_227 t d p q y u = up2 (up2 t 15 14 (((if d = 0 then p + q else 0) + y) &&& 65535)) 15 15 (if t 15 10 < 0 then (if u = 0 then 3 else 2) else t 15 10) := fun u => by
    unfold f_Mod_readModrm_227
    by_cases h : d = 0
    · rw [if_pos h, if_pos h, rm244]
    · rw [if_neg h, if_neg h, rm244]
  simp only [f_Mod_readModrm_199, f_Mod_readModrm_222, f_Mod_readModrm_226, k1, usg]
  have n1 : ¬ (1 : Int32) = 0 := by decide
  by_cases h : d = 0
  · simp only [if_pos h, if_neg n1, if_pos]
    by_cases h2 : x = 2
    · rw [if_pos h2, if_pos h2]
    rw [if_neg h2, if_neg h2]
    by_cases h3 : x = 3
    · rw [if_pos h3, if_pos h3]
    rw [if_neg h3, if_neg h3]
    by_cases h6 : x = 6
    · rw [if_pos h6, if_pos h6]
    rw [if_neg h6, if_neg h6]
  · simp only [if_neg h, if_pos]
theorem rm125 (c : Sg) (d s : Int32) : f_Dec_readModrm_125 c d s = up2 (up2 c 14 6 (s &&& 65535)) 14 10 (c 5 (Int32.toNatClampNeg ((if c 14 8 = -1 then usg (c 14 9) d else c 14 8) &&& 3))) := by
  have e8 : up2 c 14 6 (s &&& 65535) 14 8 = c 14 8 := up2_get (by decide)
  have e9 : up2 c 14 6 (s &&& 65535) 14 9 = c 14 9 := up2_get (by decide)
  have e5 : up2 c 14 6 (s &&& 65535) 5 = c 5 := up2_ne _ _ _ (by decide)
  have k1 : ∀ u, f_Dec_readModrm_183 (up2 c 14 6 (s &&& 65535)) u = up2 (up2 c 14 6 (s &&& 65535)) 14 10 (c 5 (Int32.toNatClampNeg ((if c 14 8 = -1 then u else c 14 8) &&& 3))) := fun u => by
    simp only [f_Dec_readModrm_183, f_Dec_segmentOr, bnd, e8, e5]
    by_cases h : c 14 8 = -1
    · rw [if_pos h, if_pos h]
    · rw [if_neg h, if_neg h]
  simp only [f_Dec_readModrm_125, f_Dec_readModrm_164, f_Dec_readModrm_168, f_Dec_readModrm_169, bnd, k1, usg, e9]
  have n1 : ¬ (1 : Int32) = 0 := by decide
  by_cases h : d = 0
  · simp only [if_pos h, if_neg n1, if_pos]
    by_cases h2 : c 14 9 = 2
    · rw [if_pos h2, if_pos h2]
    rw [if_neg h2, if_neg h2]
    by_cases h3 : c 14 9 = 3
    · rw [if_pos h3, if_pos h3]
    rw [if_neg h3, if_neg h3]
    by_cases h6 : c 14 9 = 6
    · rw [if_pos h6, if_pos h6]
    rw [if_neg h6, if_neg h6]
  · simp only [if_neg h, if_pos]
def MP (w x : Int32) (c t : Sg) : Prop := RR c t ∧ BG c t ∧ c 14 9 = x ∧ c 14 5 = t 15 12 ∧ vp_in (t 15 12) 8 ∧ c 14 11 = w ∧ c 14 7 = 1 ∧ t 15 13 = -1
theorem MP.st {w x : Int32} {c t c2 t2 : Sg} (h : MP w x c t) (s : ST c t c2 t2) : MP w x c2 t2 := by
  obtain ⟨h1, h2, h3, h4, h5, h6, h7, h8⟩ := h
  refine ⟨s.1, h2.st s, ?_⟩
  rw [s.2.1, s.2.2.1 12 (by decide) (by decide), s.2.2.1 13 (by decide) (by decide)]
  exact ⟨h3, h4, h5, h6, h7, h8⟩
theorem rm_tail {w x : Int32} {c t : Sg} (h : MP w x c t) (d s p q y : Int32) (hs : s &&& 65535 = ((if d = 0 then p + q else 0) + y) &&& 65535) : RR (f_Dec_readModrm_125 c d s) (f_Mod_readModrm_199 t x d p q y) ∧ BG (f_Dec_readModrm_125 c d s) (f_Mod_readModrm_199 t x d p q y) ∧ ME w (f_Dec_readModrm_125 c d s) (f_Mod_readModrm_199 t x d p q y) := by
  obtain ⟨h1, h2, h3, h4, h5, h6, h7, h8⟩ := h
  rw [rm125, rm199, ← hs, h3]
  generalize hv : c 5 (Int32.toNatClampNeg ((if c 14 8 = -1 then usg x d else c 14 8) &&& 3)) = v
  generalize ho : (if t 15 10 < 0 then usg x d else t 15 10) = o
  have hvo : v = t 18 (Int32.toNatClampNeg o) := by
    rw [← hv, ← ho, (h1.2.1.2.2 _).1]
    obtain ⟨-, ⟨b1, b2⟩, -⟩ := h2
    rcases b2 with b2 | b2
    · rw [b1, b2, if_pos rfl, if_pos (by decide)]
      rcases usg_or x d with e | e <;> rw [e] <;> rfl
    · have q1 : ¬ t 15 10 < 0 := fun z => b2 (Or.inl z)
      have q2 : ¬ t 15 10 = -1 := fun z => q1 (by rw [z]; decide)
      rw [b1, if_neg q1, if_neg q2, and_id (k := 2) (m := 3) rfl (by decide) b2]
  refine ⟨(((h1.cs (a := 14) (b := 6) rfl _).cs (a := 14) (b := 10) rfl _).ts (a := 15) (b := 14) rfl _).ts (a := 15) (b := 15) rfl _, ?_, ?_⟩
  · unfold BG
    simp only [up2_get (show ¬ ((14 : Nat) = 14 ∧ (2 : Nat) = 10) by decide), up2_get (show ¬ ((14 : Nat) = 14 ∧ (2 : Nat) = 6) by decide), up2_get (show ¬ ((14 : Nat) = 14 ∧ (8 : Nat) = 10) by decide), up2_get (show ¬ ((14 : Nat) = 14 ∧ (8 : Nat) = 6) by decide), up2_get (show ¬ ((14 : Nat) = 14 ∧ (4 : Nat) = 10) by decide), up2_get (show ¬ ((14 : Nat) = 14 ∧ (4 : Nat) = 6) by decide), up2_get (show ¬ ((15 : Nat) = 15 ∧ (9 : Nat) = 14) by decide), up2_get (show ¬ ((15 : Nat) = 15 ∧ (9 : Nat) = 15) by decide), up2_get (show ¬ ((15 : Nat) = 15 ∧ (10 : Nat) = 14) by decide), up2_get (show ¬ ((15 : Nat) = 15 ∧ (10 : Nat) = 15) by decide), up2_get (show ¬ ((15 : Nat) = 15 ∧ (11 : Nat) = 14) by decide), up2_get (show ¬ ((15 : Nat) = 15 ∧ (11 : Nat) = 15) by decide), up2_get (show ¬ ((15 : Nat) = 15 ∧ (16 : Nat) = 14) by decide), up2_get (show ¬ ((15 : Nat) = 15 ∧ (16 : Nat) = 15) by decide)]
    exact h2
  · unfold ME
    rw [up2_put, up2_ne (up2 t 15 14 (s &&& 65535)) (a := 18) _ _ (by decide), up2_ne t (a := 18) _ _ (by decide)]
    simp only [up2_get (show ¬ ((14 : Nat) = 14 ∧ (5 : Nat) = 10) by decide), up2_get (show ¬ ((14 : Nat) = 14 ∧ (5 : Nat) = 6) by decide), up2_get (show ¬ ((14 : Nat) = 14 ∧ (11 : Nat) = 10) by decide), up2_get (show ¬ ((14 : Nat) = 14 ∧ (11 : Nat) = 6) by decide), up2_get (show ¬ ((14 : Nat) = 14 ∧ (7 : Nat) = 10) by decide), up2_get (show ¬ ((14 : Nat) = 14 ∧ (7 : Nat) = 6) by decide), up2_get (show ¬ ((14 : Nat) = 14 ∧ (6 : Nat) = 10) by decide), up2_get (show ¬ ((15 : Nat) = 15 ∧ (12 : Nat) = 14) by decide), up2_get (show ¬ ((15 : Nat) = 15 ∧ (12 : Nat) = 15) by decide), up2_get (show ¬ ((15 : Nat) = 15 ∧ (13 : Nat) = 14) by decide), up2_get (show ¬ ((15 : Nat) = 15 ∧ (13 : Nat) = 15) by decide), up2_get (show ¬ ((15 : Nat) = 15 ∧ (14 : Nat) = 15) by decide), up2_put]
    exact ⟨⟨h4, h5⟩, h6, Or.inr ⟨h7, h8, trivial, rng3_and s, hvo⟩⟩
/-- base and index of the twin -/
def bsT (t : Sg) (x : Int32) : Int32 := if x = 0 then t 17 (Int32.toNatClampNeg 3) else if x = 1 then t 17 (Int32.toNatClampNeg 3) else if x = 7 then t 17 (Int32.toNatClampNeg 3) else if x = 2 then t 17 (Int32.toNatClampNeg 5) else if x = 3 then t 17 (Int32.toNatClampNeg 5) else if x = 6 then t 17 (Int32.toNatClampNeg 5) else 0
def ixT (t : Sg) (x : Int32) : Int32 := if x = 0 then t 17 (Int32.toNatClampNeg 6) else if x = 2 then t 17 (Int32.toNatClampNeg 6) else if x = 4 then t 17 (Int32.toNatClampNeg 6) else if x = 1 then t 17 (Int32.toNatClampNeg 7) else if x = 3 then t 17 (Int32.toNatClampNeg 7) else if x = 5 then t 17 (Int32.toNatClampNeg 7) else 0
theorem ite_f {α β : Type} (f : α → β) {p : Prop} [Decidable p] (a b : α) : (if p then f a else f b) = f (if p then a else b) := by
  by_cases h : p
  · rw [if_pos h, if_pos h]
  · rw [if_neg h, if_neg h]
theorem rm106 (t : Sg) (m x d u : Int32) : f_Mod_readModrm_106 t m x d u = f_Mod_readModrm_158 t m x d u (ixT t x) := by
  simp only [f_Mod_readModrm_106, f_Mod_readModrm_122, f_Mod_readModrm_147, ite_f (f_Mod_readModrm_158 t m x d u), ixT]
theorem rm54 (t : Sg) (m x d : Int32) : f_Mod_readModrm_54 t m x d = f_Mod_readModrm_158 t m x d (bsT t x) (ixT t x) := by
  have e : f_Mod_readModrm_54 t m x d = f_Mod_readModrm_106 t m x d (bsT t x) := by
    simp only [f_Mod_readModrm_54, f_Mod_readModrm_71, f_Mod_readModrm_96, ite_f (f_Mod_readModrm_106 t m x d), bsT]
  rw [e, rm106]
theorem v8_cases {x : Int32} (h : vp_in x 8) : x = 0 ∨ x = 1 ∨ x = 2 ∨ x = 3 ∨ x = 4 ∨ x = 5 ∨ x = 6 ∨ x = 7 := by
  obtain ⟨n, hn, rfl⟩ := vp_in_of h (by decide)
  have : n = 0 ∨ n = 1 ∨ n = 2 ∨ n = 3 ∨ n = 4 ∨ n = 5 ∨ n = 6 ∨ n = 7 := by omega
  rcases this with e | e | e | e | e | e | e | e <;> subst e
  · exact Or.inl rfl
  · exact Or.inr (Or.inl rfl)
  · exact Or.inr (Or.inr (Or.inl rfl))
  · exact Or.inr (Or.inr (Or.inr (Or.inl rfl)))
  · exact Or.inr (Or.inr (Or.inr (Or.inr (Or.inl rfl))))
  · exact Or.inr (Or.inr (Or.inr (Or.inr (Or.inr (Or.inl rfl)))))
  · exact Or.inr (Or.inr (Or.inr (Or.inr (Or.inr (Or.inr (Or.inl rfl))))))
  · exact Or.inr (Or.inr (Or.inr (Or.inr (Or.inr (Or.inr (Or.inr rfl))))))
theorem v4_cases {x : Int32} (h : vp_in x 4) : x = 0 ∨ x = 1 ∨ x = 2 ∨ x = 3 := by
  obtain ⟨n, hn, rfl⟩ := vp_in_of h (by decide)
  have : n = 0 ∨ n = 1 ∨ n = 2 ∨ n = 3 := by omega
  rcases this with e | e | e | e <;> subst e
  · exact Or.inl rfl
  · exact Or.inr (Or.inl rfl)
  · exact Or.inr (Or.inr (Or.inl rfl))
  · exact Or.inr (Or.inr (Or.inr rfl))
theorem base_eq {c t : Sg} (h : RR c t) {x : Int32} (h9 : c 14 9 = x) (hx : vp_in x 8) : f_Dec_base c = (bsT t x + ixT t x, c) := by
  have e := fun i => (h.2.1.2.1 i).1
  unfold f_Dec_base bsT ixT
  rw [h9]
  rcases v8_cases hx with r | r | r | r | r | r | r | r <;> subst r <;> simp [e]
def RBM (w : Int32) (c t : Sg) : Prop := RR c t ∧ BG c t ∧ ME w c t
theorem ns2 {c t : Sg} (h : RR c t) : ∃ v c2 t2, ((f_Dec_nextByte c).1 : Int32).toInt8.toInt32 = v ∧ (f_Dec_nextByte c).2 = c2 ∧ f_Mod_nextSigned t = (v, t2) ∧ ST c t c2 t2 := by
  obtain ⟨v, c2, t2, e1, e2, e3⟩ := ns h
  exact ⟨v, c2, t2, congrArg Prod.fst e1, congrArg Prod.snd e1, e2, e3⟩
theorem rm_mem {w x m : Int32} {c t : Sg} (h : MP w x c t) (hx : vp_in x 8) (hm : m = 0 ∨ m = 1 ∨ m = 2) : RBM w (if m = 0 then (if c 14 9 = 6 then f_Dec_readModrm_73 c m 1 else f_Dec_readModrm_72 c m) else f_Dec_readModrm_72 c m) (if m = 0 then (if x = 6 then f_Mod_readModrm_54 t m x 1 else f_Mod_readModrm_53 t m x) else f_Mod_readModrm_53 t m x) := by
  have h9 : c 14 9 = x := h.2.2.1
  rw [h9]
  have n10 : ¬ (1 : Int32) = 0 := by decide
  have key : RBM w (f_Dec_readModrm_72 c m) (f_Mod_readModrm_53 t m x) := by
    simp only [f_Dec_readModrm_72, f_Dec_readModrm_73, f_Mod_readModrm_53, rm54, if_pos, bnd, base_eq h.1 h9 hx]
    rcases hm with rfl | rfl | rfl
    · simp only [f_Dec_readModrm_91, f_Mod_readModrm_158]
      rw [if_neg (by decide), if_neg (by decide), if_neg (by decide), if_pos trivial, if_neg (by decide), if_neg (by decide)]
      exact rm_tail h 0 _ _ _ _ (by rw [if_pos rfl, Int32.add_zero])
    · obtain ⟨v, c2, t2, e1, e2, e3, e4⟩ := ns2 h.1
      simp only [f_Dec_readModrm_91, f_Mod_readModrm_158, bnd]
      rw [if_pos trivial, if_neg (by decide), if_pos trivial, if_neg (by decide), if_pos trivial, e1, e2, e3]
      exact rm_tail (h.st e4) 0 _ _ _ _ (by rw [if_pos rfl])
    · obtain ⟨v, c2, t2, e1, e2, e3, e4⟩ := nw h.1
      simp only [f_Dec_readModrm_91, f_Mod_readModrm_158, f_Mod_readModrm_179, bnd]
      rw [if_pos trivial, if_neg (by decide), if_pos trivial, if_pos trivial, e1, e2]
      exact rm_tail (h.st e4) 0 _ _ _ _ (by rw [if_pos rfl])
  by_cases h0 : m = 0
  · rw [if_pos h0, if_pos h0]
    by_cases h6 : x = 6
    · rw [if_pos h6, if_pos h6, h0]
      obtain ⟨v, c2, t2, e1, e2, e3, e4⟩ := nw h.1
      simp only [f_Dec_readModrm_73, rm54, bnd, f_Dec_readModrm_91, f_Mod_readModrm_158, f_Mod_readModrm_179]
      rw [if_neg n10, if_neg (by decide), if_neg (by decide), if_neg (by decide), if_neg n10, e1, e2]
      exact rm_tail (h.st e4) 1 _ _ _ _ (by rw [if_neg n10, Int32.zero_add])
    · rw [if_neg h6, if_neg h6]
      exact key
  · rw [if_neg h0, if_neg h0]
    exact key
theorem rm_eq {c t : Sg} (h : RR c t) (b : BG c t) (w : Int32) : RBM w (f_Dec_readModrm c w) (f_Mod_readModrm t) := by
  obtain ⟨v, c1, t1, e1, e2, hv, s1⟩ := nb h
  have b1 := b.st s1
  have h1 := s1.1
  obtain ⟨n, hn, rfl⟩ := rng_nI hv
  have hm : vp_in (nI n >>> ((6 : Int32) &&& 31)) 4 := by
    rw [pk_shrN (by omega) ((6 : Int32) &&& 31) 6 rfl]
    exact vp_in_nI (by omega) (by decide)
  have hx : vp_in (nI n &&& 7) 8 := pk_andIn _ (m := 7) 3 rfl (by decide)
  have hr : vp_in ((nI n >>> ((3 : Int32) &&& 31)) &&& 7) 8 := pk_andIn _ (m := 7) 3 rfl (by decide)
  simp only [f_Dec_readModrm, f_Mod_readModrm, bnd, e1, e2]
  generalize nI n >>> ((6 : Int32) &&& 31) = m at hm ⊢
  generalize nI n &&& 7 = x at hx ⊢
  generalize (nI n >>> ((3 : Int32) &&& 31)) &&& 7 = r at hr ⊢
  have n10 : ¬ (1 : Int32) = 0 := by decide
  have g9 : (up2 (up2 (up2 c1 14 5 r) 14 9 x) 14 11 w) 14 9 = x := by rw [up2_get (by decide), up2_put]
  have g5 : (up2 (up2 (up2 c1 14 5 r) 14 9 x) 14 11 w) 14 5 = r := by rw [up2_get (by decide), up2_get (by decide), up2_put]
  have g11 : (up2 (up2 (up2 c1 14 5 r) 14 9 x) 14 11 w) 14 11 = w := by rw [up2_put]
  have g2 : ∀ k, k ≠ 5 → k ≠ 9 → k ≠ 11 → (up2 (up2 (up2 c1 14 5 r) 14 9 x) 14 11 w) 14 k = c1 14 k := fun k q1 q2 q3 => by
    rw [up2_get (fun z => q3 z.2), up2_get (fun z => q2 z.2), up2_get (fun z => q1 z.2)]
  have gR : RR (up2 (up2 (up2 c1 14 5 r) 14 9 x) 14 11 w) t1 := ((h1.cs (a := 14) (b := 5) rfl _).cs (a := 14) (b := 9) rfl _).cs (a := 14) (b := 11) rfl _
  generalize up2 (up2 (up2 c1 14 5 r) 14 9 x) 14 11 w = c4 at g9 g5 g11 g2 gR ⊢
  have k12 : up2 t1 15 12 r 15 12 = r := up2_put
  have k2 : ∀ k, k ≠ 12 → up2 t1 15 12 r 15 k = t1 15 k := fun k q => up2_get (fun z => q z.2)
  have kR : RR c4 (up2 t1 15 12 r) := gR.ts (a := 15) (b := 12) rfl _
  have kB : BG c4 (up2 t1 15 12 r) := by
    unfold BG
    rw [g2 2 (by decide) (by decide) (by decide), g2 8 (by decide) (by decide) (by decide), g2 4 (by decide) (by decide) (by decide), k2 9 (by decide), k2 10 (by decide), k2 11 (by decide), k2 16 (by decide)]
    exact b1
  generalize up2 t1 15 12 r = t4 at k12 kR kB ⊢
  by_cases h3 : m = 3
  · rw [if_pos h3, if_pos h3, h3]
    simp only [f_Dec_readModrm_44, f_Mod_readModrm_36, bnd, up2_put]
    rw [if_pos trivial, if_neg (by decide)]
    simp only [f_Mod_readModrm_53, rm54, f_Mod_readModrm_158, if_pos, rm199]
    generalize (if up2 t4 15 13 x 15 10 < 0 then usg x 0 else up2 t4 15 13 x 15 10) = o
    generalize (bsT (up2 t4 15 13 x) x + ixT (up2 t4 15 13 x) x + 0) &&& 65535 = p
    refine ⟨(((kR.cs (a := 14) (b := 7) rfl _).ts (a := 15) (b := 13) rfl _).ts (a := 15) (b := 14) rfl _).ts (a := 15) (b := 15) rfl _, ?_, ?_⟩
    · unfold BG
      simp only [up2_get (show ¬ ((14 : Nat) = 14 ∧ (2 : Nat) = 7) by decide), up2_get (show ¬ ((14 : Nat) = 14 ∧ (8 : Nat) = 7) by decide), up2_get (show ¬ ((14 : Nat) = 14 ∧ (4 : Nat) = 7) by decide), up2_get (show ¬ ((15 : Nat) = 15 ∧ (9 : Nat) = 13) by decide), up2_get (show ¬ ((15 : Nat) = 15 ∧ (9 : Nat) = 14) by decide), up2_get (show ¬ ((15 : Nat) = 15 ∧ (9 : Nat) = 15) by decide), up2_get (show ¬ ((15 : Nat) = 15 ∧ (10 : Nat) = 13) by decide), up2_get (show ¬ ((15 : Nat) = 15 ∧ (10 : Nat) = 14) by decide), up2_get (show ¬ ((15 : Nat) = 15 ∧ (10 : Nat) = 15) by decide), up2_get (show ¬ ((15 : Nat) = 15 ∧ (11 : Nat) = 13) by decide), up2_get (show ¬ ((15 : Nat) = 15 ∧ (11 : Nat) = 14) by decide), up2_get (show ¬ ((15 : Nat) = 15 ∧ (11 : Nat) = 15) by decide), up2_get (show ¬ ((15 : Nat) = 15 ∧ (16 : Nat) = 13) by decide), up2_get (show ¬ ((15 : Nat) = 15 ∧ (16 : Nat) = 14) by decide), up2_get (show ¬ ((15 : Nat) = 15 ∧ (16 : Nat) = 15) by decide)]
      exact kB
    · unfold ME
      have e12 : up2 (up2 (up2 t4 15 13 x) 15 14 p) 15 15 o 15 12 = r := by rw [up2_get (by decide), up2_get (by decide), up2_get (by decide), k12]
      have e13 : up2 (up2 (up2 t4 15 13 x) 15 14 p) 15 15 o 15 13 = x := by rw [up2_get (by decide), up2_get (by decide), up2_put]
      rw [e12, e13, up2_get (by decide), g5, up2_get (by decide), g11, up2_put, up2_get (by decide), g9]
      exact ⟨⟨rfl, hr⟩, rfl, Or.inl ⟨rfl, rfl, hx⟩⟩
  · rw [if_neg h3, if_neg h3]
    have hm3 : m = 0 ∨ m = 1 ∨ m = 2 := by
      rcases v4_cases hm with e | e | e | e
      · exact Or.inl e
      · exact Or.inr (Or.inl e)
      · exact Or.inr (Or.inr e)
      · exact absurd e h3
    simp only [f_Dec_readModrm_44, f_Mod_readModrm_36, bnd, up2_put]
    rw [if_neg n10]
    refine rm_mem ⟨(kR.cs (a := 14) (b := 7) rfl _).ts (a := 15) (b := 13) rfl _, ?_, ?_⟩ hx hm3
    · unfold BG
      rw [up2_get (by decide), up2_get (by decide), up2_get (by decide), up2_get (by decide), up2_get (by decide), up2_get (by decide), up2_get (by decide)]
      exact kB
    · rw [up2_put, up2_put, up2_get (by decide), up2_get (by decide), up2_get (by decide), up2_get (by decide), k12, g9, g5, g11]
      exact ⟨rfl, rfl, hr, rfl, rfl, rfl⟩
