/-! PREFIXES AND THE WHOLE INSTRUCTION side by side -/
/-- what the class does with what the decoder answered -/
def KK (r : Int32 × Sg) : Sg := if r.1 = 0 then f_Pro_advance_96 r.2 else (if (f_Pro_perform r.2 (r.2 14 3)).1 = 0 then f_Pro_advance_96 (f_Pro_perform r.2 (r.2 14 3)).2 else (f_Pro_perform r.2 (r.2 14 3)).2)
theorem bad_eq {c t : Sg} (h : RR c t) (e : c 14 2 = t 15 9) (r : rng 3 (t 15 9)) (u : ¬ t 15 16 = 0) : RR (f_Pro_advance_96 c) (f_Mod_instruct_115 t) := by
  rw [f_Pro_advance_96, f_Mod_instruct_115, if_neg u, bnd_q, bnd_q, bnd_q, bnd_q, e]
  exact int_eq (sip h r).1 6
theorem fin_a {r : Int32 × Sg} {t : Sg} (h : Ans r t) : RR (if r.1 = 0 then f_Pro_advance_96 r.2 else r.2) (f_Mod_instruct_115 t) := by
  obtain ⟨h1, ⟨e, u, e2, r2⟩ | ⟨e, u⟩⟩ := h
  · rw [if_pos e]
    exact bad_eq h1 e2 r2 u
  · rw [if_neg e, f_Mod_instruct_115, if_pos u]
    exact h1
def pfx (x : Int32) : Prop := x = 38 ∨ x = 46 ∨ x = 54 ∨ x = 62 ∨ x = 242 ∨ x = 243
theorem isP1 (t : Sg) {x : Int32} (h : pfx x) : f_Mod_isPrefix t x = (1, t) := by
  rcases h with rfl | rfl | rfl | rfl | rfl | rfl
  · rw [f_Mod_isPrefix, if_pos rfl]
  · rw [f_Mod_isPrefix, if_neg (by decide), if_pos rfl]
  · rw [f_Mod_isPrefix, if_neg (by decide), if_neg (by decide), if_pos rfl]
  · rw [f_Mod_isPrefix, if_neg (by decide), if_neg (by decide), if_neg (by decide), if_pos rfl]
  · rw [f_Mod_isPrefix, if_neg (by decide), if_neg (by decide), if_neg (by decide), if_neg (by decide), if_pos rfl]
  · rw [f_Mod_isPrefix, if_neg (by decide), if_neg (by decide), if_neg (by decide), if_neg (by decide), if_neg (by decide), if_pos rfl]
theorem isP0 (t : Sg) {x : Int32} (h : ¬ pfx x) : f_Mod_isPrefix t x = (0, t) := by
  unfold pfx at h
  simp only [not_or] at h
  obtain ⟨h1, h2, h3, h4, h5, h6⟩ := h
  rw [f_Mod_isPrefix, if_neg h1, if_neg h2, if_neg h3, if_neg h4, if_neg h5, if_neg h6]
theorem run_eq {c t : Sg} (h : RR c t) (b : BG c t) {x : Int32} (hx : rng 2 x) (ex : c 14 3 = x) (hp : ¬ pfx x) : RR (KK (1, c)) (f_Mod_instruct_95 t x) := by
  obtain ⟨n, hn, rfl⟩ := rng_nI hx
  have z := all_eq (h.unk 0) b.unk hn
  rw [f_Mod_instruct_95, isP0 t hp, bnd_q, bnd_q, bnd_q]
  dsimp only
  rw [if_pos (show up2 t 15 16 0 15 16 = 0 from up2_put)]
  unfold KK
  dsimp only
  have z2 : Ans (f_Pro_perform c (c 14 3)) (f_Mod_execute (up2 t 15 16 0) (nI n)) := by rw [ex]; exact z
  rw [if_neg (show ¬ (1 : Int32) = 0 by decide)]
  exact fin_a z2
theorem pfx4 {c t : Sg} (b : BG c t) {x : Int32} (hp : pfx x) {c2 : Sg} (h2 : RR c2 t) (e : c2 14 2 = c 14 2) : RR (KK (0, c2)) (f_Mod_instruct_95 t x) := by
  rw [f_Mod_instruct_95, isP1 t hp, bnd_q, bnd_q, bnd_q]
  dsimp only
  have u : ¬ up2 t 15 16 1 15 16 = 0 := by rw [up2_put]; decide
  rw [if_neg u]
  unfold KK
  dsimp only
  rw [if_pos rfl]
  exact bad_eq (h2.unk 1) (e.trans b.1.1) b.1.2 u
theorem BG.code {c t : Sg} (b : BG c t) (v : Int32) : BG (up2 c 14 3 v) t := by
  obtain ⟨⟨a1, a2⟩, ⟨b1, b2⟩, c1, d1⟩ := b
  exact ⟨⟨a1, a2⟩, ⟨b1, b2⟩, c1, d1⟩
theorem BG.rep {c t : Sg} (b : BG c t) {v : Int32} (hv : v = 242 ∨ v = 243) : BG (up2 c 14 4 v) (up2 t 15 11 v) := by
  obtain ⟨⟨a1, a2⟩, ⟨b1, b2⟩, c1, d1⟩ := b
  exact ⟨⟨a1, a2⟩, ⟨b1, b2⟩, Or.inr ⟨rfl, hv⟩, d1⟩
theorem BG.seg {c t : Sg} (b : BG c t) {v : Int32} (hv : vp_in v 4) : BG (up2 c 14 8 v) (up2 t 15 10 v) := by
  obtain ⟨⟨a1, a2⟩, ⟨b1, b2⟩, c1, d1⟩ := b
  exact ⟨⟨a1, a2⟩, ⟨rfl, Or.inr hv⟩, c1, d1⟩
theorem pfS {x : Int32} (h : x = 38 ∨ x = 46 ∨ x = 54 ∨ x = 62) : (x - 38) >>> ((3 : Int32) &&& 31) = (x >>> ((3 : Int32) &&& 31)) - 4 ∧ vp_in ((x >>> ((3 : Int32) &&& 31)) - 4) 4 ∧ ¬ 64 ≤ x ∧ x < 242 := by
  rcases h with rfl | rfl | rfl | rfl
  · exact ⟨by decide, vin (by decide), by decide, by decide⟩
  · exact ⟨by decide, vin (by decide), by decide, by decide⟩
  · exact ⟨by decide, vin (by decide), by decide, by decide⟩
  · exact ⟨by decide, vin (by decide), by decide, by decide⟩
theorem st3 {c t : Sg} (h : RR c t) (b : BG c t) : RR (KK (f_Dec_begin_23_c3 c)) (f_Mod_instruct_30_c3 (f_Mod_next t).2 (f_Mod_next t).1) := by
  obtain ⟨v, c2, t2, e1, e2, hv, s⟩ := nb h
  rw [f_Dec_begin_23_c3, e1, e2, bnd_q, bnd_q]
  dsimp only
  have h2 := s.1.cs (a := 14) (b := 3) rfl v
  have b2 := (b.st s).code v
  have ec : up2 c2 14 3 v 14 3 = v := up2_put
  generalize up2 c2 14 3 v = c3 at *
  rw [ec, f_Mod_instruct_30_c3, bnd_q]
  by_cases p1 : v = 242 ∨ v = 243
  · have hp : pfx v := by unfold pfx; rcases p1 with q | q <;> simp [q]
    have e5 : (if v = 243 then f_Dec_begin_56_c3 c3 else if v = 242 then f_Dec_begin_56_c3 c3 else if v = 38 then f_Dec_begin_103_c3 c3 else if v = 46 then f_Dec_begin_103_c3 c3 else if v = 54 then f_Dec_begin_103_c3 c3 else if v = 62 then f_Dec_begin_103_c3 c3 else ((1 : Int32), c3)) = f_Dec_begin_56_c3 c3 := by
      rcases p1 with rfl | rfl
      · rw [if_neg (by decide), if_pos rfl]
      · rw [if_pos rfl]
    rw [e5, isP1 t2 hp]
    dsimp only
    rw [if_neg (show ¬ (1 : Int32) = 0 by decide)]
    rw [f_Dec_begin_56_c3, bnd_q, f_Dec_begin_121_c3, f_Dec_begin_23_c4]
    exact pfx4 b2 hp (h2.cs (a := 14) (b := 4) rfl _) rfl
  by_cases p2 : v = 38 ∨ v = 46 ∨ v = 54 ∨ v = 62
  · have hp : pfx v := by unfold pfx; rcases p2 with q | q | q | q <;> simp [q]
    have e5 : (if v = 243 then f_Dec_begin_56_c3 c3 else if v = 242 then f_Dec_begin_56_c3 c3 else if v = 38 then f_Dec_begin_103_c3 c3 else if v = 46 then f_Dec_begin_103_c3 c3 else if v = 54 then f_Dec_begin_103_c3 c3 else if v = 62 then f_Dec_begin_103_c3 c3 else ((1 : Int32), c3)) = f_Dec_begin_103_c3 c3 := by
      rcases p2 with rfl | rfl | rfl | rfl
      · rw [if_neg (by decide), if_neg (by decide), if_pos rfl]
      · rw [if_neg (by decide), if_neg (by decide), if_neg (by decide), if_pos rfl]
      · rw [if_neg (by decide), if_neg (by decide), if_neg (by decide), if_neg (by decide), if_pos rfl]
      · rw [if_neg (by decide), if_neg (by decide), if_neg (by decide), if_neg (by decide), if_neg (by decide), if_pos rfl]
    rw [e5, isP1 t2 hp]
    dsimp only
    rw [if_neg (show ¬ (1 : Int32) = 0 by decide)]
    rw [f_Dec_begin_103_c3, bnd_q, f_Dec_begin_121_c3, f_Dec_begin_23_c4]
    exact pfx4 b2 hp (h2.cs (a := 14) (b := 8) rfl _) rfl
  have hp : ¬ pfx v := by
    unfold pfx
    simp only [not_or] at p1 p2 ⊢
    exact ⟨p2.1, p2.2.1, p2.2.2.1, p2.2.2.2, p1.1, p1.2⟩
  simp only [not_or] at p1 p2
  rw [if_neg p1.2, if_neg p1.1, if_neg p2.1, if_neg p2.2.1, if_neg p2.2.2.1, if_neg p2.2.2.2, isP0 t2 hp]
  dsimp only
  rw [if_pos rfl]
  exact run_eq h2 b2 hv ec hp
theorem st2 {c t : Sg} (h : RR c t) (b : BG c t) : RR (KK (f_Dec_begin_23_c2 c)) (f_Mod_instruct_30_c2 (f_Mod_next t).2 (f_Mod_next t).1) := by
  obtain ⟨v, c2, t2, e1, e2, hv, s⟩ := nb h
  rw [f_Dec_begin_23_c2, e1, e2, bnd_q, bnd_q]
  dsimp only
  have h2 := s.1.cs (a := 14) (b := 3) rfl v
  have b2 := (b.st s).code v
  have ec : up2 c2 14 3 v 14 3 = v := up2_put
  generalize up2 c2 14 3 v = c3 at *
  rw [ec, f_Mod_instruct_30_c2, bnd_q]
  by_cases p1 : v = 242 ∨ v = 243
  · have hp : pfx v := by unfold pfx; rcases p1 with q | q <;> simp [q]
    have e5 : (if v = 243 then f_Dec_begin_56_c2 c3 else if v = 242 then f_Dec_begin_56_c2 c3 else if v = 38 then f_Dec_begin_103_c2 c3 else if v = 46 then f_Dec_begin_103_c2 c3 else if v = 54 then f_Dec_begin_103_c2 c3 else if v = 62 then f_Dec_begin_103_c2 c3 else ((1 : Int32), c3)) = f_Dec_begin_56_c2 c3 := by
      rcases p1 with rfl | rfl
      · rw [if_neg (by decide), if_pos rfl]
      · rw [if_pos rfl]
    rw [e5, isP1 t2 hp]
    dsimp only
    rw [if_neg (show ¬ (1 : Int32) = 0 by decide)]
    rw [if_pos (show 64 ≤ v by rcases p1 with rfl | rfl <;> decide), f_Mod_instruct_61_c2, bnd_q, up2_self, if_neg (show ¬ v < 242 by rcases p1 with rfl | rfl <;> decide), f_Mod_instruct_80_c2, bnd_q, bnd_q, f_Dec_begin_56_c2, bnd_q, f_Dec_begin_121_c2, ec]
    exact st3 ((h2.cs (a := 14) (b := 4) rfl v).ts (a := 15) (b := 11) rfl v) (b2.rep p1)
  by_cases p2 : v = 38 ∨ v = 46 ∨ v = 54 ∨ v = 62
  · have hp : pfx v := by unfold pfx; rcases p2 with q | q | q | q <;> simp [q]
    have e5 : (if v = 243 then f_Dec_begin_56_c2 c3 else if v = 242 then f_Dec_begin_56_c2 c3 else if v = 38 then f_Dec_begin_103_c2 c3 else if v = 46 then f_Dec_begin_103_c2 c3 else if v = 54 then f_Dec_begin_103_c2 c3 else if v = 62 then f_Dec_begin_103_c2 c3 else ((1 : Int32), c3)) = f_Dec_begin_103_c2 c3 := by
      rcases p2 with rfl | rfl | rfl | rfl
      · rw [if_neg (by decide), if_neg (by decide), if_pos rfl]
      · rw [if_neg (by decide), if_neg (by decide), if_neg (by decide), if_pos rfl]
      · rw [if_neg (by decide), if_neg (by decide), if_neg (by decide), if_neg (by decide), if_pos rfl]
      · rw [if_neg (by decide), if_neg (by decide), if_neg (by decide), if_neg (by decide), if_neg (by decide), if_pos rfl]
    rw [e5, isP1 t2 hp]
    dsimp only
    rw [if_neg (show ¬ (1 : Int32) = 0 by decide)]
    obtain ⟨g1, g2, g3, g4⟩ := pfS p2
    rw [if_neg g3, f_Mod_instruct_61_c2, bnd_q, if_pos g4, f_Mod_instruct_80_c2, bnd_q, bnd_q, up2_self, f_Dec_begin_103_c2, bnd_q, f_Dec_begin_121_c2, ec, g1]
    exact st3 ((h2.cs (a := 14) (b := 8) rfl _).ts (a := 15) (b := 10) rfl _) (b2.seg g2)
  have hp : ¬ pfx v := by
    unfold pfx
    simp only [not_or] at p1 p2 ⊢
    exact ⟨p2.1, p2.2.1, p2.2.2.1, p2.2.2.2, p1.1, p1.2⟩
  simp only [not_or] at p1 p2
  rw [if_neg p1.2, if_neg p1.1, if_neg p2.1, if_neg p2.2.1, if_neg p2.2.2.1, if_neg p2.2.2.2, isP0 t2 hp]
  dsimp only
  rw [if_pos rfl]
  exact run_eq h2 b2 hv ec hp
theorem st1 {c t : Sg} (h : RR c t) (b : BG c t) : RR (KK (f_Dec_begin_23_c1 c)) (f_Mod_instruct_30_c1 (f_Mod_next t).2 (f_Mod_next t).1) := by
  obtain ⟨v, c2, t2, e1, e2, hv, s⟩ := nb h
  rw [f_Dec_begin_23_c1, e1, e2, bnd_q, bnd_q]
  dsimp only
  have h2 := s.1.cs (a := 14) (b := 3) rfl v
  have b2 := (b.st s).code v
  have ec : up2 c2 14 3 v 14 3 = v := up2_put
  generalize up2 c2 14 3 v = c3 at *
  rw [ec, f_Mod_instruct_30_c1, bnd_q]
  by_cases p1 : v = 242 ∨ v = 243
  · have hp : pfx v := by unfold pfx; rcases p1 with q | q <;> simp [q]
    have e5 : (if v = 243 then f_Dec_begin_56_c1 c3 else if v = 242 then f_Dec_begin_56_c1 c3 else if v = 38 then f_Dec_begin_103_c1 c3 else if v = 46 then f_Dec_begin_103_c1 c3 else if v = 54 then f_Dec_begin_103_c1 c3 else if v = 62 then f_Dec_begin_103_c1 c3 else ((1 : Int32), c3)) = f_Dec_begin_56_c1 c3 := by
      rcases p1 with rfl | rfl
      · rw [if_neg (by decide), if_pos rfl]
      · rw [if_pos rfl]
    rw [e5, isP1 t2 hp]
    dsimp only
    rw [if_neg (show ¬ (1 : Int32) = 0 by decide)]
    rw [if_pos (show 64 ≤ v by rcases p1 with rfl | rfl <;> decide), f_Mod_instruct_61_c1, bnd_q, up2_self, if_neg (show ¬ v < 242 by rcases p1 with rfl | rfl <;> decide), f_Mod_instruct_80_c1, bnd_q, bnd_q, f_Dec_begin_56_c1, bnd_q, f_Dec_begin_121_c1, ec]
    exact st2 ((h2.cs (a := 14) (b := 4) rfl v).ts (a := 15) (b := 11) rfl v) (b2.rep p1)
  by_cases p2 : v = 38 ∨ v = 46 ∨ v = 54 ∨ v = 62
  · have hp : pfx v := by unfold pfx; rcases p2 with q | q | q | q <;> simp [q]
    have e5 : (if v = 243 then f_Dec_begin_56_c1 c3 else if v = 242 then f_Dec_begin_56_c1 c3 else if v = 38 then f_Dec_begin_103_c1 c3 else if v = 46 then f_Dec_begin_103_c1 c3 else if v = 54 then f_Dec_begin_103_c1 c3 else if v = 62 then f_Dec_begin_103_c1 c3 else ((1 : Int32), c3)) = f_Dec_begin_103_c1 c3 := by
      rcases p2 with rfl | rfl | rfl | rfl
      · rw [if_neg (by decide), if_neg (by decide), if_pos rfl]
      · rw [if_neg (by decide), if_neg (by decide), if_neg (by decide), if_pos rfl]
      · rw [if_neg (by decide), if_neg (by decide), if_neg (by decide), if_neg (by decide), if_pos rfl]
      · rw [if_neg (by decide), if_neg (by decide), if_neg (by decide), if_neg (by decide), if_neg (by decide), if_pos rfl]
    rw [e5, isP1 t2 hp]
    dsimp only
    rw [if_neg (show ¬ (1 : Int32) = 0 by decide)]
    obtain ⟨g1, g2, g3, g4⟩ := pfS p2
    rw [if_neg g3, f_Mod_instruct_61_c1, bnd_q, if_pos g4, f_Mod_instruct_80_c1, bnd_q, bnd_q, up2_self, f_Dec_begin_103_c1, bnd_q, f_Dec_begin_121_c1, ec, g1]
    exact st2 ((h2.cs (a := 14) (b := 8) rfl _).ts (a := 15) (b := 10) rfl _) (b2.seg g2)
  have hp : ¬ pfx v := by
    unfold pfx
    simp only [not_or] at p1 p2 ⊢
    exact ⟨p2.1, p2.2.1, p2.2.2.1, p2.2.2.2, p1.1, p1.2⟩
  simp only [not_or] at p1 p2
  rw [if_neg p1.2, if_neg p1.1, if_neg p2.1, if_neg p2.2.1, if_neg p2.2.2.1, if_neg p2.2.2.2, isP0 t2 hp]
  dsimp only
  rw [if_pos rfl]
  exact run_eq h2 b2 hv ec hp
theorem st0 {c t : Sg} (h : RR c t) (b : BG c t) : RR (KK (f_Dec_begin_23_c0 c)) (f_Mod_instruct_30_c0 (f_Mod_next t).2 (f_Mod_next t).1) := by
  obtain ⟨v, c2, t2, e1, e2, hv, s⟩ := nb h
  rw [f_Dec_begin_23_c0, e1, e2, bnd_q, bnd_q]
  dsimp only
  have h2 := s.1.cs (a := 14) (b := 3) rfl v
  have b2 := (b.st s).code v
  have ec : up2 c2 14 3 v 14 3 = v := up2_put
  generalize up2 c2 14 3 v = c3 at *
  rw [ec, f_Mod_instruct_30_c0, bnd_q]
  by_cases p1 : v = 242 ∨ v = 243
  · have hp : pfx v := by unfold pfx; rcases p1 with q | q <;> simp [q]
    have e5 : (if v = 243 then f_Dec_begin_56_c0 c3 else if v = 242 then f_Dec_begin_56_c0 c3 else if v = 38 then f_Dec_begin_103_c0 c3 else if v = 46 then f_Dec_begin_103_c0 c3 else if v = 54 then f_Dec_begin_103_c0 c3 else if v = 62 then f_Dec_begin_103_c0 c3 else ((1 : Int32), c3)) = f_Dec_begin_56_c0 c3 := by
      rcases p1 with rfl | rfl
      · rw [if_neg (by decide), if_pos rfl]
      · rw [if_pos rfl]
    rw [e5, isP1 t2 hp]
    dsimp only
    rw [if_neg (show ¬ (1 : Int32) = 0 by decide)]
    rw [if_pos (show 64 ≤ v by rcases p1 with rfl | rfl <;> decide), f_Mod_instruct_61_c0, bnd_q, up2_self, if_neg (show ¬ v < 242 by rcases p1 with rfl | rfl <;> decide), f_Mod_instruct_80_c0, bnd_q, bnd_q, f_Dec_begin_56_c0, bnd_q, f_Dec_begin_121_c0, ec]
    exact st1 ((h2.cs (a := 14) (b := 4) rfl v).ts (a := 15) (b := 11) rfl v) (b2.rep p1)
  by_cases p2 : v = 38 ∨ v = 46 ∨ v = 54 ∨ v = 62
  · have hp : pfx v := by unfold pfx; rcases p2 with q | q | q | q <;> simp [q]
    have e5 : (if v = 243 then f_Dec_begin_56_c0 c3 else if v = 242 then f_Dec_begin_56_c0 c3 else if v = 38 then f_Dec_begin_103_c0 c3 else if v = 46 then f_Dec_begin_103_c0 c3 else if v = 54 then f_Dec_begin_103_c0 c3 else if v = 62 then f_Dec_begin_103_c0 c3 else ((1 : Int32), c3)) = f_Dec_begin_103_c0 c3 := by
      rcases p2 with rfl | rfl | rfl | rfl
      · rw [if_neg (by decide), if_neg (by decide), if_pos rfl]
      · rw [if_neg (by decide), if_neg (by decide), if_neg (by decide), if_pos rfl]
      · rw [if_neg (by decide), if_neg (by decide), if_neg (by decide), if_neg (by decide), if_pos rfl]
      · rw [if_neg (by decide), if_neg (by decide), if_neg (by decide), if_neg (by decide), if_neg (by decide), if_pos rfl]
    rw [e5, isP1 t2 hp]
    dsimp only
    rw [if_neg (show ¬ (1 : Int32) = 0 by decide)]
    obtain ⟨g1, g2, g3, g4⟩ := pfS p2
    rw [if_neg g3, f_Mod_instruct_61_c0, bnd_q, if_pos g4, f_Mod_instruct_80_c0, bnd_q, bnd_q, up2_self, f_Dec_begin_103_c0, bnd_q, f_Dec_begin_121_c0, ec, g1]
    exact st1 ((h2.cs (a := 14) (b := 8) rfl _).ts (a := 15) (b := 10) rfl _) (b2.seg g2)
  have hp : ¬ pfx v := by
    unfold pfx
    simp only [not_or] at p1 p2 ⊢
    exact ⟨p2.1, p2.2.1, p2.2.2.1, p2.2.2.2, p1.1, p1.2⟩
  simp only [not_or] at p1 p2
  rw [if_neg p1.2, if_neg p1.1, if_neg p2.1, if_neg p2.2.1, if_neg p2.2.2.1, if_neg p2.2.2.2, isP0 t2 hp]
  dsimp only
  rw [if_pos rfl]
  exact run_eq h2 b2 hv ec hp
theorem ins_eq {c t : Sg} (h : RR c t) : RR (KK (f_Dec_begin c)) (f_Mod_instruct t) := by
  rw [f_Dec_begin, f_Mod_instruct, bnd_q, bnd_q, bnd_q, bnd_q, bnd_q, bnd_q, bnd_q, bnd_q, h.ip.1]
  refine st0 ?_ ?_
  · exact (((((((h.cs (a := 14) (b := 2) rfl _).cs (a := 14) (b := 8) rfl _).cs (a := 14) (b := 4) rfl _).ts (a := 15) (b := 9) rfl _).ts (a := 15) (b := 10) rfl _).ts (a := 15) (b := 11) rfl _).ts (a := 15) (b := 16) rfl _)
  · exact ⟨⟨rfl, h.ip.2⟩, ⟨rfl, Or.inl rfl⟩, Or.inl ⟨rfl, rfl⟩, rfl⟩
theorem bit8 : ∀ y : Int32, vp_in y 8 → rng 2 ((1 : Int32) <<< (y &&& 31)) := fun y h => by
  rcases v8_cases h with rfl | rfl | rfl | rfl | rfl | rfl | rfl | rfl <;> exact ⟨by decide, by decide⟩
theorem rng2_andr {x m : Int32} (h : rng 2 x) : rng 2 (x &&& m) := by
  rw [Int32.and_comm]
  exact rng2_andl h
/-- a line given, or none -/
theorem a31 {c t : Sg} (h : RR c t) {y : Int32} (hy : y = -1 ∨ vp_in y 8) : RR (f_Pro_advance_31 c y) (f_Mod_oneStep_36 (up2 t 15 6 0) y) := by
  have h1 := h.up 3 rfl (v := 0) (Or.inl rfl)
  rw [f_Pro_advance_31, f_Mod_oneStep_36, bnd_q]
  generalize up2 c 12 8 0 = c1 at *
  generalize up2 t 15 6 0 = t1 at *
  rcases hy with rfl | hy
  · rw [if_pos (show (-1 : Int32) < 0 by decide), if_pos (show (-1 : Int32) < 0 by decide), (h1.get 2 rfl).1]
    by_cases q : t1 15 5 = 0
    · rw [if_pos q, if_pos q, bnd_q, bnd_q, bnd_q]
      exact ins_eq h1
    · rw [if_neg q, if_neg q]
      exact h1
  · have hn : ¬ y < 0 := fun q => hy (Or.inl q)
    rw [if_neg hn, if_neg hn, f_Ctl_give, bnd_q, bnd_q, bnd_q, bnd_q, bnd_q, bnd_q, bnd_q, bnd_q, bnd_q, (h1.get 6 rfl).1]
    have h2 := h1.up 6 rfl (v := t1 15 17 &&& ((1 : Int32) <<< (y &&& 31) ^^^ -1)) (rng2_andr (h1.get 6 rfl).2)
    generalize up2 c1 7 0 (t1 15 17 &&& ((1 : Int32) <<< (y &&& 31) ^^^ -1)) = c2 at *
    generalize up2 t1 15 17 (t1 15 17 &&& ((1 : Int32) <<< (y &&& 31) ^^^ -1)) = t2 at *
    rw [(h2.get 7 rfl).1]
    have h3 := h2.up 7 rfl (v := t2 15 18 ||| (1 : Int32) <<< (y &&& 31)) (rng2_or (h2.get 7 rfl).2 (bit8 y hy))
    exact int_eq (h3.up 2 rfl (v := 0) (Or.inl rfl)) _
theorem adv_eq {c t : Sg} (h : RR c t) : RR (f_Pro_advance (f_Tim_tick c)) (f_Mod_oneStep t) := by
  have h1 := tick_eq h
  rw [f_Pro_advance, f_Mod_oneStep, bnd_q, bnd_q, bnd_q, bnd_q, bnd_q, bnd_q]
  generalize f_Tim_tick c = c1 at *
  generalize f_Mod_tickTimer t = t1 at *
  rw [on_eq, is_eq, h1.fl.1, show up2 t1 15 6 0 15 4 = t1 15 4 from rfl, f_Pro_advance_30, f_Mod_oneStep_35]
  dsimp only
  have a0 := a31 h1 (y := -1) (Or.inl rfl)
  by_cases q : b01 (¬ t1 15 4 &&& 512 = 0) = 0
  · rw [if_pos q, if_pos q]
    exact a0
  · rw [if_neg q, if_neg q]
    have e3 := (h1.get 3 rfl).1
    by_cases q2 : t1 15 6 = 0
    · rw [if_pos (show c1 12 8 = 0 from e3.trans q2), if_pos q2]
      have e : up2 t1 15 6 0 = t1 := by rw [← q2]; exact up2_self _ _ _
      obtain ⟨y, y1, y2, y3⟩ := line_eq h1
      have a1 := a31 h1 y3
      rw [e] at a1 ⊢
      rw [y1, y2]
      exact a1
    · rw [if_neg (show ¬ c1 12 8 = 0 from fun z => q2 (e3.symm.trans z)), if_neg q2]
      exact a0
theorem it_eq : ∀ (k : Nat) {c t : Sg}, RR c t → RR (itC k c) (itT k t)
  | 0, _, _, h => h
  | k + 1, _, _, h => it_eq k (adv_eq h)
theorem itC_hi : ∀ (k : Nat) (s σ : Sg), (∀ a, 15 ≤ a → s a = σ a) → ∀ a, 15 ≤ a → itC k s a = σ a
  | 0, _, _, h => h
  | k + 1, _, σ, h => itC_hi k _ σ (p_Pro_advance (P := fun z => ∀ a, 15 ≤ a → z a = σ a) (WP_hi rfl) (p_Tim_tick (P := fun z => ∀ a, 15 ≤ a → z a = σ a) (WP_hi rfl) h))
theorem itT_lo : ∀ (k : Nat) (s σ : Sg), (∀ a, a < 15 → s a = σ a) → ∀ a, a < 15 → itT k s a = σ a
  | 0, _, _, h => h
  | k + 1, _, σ, h => itT_lo k _ σ (p_Mod_oneStep (P := fun z => ∀ a, a < 15 → z a = σ a) (WP_lo rfl) h)
theorem Mb_of {c t : Sg} (h : RR c t) : Mb c := fun i => by
  rw [(h.2.1.1 i).1, i_lt]
  have := (h.2.1.1 i).2.1
  simp only [Int32.toInt_zero]
  omega
theorem MB_of {c t : Sg} (h : RR c t) : MB t := fun i => by
  rw [i_lt]
  have := (h.2.1.1 i).2.1
  simp only [Int32.toInt_zero]
  omega
theorem op_step : OP_step Rel := by
  intro σ a h
  have hG : ∀ b, 15 ≤ b → (f_SC_step σ a).2 b = σ b := by
    unfold f_SC_step
    intro b hb
    split
    · rfl
    · split
      · exact itC_hi _ σ σ (fun _ _ => rfl) b hb
      · rfl
  have h0 : RR σ (f_SC_step σ a).2 := RR.tc h hG
  refine ⟨fun j _ => Mb_of (tick_eq (it_eq j h)), fun j _ => ⟨KY_of (it_eq j h0), MB_of (it_eq j h0)⟩, ?_⟩
  rw [f_Mod_step, bnd_q, f_Mod_in]
  by_cases q1 : a < 1
  · rw [if_pos q1]
    dsimp only
    rw [if_pos rfl]
    unfold f_SC_step
    rw [if_pos q1]
    exact ⟨rfl, h⟩
  · rw [if_neg q1]
    by_cases q2 : a ≤ 100
    · have q3 : ¬ 100 < a := fun q => by
        rw [i_lt] at q
        rw [i_le] at q2
        omega
      rw [if_neg q3]
      dsimp only
      rw [if_neg (show ¬ (1 : Int32) = 0 by decide)]
      have e : f_SC_step σ a = (1, itC a.toNatClampNeg σ) := by
        unfold f_SC_step
        rw [if_neg q1, if_pos q2]
      rw [e] at h0 ⊢
      refine ⟨rfl, ?_⟩
      have z := it_eq a.toNatClampNeg h0
      exact z.ct (itT_lo _ _ _ (fun _ _ => rfl))
    · have q3 : 100 < a := by
        rw [i_le] at q2
        rw [i_lt]
        omega
      rw [if_pos q3]
      dsimp only
      rw [if_pos rfl]
      unfold f_SC_step
      rw [if_neg q1, if_neg q2]
      exact ⟨rfl, h⟩
