/-! operations, side by side -/
def SB (f g : Sg → Int32 × Sg) : Prop := ∀ c t, RR c t → (f c).1 = (g t).1 ∧ RR (f c).2 (g t).2
theorem op_of {f g : Sg → Int32 × Sg} (h : SB f g) (hf : ∀ σ a, 15 ≤ a → (f σ).2 a = σ a) (hg : ∀ σ a, a < 15 → (g σ).2 a = σ a) {σ : Sg} (hR : Rel σ) : (f σ).1 = (g (f σ).2).1 ∧ Rel (g (f σ).2).2 := by
  obtain ⟨h1, h2⟩ := h σ (f σ).2 (RR.tc hR (hf σ))
  exact ⟨h1, h2.ct (hg _)⟩
theorem sb_halted : SB f_SC_halted f_Mod_halted := fun c t h => ⟨(h.get 2 rfl).1, h⟩
theorem sb_interrupts : SB f_SC_interrupts f_Mod_interrupts := fun c t h => ⟨(h.get 4 rfl).1, h⟩
theorem sb_count : SB f_SC_count f_Mod_count := fun c t h => by
  unfold f_SC_count f_Mod_count
  rcases h.2.2.1.2 with ⟨h1, h2⟩ | ⟨h1, h2, -⟩
  · rw [if_pos h1]
    exact ⟨h2, h⟩
  · rw [if_neg (by rw [h1]; decide)]
    exact ⟨h2, h⟩
theorem sb_lines (a : Int32) : SB (fun s => f_SC_lines s a) (fun s => f_Mod_lines s a) := fun c t h => by
  dsimp only
  unfold f_SC_lines f_Mod_lines
  by_cases h0 : a = 0
  · rw [if_pos h0, if_pos h0]; exact ⟨(h.get 6 rfl).1, h⟩
  rw [if_neg h0, if_neg h0]
  by_cases h1 : a = 1
  · rw [if_pos h1, if_pos h1]; exact ⟨(h.get 7 rfl).1, h⟩
  rw [if_neg h1, if_neg h1]
  by_cases h2 : a = 2
  · rw [if_pos h2, if_pos h2]; exact ⟨(h.get 8 rfl).1, h⟩
  rw [if_neg h2, if_neg h2]
  exact ⟨rfl, h⟩
theorem le_succ {a m n : Int32} (h : n.toInt = m.toInt + 1) : (n ≤ a) ↔ (m < a) := by
  rw [i_le, i_lt]
  omega
/-- the two range checks, on any state -/
theorem has_in (c t : Sg) (a : Int32) : (f_Mem_has c a).1 = (f_Mod_in t a 0 1023).1 ∧ (f_Mem_has c a).2 = c ∧ (f_Mod_in t a 0 1023).2 = t ∧ ((f_Mod_in t a 0 1023).1 = 0 ∨ vp_in a 1024) := by
  unfold f_Mem_has f_Mod_in
  by_cases h1 : a < 0
  · rw [if_pos h1, if_pos h1]; exact ⟨rfl, rfl, rfl, Or.inl rfl⟩
  rw [if_neg h1, if_neg h1]
  have e := le_succ (a := a) (m := 1023) (n := 1024) (by decide)
  by_cases h2 : (1023 : Int32) < a
  · rw [if_pos h2, if_pos (e.mpr h2)]; exact ⟨rfl, rfl, rfl, Or.inl rfl⟩
  · rw [if_neg h2, if_neg (fun z => h2 (e.mp z))]
    exact ⟨rfl, rfl, rfl, Or.inr (vin_nle (m := 1024) rfl h1 (fun z => h2 (e.mp z)))⟩
theorem isB_in (c t : Sg) (a : Int32) : (f_SC_isByte c a).1 = (f_Mod_in t a 0 255).1 ∧ (f_SC_isByte c a).2 = c ∧ (f_Mod_in t a 0 255).2 = t ∧ ((f_Mod_in t a 0 255).1 = 0 ∨ rng 2 a) := by
  unfold f_SC_isByte f_Mod_in
  by_cases h1 : a < 0
  · rw [if_pos h1, if_pos h1]; exact ⟨rfl, rfl, rfl, Or.inl rfl⟩
  rw [if_neg h1, if_neg h1]
  by_cases h2 : (255 : Int32) < a
  · rw [if_pos h2, if_pos h2]; exact ⟨rfl, rfl, rfl, Or.inl rfl⟩
  · rw [if_neg h2, if_neg h2]
    refine ⟨rfl, rfl, rfl, Or.inr ?_⟩
    rw [i_lt] at h1 h2
    rw [Int32.toInt_zero] at h1
    have e : (255 : Int32).toInt = 255 := by decide
    exact ⟨by omega, by omega⟩
theorem and_id {a m : Int32} {k : Nat} (hm : m.toBitVec.toNat = 2 ^ k - 1) (hk : k ≤ 30) (h : vp_in a (2 ^ k)) : a &&& m = a := by
  have hlt : 2 ^ k ≤ 2 ^ 30 := Nat.pow_le_pow_right (by decide) hk
  obtain ⟨j, hj, rfl⟩ := vp_in_of h (by omega)
  rw [pk_andN (by omega) k hm, Nat.mod_eq_of_lt hj]
theorem sb_peek (a : Int32) : SB (fun s => f_SC_peek s a) (fun s => f_Mod_peek s a) := fun c t h => by
  obtain ⟨e1, e2, e3, e4⟩ := has_in c t a
  simp only [f_SC_peek, f_Mod_peek, bnd, e1, e2, e3]
  by_cases h0 : (f_Mod_in t a 0 1023).1 = 0
  · rw [if_pos h0, if_pos h0]; exact ⟨rfl, h⟩
  · rw [if_neg h0, if_neg h0]
    rcases e4 with e4 | e4
    · exact absurd e4 h0
    · simp only [f_Mem_byteAt, and_id (k := 10) (m := 1023) rfl (by decide) e4]
      exact ⟨(h.2.1.1 _).1, h⟩
theorem sb_poke (a b : Int32) : SB (fun s => f_SC_poke s a b) (fun s => f_Mod_poke s a b) := fun c t h => by
  obtain ⟨e1, e2, e3, e4⟩ := has_in c t a
  obtain ⟨g1, g2, g3, g4⟩ := isB_in c t b
  simp only [f_SC_poke, f_Mod_poke, bnd, e1, e2, e3, g1, g2, g3]
  by_cases h0 : (f_Mod_in t a 0 1023).1 = 0
  · rw [if_pos h0, if_pos h0]; exact ⟨rfl, h⟩
  · rw [if_neg h0, if_neg h0]
    by_cases h1 : (f_Mod_in t b 0 255).1 = 0
    · rw [if_pos h1, if_pos h1]; exact ⟨rfl, h⟩
    · rw [if_neg h1, if_neg h1]
      simp only [f_Mem_setByteAt, bnd, and_id (k := 10) (m := 1023) rfl (by decide) (e4.resolve_left h0)]
      exact ⟨trivial, h.mem _ (g4.resolve_left h1)⟩
theorem rng5 {a : Int32} (h : vp_in a 1024) : rng 5 a := by
  have := vp_in_iff.mp h
  exact ⟨by omega, by omega⟩
theorem sb_seek (a : Int32) : SB (fun s => f_SC_seek s a) (fun s => f_Mod_seek s a) := fun c t h => by
  obtain ⟨e1, e2, e3, e4⟩ := has_in c t a
  simp only [f_SC_seek, f_Mod_seek, bnd, e1, e2, e3]
  by_cases h0 : (f_Mod_in t a 0 1023).1 = 0
  · rw [if_pos h0, if_pos h0]; exact ⟨rfl, h⟩
  · rw [if_neg h0, if_neg h0]
    exact ⟨rfl, h.up 5 rfl (rng5 (e4.resolve_left h0))⟩
theorem in13 (t : Sg) (a : Int32) : (f_Mod_in t a 0 13).2 = t ∧ ((f_Mod_in t a 0 13).1 = 0 ↔ (a < 0 ∨ ¬ a ≤ 13)) := by
  unfold f_Mod_in
  by_cases h1 : a < 0
  · rw [if_pos h1]; exact ⟨rfl, fun _ => Or.inl h1, fun _ => rfl⟩
  rw [if_neg h1]
  have e : (13 < a) ↔ ¬ (a ≤ 13) := by rw [i_lt, i_le]; omega
  by_cases h2 : (13 : Int32) < a
  · rw [if_pos h2]; exact ⟨rfl, fun _ => Or.inr (e.mp h2), fun _ => rfl⟩
  · rw [if_neg h2]
    exact ⟨rfl, fun z => absurd z (show ¬ (1 : Int32) = 0 by decide), fun z => z.elim (fun z => absurd z h1) (fun z => absurd (e.mpr z) h2)⟩
theorem sb_register (a : Int32) : SB (fun s => f_SC_register s a) (fun s => f_Mod_register s a) := fun c t h => by
  obtain ⟨e2, e1⟩ := in13 t a
  simp only [f_SC_register, f_Mod_register, bnd, e2]
  by_cases h1 : a < 0
  · rw [if_pos h1, if_pos (e1.mpr (Or.inl h1))]; exact ⟨rfl, h⟩
  rw [if_neg h1]
  by_cases h2 : a ≤ 13
  · rw [if_pos h2, if_neg (fun z => (e1.mp z).elim h1 (fun y => y h2))]
    by_cases h3 : 8 ≤ a
    · rw [if_pos h3, if_pos h3]
      by_cases h4 : 12 ≤ a
      · rw [if_pos h4, if_pos h4]
        by_cases h5 : a = 12
        · rw [if_pos h5, if_pos h5]; exact ⟨(h.get 0 rfl).1, h⟩
        · rw [if_neg h5, if_neg h5]; exact ⟨(h.get 1 rfl).1, h⟩
      · rw [if_neg h4, if_neg h4]; exact ⟨(h.2.1.2.2 _).1, h⟩
    · rw [if_neg h3, if_neg h3]; exact ⟨(h.2.1.2.1 _).1, h⟩
  · rw [if_neg h2, if_pos (e1.mpr (Or.inr h2))]; exact ⟨rfl, h⟩
theorem rng3_and (v : Int32) : rng 3 (v &&& 65535) := by
  have := vp_in_iff.mp (pk_andIn v (m := 65535) 16 rfl (by decide))
  exact ⟨by omega, by omega⟩
theorem op_poke : OP_poke Rel := fun σ a b h => ⟨trivial, trivial, op_of (sb_poke a b) (fun s => p_SC_poke (P := fun z => ∀ i, 15 ≤ i → z i = s i) (WP_hi rfl) (fun _ _ => rfl)) (fun s => p_Mod_poke (P := fun z => ∀ i, i < 15 → z i = s i) (WP_lo rfl) (fun _ _ => rfl)) h⟩
theorem op_seek : OP_seek Rel := fun σ a h => ⟨trivial, trivial, op_of (sb_seek a) (fun s => p_SC_seek (P := fun z => ∀ i, 15 ≤ i → z i = s i) (WP_hi rfl) (fun _ _ => rfl)) (fun s => p_Mod_seek (P := fun z => ∀ i, i < 15 → z i = s i) (WP_lo rfl) (fun _ _ => rfl)) h⟩
theorem op_peek : OP_peek Rel := fun σ a h => ⟨trivial, trivial, op_of (sb_peek a) (fun s => p_SC_peek (P := fun z => ∀ i, 15 ≤ i → z i = s i) (WP_hi rfl) (fun _ _ => rfl)) (fun s => p_Mod_peek (P := fun z => ∀ i, i < 15 → z i = s i) (WP_lo rfl) (fun _ _ => rfl)) h⟩
theorem op_register : OP_register Rel := fun σ a h => ⟨trivial, trivial, op_of (sb_register a) (fun s => p_SC_register (P := fun z => ∀ i, 15 ≤ i → z i = s i) (WP_hi rfl) (fun _ _ => rfl)) (fun s => p_Mod_register (P := fun z => ∀ i, i < 15 → z i = s i) (WP_lo rfl) (fun _ _ => rfl)) h⟩
theorem op_lines : OP_lines Rel := fun σ a h => ⟨trivial, trivial, op_of (sb_lines a) (fun s => p_SC_lines (P := fun z => ∀ i, 15 ≤ i → z i = s i) (WP_hi rfl) (fun _ _ => rfl)) (fun s => p_Mod_lines (P := fun z => ∀ i, i < 15 → z i = s i) (WP_lo rfl) (fun _ _ => rfl)) h⟩
theorem op_count : OP_count Rel := fun σ h => ⟨trivial, trivial, op_of sb_count (fun _ _ _ => rfl) (fun s => p_Mod_count (P := fun z => ∀ i, i < 15 → z i = s i) (WP_lo rfl) (fun _ _ => rfl)) h⟩
theorem op_interrupts : OP_interrupts Rel := fun σ h => ⟨trivial, trivial, op_of sb_interrupts (fun _ _ _ => rfl) (fun _ _ _ => rfl) h⟩
theorem op_halted : OP_halted Rel := fun σ h => by
  have h2 := RR.get h 2 (a := 12) (b := 6) (x := 15) (y := 5) (k := 1) rfl
  refine ⟨?_, ?_, op_of sb_halted (fun _ _ _ => rfl) (fun _ _ _ => rfl) h⟩
  · rw [h2.1]; exact h2.2
  · exact h2.2
