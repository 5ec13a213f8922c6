/-! load, side by side; the first state -/
theorem ldC_hi (w : Int32) : ∀ (k : Nat) (s : Sg) (i : Nat), 15 ≤ i → ldC w k s i = s i
  | 0, _, _, _ => rfl
  | k + 1, s, i, hi => by
    rw [ldC, ldC_hi w k _ i hi, up2_ne _ _ _ (by omega)]
    exact p_Mem_setByteAt (P := fun z => ∀ i, 15 ≤ i → z i = s i) (WP_hi rfl) (fun _ _ => rfl) i hi
theorem ldT_lo (w : Int32) : ∀ (k : Nat) (s : Sg) (i : Nat), i < 15 → ldT w k s i = s i
  | 0, _, _, _ => rfl
  | k + 1, s, i, hi => by
    rw [ldT, ldT_lo w k _ i hi, up2_ne _ _ _ (by omega), up2_ne _ _ _ (by omega)]
theorem ld_side (w : Int32) : ∀ (k : Nat) (c t : Sg), RR c t → (t 15 8).toInt + k ≤ 1024 → RR (ldC w k c) (ldT w k t)
  | 0, _, _, h, _ => h
  | k + 1, c, t, h, hk => by
    obtain ⟨e, r⟩ := h.get 5 (a := 0) (b := 8) (x := 15) (y := 8) (k := 5) rfl
    have r : 0 ≤ (t 15 8).toInt ∧ (t 15 8).toInt ≤ 1024 := r
    have hin : vp_in (t 15 8) 1024 := vp_in_iff.mpr ⟨r.1, by omega⟩
    have e1 : (1 : Int32).toInt = 1 := by decide
    have ep : (t 15 8 + 1).toInt = (t 15 8).toInt + 1 := by
      rw [Int32.toInt_add, e1]
      exact Int.bmod_eq_of_le (by omega) (by omega)
    have h1 := h.mem (Int32.toNatClampNeg (t 15 8)) (rng2_and (w >>> (((8 : Int32) * nI k) &&& 31)))
    have h2 := h1.up 5 (a := 0) (b := 8) (x := 15) (y := 8) (k := 5) rfl (v := t 15 8 + 1) (show 0 ≤ (t 15 8 + 1).toInt ∧ (t 15 8 + 1).toInt ≤ 1024 by rw [ep]; omega)
    have ec : f_Mem_setByteAt c (c 0 8) ((w >>> (((8 : Int32) * nI k) &&& 31)) &&& 255) = up2 c 2 (Int32.toNatClampNeg (t 15 8)) ((w >>> (((8 : Int32) * nI k) &&& 31)) &&& 255) := by
      simp only [f_Mem_setByteAt, bnd]
      rw [e, and_id (k := 10) (m := 1023) rfl (by decide) hin]
    have h3 := ld_side w k _ _ h2 (by rw [up2_put, ep]; omega)
    rw [ldC, ldT, ec, up2_ne c (a := 0) _ _ (by decide), e]
    exact h3
theorem sb_load (a b : Int32) : SB (fun s => f_SC_load s a b) (fun s => f_Mod_load s a b) := fun c t h => by
  obtain ⟨e2, e1⟩ := inlo t b 1 4
  obtain ⟨e, r⟩ := h.get 5 (a := 0) (b := 8) (x := 15) (y := 8) (k := 5) rfl
  have r : 0 ≤ (t 15 8).toInt ∧ (t 15 8).toInt ≤ 1024 := r
  simp only [f_SC_load, f_Mod_load, bnd, e2, e]
  by_cases h1 : b < 1
  · rw [if_pos h1, if_pos (e1.mpr (Or.inl h1))]; exact ⟨rfl, h⟩
  rw [if_neg h1]
  by_cases h2 : 4 < b
  · rw [if_pos h2, if_pos (e1.mpr (Or.inr h2))]; exact ⟨rfl, h⟩
  rw [if_neg h2, if_neg (fun z => (e1.mp z).elim h1 h2)]
  by_cases h3 : t 15 8 + b ≤ 1024
  · rw [if_pos h3, if_pos h3]
    refine ⟨rfl, ?_⟩
    obtain ⟨j, hj, rfl⟩ := nI_of2 (M := 4) (n := 4) rfl (pos_of h1) (le_of_nlt h2)
    rw [nI_clamp (by omega)]
    refine ld_side a j c t h ?_
    rw [i_le, Int32.toInt_add, nI_toInt (by omega), Int.bmod_eq_of_le (by omega) (by omega)] at h3
    have e9 : (1024 : Int32).toInt = 1024 := by decide
    omega
  · rw [if_neg h3, if_neg h3]; exact ⟨rfl, h⟩
theorem op_load : OP_load Rel := fun σ a b h => by
  have hf : ∀ s i, 15 ≤ i → (f_SC_load s a b).2 i = s i := fun s i hi => by
    unfold f_SC_load
    by_cases h1 : b < 1
    · rw [if_pos h1]
    rw [if_neg h1]
    by_cases h2 : 4 < b
    · rw [if_pos h2]
    rw [if_neg h2]
    by_cases h3 : s 0 8 + b ≤ 1024
    · rw [if_pos h3]; exact ldC_hi _ _ _ _ hi
    · rw [if_neg h3]
  refine ⟨trivial, ?_, op_of (sb_load a b) hf (fun s i hi => ?_) h⟩
  · rw [hf σ 15 (by decide)]
    exact (RR.get h 5 (a := 0) (b := 8) (x := 15) (y := 8) (k := 5) rfl).2
  · obtain ⟨e2, e1⟩ := inlo s b 1 4
    simp only [f_Mod_load, bnd, e2]
    by_cases h1 : (f_Mod_in s b 1 4).1 = 0
    · rw [if_pos h1]
    rw [if_neg h1]
    by_cases h3 : s 15 8 + b ≤ 1024
    · rw [if_pos h3]; exact ldT_lo _ _ _ _ hi
    · rw [if_neg h3]
theorem rel0 : Rel z0 := by
  refine ⟨fun q hq => ?_, ⟨fun i => ?_, fun i => ?_, fun i => ?_⟩, ?_, ?_⟩
  · have key : ∀ q ∈ PM, z0 q.1.1 q.1.2 = z0 q.2.1.1 q.2.1.2 := by decide +kernel
    refine ⟨key q hq, ?_⟩
    simp only [PM, List.mem_cons, List.not_mem_nil, or_false] at hq
    rcases hq with rfl | rfl | rfl | rfl | rfl | rfl | rfl | rfl | rfl | rfl | rfl | rfl | rfl | rfl | rfl | rfl | rfl | rfl | rfl | rfl <;> first | exact trivial | exact Or.inl rfl | exact ⟨by decide, by decide⟩ | (show _ = _; decide)
  · rw [zc_2, zc_16]; exact ⟨rfl, (⟨by decide, by decide⟩ : rng 2 (0 : Int32))⟩
  · rw [zc_4, zc_17]
    refine ⟨rfl, ?_⟩
    by_cases e : i = 4
    · subst e
      exact ⟨by decide, by decide⟩
    · simp only [upd, if_neg e]
      exact ⟨by decide, by decide⟩
  · rw [zc_5, zc_18]; exact ⟨rfl, (⟨by decide, by decide⟩ : rng 3 (0 : Int32))⟩
  · exact ⟨rfl, Or.inl ⟨rfl, rfl⟩⟩
  · exact ⟨rfl, 0, by decide, rfl, fun k hk => absurd hk (by omega)⟩
