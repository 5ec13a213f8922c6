/-! key, transfer, load; the first state -/
theorem up2_comm {σ : Sg} {a b x y : Nat} {v w : Int32} (h : ¬ (a = x ∧ b = y)) : up2 (up2 σ a b v) x y w = up2 (up2 σ x y w) a b v := by
  funext i j
  by_cases h1 : i = x ∧ j = y
  · obtain ⟨rfl, rfl⟩ := h1
    rw [up2_put, up2_get (fun e => h ⟨e.1.symm, e.2.symm⟩), up2_put]
  · rw [up2_get h1]
    by_cases h2 : i = a ∧ j = b
    · obtain ⟨rfl, rfl⟩ := h2
      rw [up2_put, up2_put]
    · rw [up2_get h2, up2_get h2, up2_get h1]
theorem RR.kb {c t : Sg} (h : RR c t) {n : Nat} (hn : n < 4) (e : t 15 28 = nI n) {v : Int32} (hv : rng 2 v) : RR (up2 (up2 c 10 n v) 9 2 (nI (n + 1))) (up2 (up2 t 19 n v) 15 28 (nI (n + 1))) := by
  obtain ⟨h1, h2, h3, h4, m, h5, h6, h7⟩ := h
  have em : m = n := (nI_eq (by omega) (by omega)).mp (h6.symm.trans e)
  subst em
  refine ⟨fun q hq => ?_, ?_, ?_, ?_⟩
  · obtain ⟨⟨f1, f2, f3, f4, f5, f6, f7⟩, g1, g2, g3, g4, g5⟩ := far hq
    obtain ⟨⟨qa, qb⟩, ⟨qx, qy⟩, qk⟩ := q
    dsimp only at f6 f7 g1 g5 ⊢
    rw [up2_get (neP (Ne.symm f6)), up2_ne _ _ _ f7, up2_get (neP (Ne.symm g5)), up2_ne _ _ _ (by omega)]
    exact h1 _ hq
  · unfold AR
    rw [up2_ne _ _ _ (by decide), up2_ne _ _ _ (by decide), up2_ne _ _ _ (by decide), up2_ne _ _ _ (by decide), up2_ne _ _ _ (by decide), up2_ne _ _ _ (by decide), up2_ne _ _ _ (by decide), up2_ne _ _ _ (by decide), up2_ne _ _ _ (by decide), up2_ne _ _ _ (by decide), up2_ne _ _ _ (by decide), up2_ne _ _ _ (by decide)]
    exact h2
  · unfold TM
    rw [up2_ne (up2 c 10 m v) (a := 8) _ _ (by decide), up2_ne c (a := 8) _ _ (by decide), up2_get (σ := up2 t 19 m v) (x := 15) (y := 22) (by decide), up2_get (σ := up2 t 19 m v) (x := 15) (y := 21) (by decide), up2_get (σ := up2 t 19 m v) (x := 15) (y := 23) (by decide), up2_ne t (a := 15) _ _ (by decide)]
    exact h3
  · unfold KB
    rw [up2_put, up2_put]
    refine ⟨rfl, m + 1, by omega, rfl, fun k hk => ?_⟩
    rw [up2_ne (up2 c 10 m v) (a := 10) _ _ (by decide), up2_ne (up2 t 19 m v) (a := 19) _ _ (by decide), up2_same, up2_same]
    by_cases ek : k = m
    · subst ek
      simp only [upd, if_true]
      exact ⟨trivial, hv⟩
    · simp only [upd, if_neg ek]
      exact h7 k (by omega)
theorem rq0 : rng 2 ((1 : Int32) <<< ((0 : Int32) &&& 31)) := ⟨by decide, by decide⟩
theorem rq1 : rng 2 ((1 : Int32) <<< ((1 : Int32) &&& 31)) := ⟨by decide, by decide⟩
theorem rq2 : rng 2 ((1 : Int32) <<< ((2 : Int32) &&& 31)) := ⟨by decide, by decide⟩
theorem sb_key (a : Int32) : SB (fun s => f_SC_key s a) (fun s => f_Mod_key s a) := fun c t h => by
  obtain ⟨e1, e2, e3, e4⟩ := isB_in c t a
  obtain ⟨k1, n, hn, k2, -⟩ := h.2.2.2
  dsimp only
  by_cases h0 : (f_Mod_in t a 0 255).1 = 0
  · have x1 : f_SC_key c a = (0, c) := by
      simp only [f_SC_key, bnd, e1, e2]
      rw [if_pos h0]
    have x2 : f_Mod_key t a = (0, t) := by
      simp only [f_Mod_key, bnd, e3]
      rw [if_pos h0]
    rw [x1, x2]
    exact ⟨rfl, h⟩
  have hv := e4.resolve_left h0
  by_cases h4 : n < 4
  · have l1 : c 9 2 < 4 := by rw [k1, k2]; exact nI_lt (b := 4) h4 (by decide)
    have l2 : t 15 28 < 4 := by rw [k2]; exact nI_lt (b := 4) h4 (by decide)
    have cl : ∀ s : Sg, s 9 2 = nI n → f_Key_come_25 s a = (1, up2 (up2 s 10 n a) 9 2 (nI (n + 1))) := fun s hs => by
      simp only [f_Key_come_25, bnd]
      rw [up2_ne s (a := 9) _ _ (by decide), hs, nI_clamp (by omega), nI_1]
    have x1 : f_SC_key c a = f_Key_come c a := by
      simp only [f_SC_key, bnd, e1, e2]
      rw [if_neg h0]
      have y : (f_Key_come c a).1 = 1 := by
        unfold f_Key_come
        rw [if_pos l1]
        by_cases hz : c 9 2 = 0
        · rw [if_pos hz]; rfl
        · rw [if_neg hz]; rfl
      rw [if_neg (by rw [y]; decide), ← y]
    have x2 : f_Mod_key t a = (if nI (n + 1) = 1 then (1, f_Mod_request (up2 (up2 t 19 n a) 15 28 (nI (n + 1))) 1) else (1, up2 (up2 t 19 n a) 15 28 (nI (n + 1)))) := by
      simp only [f_Mod_key, bnd, e3]
      rw [if_neg h0, if_pos l2, up2_put, up2_ne t (a := 15) _ _ (by decide), k2, nI_clamp (by omega), nI_1]
    rw [x1, x2]
    unfold f_Key_come
    rw [if_pos l1]
    by_cases hz : n = 0
    · subst hz
      have z1 : c 9 2 = 0 := by rw [k1, k2]; rfl
      rw [if_pos z1, if_pos (show nI (0 + 1) = 1 from rfl)]
      simp only [bnd]
      rw [cl (f_Ctl_request c 1) z1]
      have hb := (h.req (k := 1) rq1).kb (n := 0) (by decide) (show (f_Mod_request t 1) 15 28 = nI 0 from k2) hv
      refine ⟨rfl, ?_⟩
      simp only [f_Mod_request, bnd] at hb ⊢
      have ec : up2 (up2 (up2 t 15 17 (t 15 17 ||| 1 <<< ((1 : Int32) &&& 31))) 19 0 a) 15 28 (nI (0 + 1)) = up2 (up2 (up2 t 19 0 a) 15 28 (nI (0 + 1))) 15 17 (t 15 17 ||| 1 <<< ((1 : Int32) &&& 31)) := by
        rw [up2_comm (a := 15) (b := 17) (x := 19) (y := 0) (by decide), up2_comm (a := 15) (b := 17) (x := 15) (y := 28) (by decide)]
      rw [ec] at hb
      exact hb
    · have z1 : ¬ c 9 2 = 0 := by rw [k1, k2]; exact nI_ne0 (by omega) (by omega)
      rw [if_neg z1, cl c (k1.trans k2), if_neg (show ¬ nI (n + 1) = 1 from fun z => by
        have := (nI_eq (a := n + 1) (b := 1) (by omega) (by decide)).mp z
        omega)]
      exact ⟨rfl, h.kb h4 k2 hv⟩
  · have l1 : ¬ c 9 2 < 4 := by rw [k1, k2]; exact nI_nlt (a := n) (b := 4) (by omega) (by omega)
    have l2 : ¬ t 15 28 < 4 := by rw [k2]; exact nI_nlt (a := n) (b := 4) (by omega) (by omega)
    have y : f_Key_come c a = (0, c) := by
      unfold f_Key_come
      rw [if_neg l1]
    have x1 : f_SC_key c a = (0, c) := by
      simp only [f_SC_key, bnd, e1, e2, y]
      rw [if_neg h0, if_pos trivial]
    have x2 : f_Mod_key t a = (0, t) := by
      simp only [f_Mod_key, bnd, e3]
      rw [if_neg h0, if_neg l2]
    rw [x1, x2]
    exact ⟨rfl, h⟩
theorem KY_of {c t : Sg} (h : RR c t) : KY t := by
  obtain ⟨k1, n, hn, k2, -⟩ := h.2.2.2
  show vp_in (t 15 28) 5
  rw [k2]
  exact vp_in_nI (by omega) (by decide)
theorem op_key : OP_key Rel := fun σ a h => by
  have hf : ∀ s i, 15 ≤ i → (f_SC_key s a).2 i = s i := fun s => p_SC_key (P := fun z => ∀ i, 15 ≤ i → z i = s i) (WP_hi rfl) (fun _ _ => rfl)
  refine ⟨?_, ?_, op_of (sb_key a) hf (fun s => p_Mod_key (P := fun z => ∀ i, i < 15 → z i = s i) (WP_lo rfl) (fun _ _ => rfl)) h⟩
  · obtain ⟨k1, n, hn, k2, -⟩ := h.2.2.2
    rw [k1, k2]
    exact nI_pos (by omega)
  · exact KY_of (RR.tc h (hf σ))
theorem ch_in {p q : Int32} (hp : rng 6 p) (hq : rng 2 q) : vp_in ((256 : Int32) * p + q) 1024 := by
  obtain ⟨i, hi, rfl⟩ := vp_in_of (vp_in_iff.mpr ⟨hp.1, hp.2⟩ : vp_in p 4) (by decide)
  obtain ⟨j, hj, rfl⟩ := vp_in_of (vp_in_iff.mpr ⟨hq.1, hq.2⟩ : vp_in q 256) (by decide)
  rw [show (256 : Int32) = nI 256 from rfl, pk_mul, nI_add]
  exact vp_in_nI (by omega) (by decide)
theorem rng2_and (v : Int32) : rng 2 (v &&& 255) := by
  have := vp_in_iff.mp (pk_andIn v (m := 255) 8 rfl (by decide))
  exact ⟨by omega, by omega⟩
theorem rng3_dec {v : Int32} (h : rng 3 v) (h0 : ¬ v = 0) : rng 3 (v - 1) := by
  have h1 : ¬ v.toInt = 0 := fun z => h0 (Int32.toInt_inj.mp (by rw [z]; rfl))
  have h2 : (1 : Int32).toInt = 1 := by decide
  show 0 ≤ (v - 1).toInt ∧ (v - 1).toInt < 65536
  obtain ⟨g1, g2⟩ := h
  rw [sub_toInt (by decide) (by rw [i_le]; omega), h2]
  omega
theorem sb_transfer (a : Int32) : SB (fun s => f_SC_transfer s a) (fun s => f_Mod_transfer s a) := fun c t h => by
  obtain ⟨e1, e2, e3, e4⟩ := isB_in c t a
  simp only [f_SC_transfer, f_Mod_transfer, f_Cha_come, bnd, e1, e2, e3]
  obtain ⟨o1, o2⟩ := h.get 17 rfl
  by_cases h0 : (f_Mod_in t a 0 255).1 = 0
  · rw [if_pos h0]
    by_cases h1 : t 15 34 = 0
    · rw [if_pos h1]; exact ⟨rfl, h⟩
    · rw [if_neg h1, if_pos h0]; exact ⟨rfl, h⟩
  rw [if_neg h0]
  have hv := e4.resolve_left h0
  by_cases h1 : t 15 34 = 0
  · rw [if_pos h1, if_pos (show c 11 5 = 0 from o1.trans h1), if_pos rfl]; exact ⟨rfl, h⟩
  rw [if_neg h1, if_neg h0, if_neg (show ¬ c 11 5 = 0 from fun z => h1 (o1.symm.trans z))]
  obtain ⟨p1, p2⟩ := h.get 16 (a := 11) (b := 4) (x := 15) (y := 32) (k := 6) rfl
  obtain ⟨q1, q2⟩ := h.get 14 (a := 11) (b := 2) (x := 15) (y := 30) (k := 2) rfl
  have hin := ch_in p2 q2
  simp only [f_Mem_setByteAt, bnd, p1, q1, and_id (k := 10) (m := 1023) rfl (by decide) hin]
  have r1 := h.mem (Int32.toNatClampNeg ((256 : Int32) * t 15 32 + t 15 30)) hv
  generalize up2 c 2 (Int32.toNatClampNeg ((256 : Int32) * t 15 32 + t 15 30)) a = c1 at r1 ⊢
  generalize up2 t 16 (Int32.toNatClampNeg ((256 : Int32) * t 15 32 + t 15 30)) a = t1 at r1 ⊢
  obtain ⟨q3, q4⟩ := r1.get 14 (a := 11) (b := 2) (x := 15) (y := 30) (k := 2) rfl
  rw [q3]
  have r2 := r1.up 14 (a := 11) (b := 2) (x := 15) (y := 30) (k := 2) rfl (rng2_and (t1 15 30 + 1))
  generalize up2 c1 11 2 ((t1 15 30 + 1) &&& 255) = c2 at r2 ⊢
  generalize up2 t1 15 30 ((t1 15 30 + 1) &&& 255) = t2 at r2 ⊢
  obtain ⟨l1, l2⟩ := r2.get 15 (a := 11) (b := 3) (x := 15) (y := 31) (k := 3) rfl
  by_cases h2 : t2 15 31 = 0
  · rw [if_pos h2, if_pos (l1.trans h2), if_neg (show ¬ (1 : Int32) = 0 by decide)]
    have r3 := (r2.up 17 (a := 11) (b := 5) (x := 15) (y := 34) (k := 1) rfl (v := 0) (Or.inl rfl)).up 18 (a := 11) (b := 6) (x := 15) (y := 35) (k := 1) rfl (v := 1) (Or.inr rfl)
    exact ⟨rfl, r3.req rq2⟩
  · rw [if_neg h2, if_neg (fun z => h2 (l1.symm.trans z)), if_neg (show ¬ (1 : Int32) = 0 by decide), l1]
    exact ⟨rfl, r2.up 15 (a := 11) (b := 3) (x := 15) (y := 31) (k := 3) rfl (rng3_dec l2 h2)⟩
theorem op_transfer : OP_transfer Rel := fun σ a h => by
  have hf : ∀ s i, 15 ≤ i → (f_SC_transfer s a).2 i = s i := fun s => p_SC_transfer (P := fun z => ∀ i, 15 ≤ i → z i = s i) (WP_hi rfl) (fun _ _ => rfl)
  refine ⟨trivial, ?_, op_of (sb_transfer a) hf (fun s => p_Mod_transfer (P := fun z => ∀ i, i < 15 → z i = s i) (WP_lo rfl) (fun _ _ => rfl)) h⟩
  rw [hf σ 15 (by decide)]
  exact ch_in (RR.get h 16 (a := 11) (b := 4) (x := 15) (y := 32) (k := 6) rfl).2 (RR.get h 14 (a := 11) (b := 2) (x := 15) (y := 30) (k := 2) rfl).2
