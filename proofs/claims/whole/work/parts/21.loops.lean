def I_SC_step_0 : List IT := [(0, .iload_n 1, 1, 0, 0, []), (1, .iconst 1, 1, 1, 0, []), (2, .if_icmp .lt 9, 3, 0, 11, []), (5, .iload_n 1, 1, 0, 0, []), (6, .bipush 100, 2, 100, 0, []), (8, .if_icmp .le 5, 3, 0, 13, [])]
theorem ok_SC_step_0 : blkOK b_SC_step pt_SC 11 I_SC_step_0 = true := by decide +kernel
def I_SC_step_11 : List IT := [(11, .iconst 0, 1, 0, 0, []), (12, .ireturn, 1, 0, 0, [])]
theorem ok_SC_step_11 : blkOK b_SC_step pt_SC 13 I_SC_step_11 = true := by decide +kernel
def I_SC_step_13 : List IT := [(13, .iconst 0, 1, 0, 0, []), (14, .istore_n 2, 1, 0, 0, [])]
theorem ok_SC_step_13 : blkOK b_SC_step pt_SC 15 I_SC_step_13 = true := by decide +kernel
def I_SC_step_15 : List IT := [(15, .iload_n 2, 1, 0, 0, []), (16, .iload_n 1, 1, 0, 0, []), (17, .if_icmp .ge 23, 3, 0, 40, []), (20, .aload_n 0, 1, 0, 0, []), (21, .getfield 42, 3, 0, 0, []), (24, .invokevirtual 102, 3, 0, 0, []), (27, .aload_n 0, 1, 0, 0, []), (28, .getfield 72, 3, 0, 0, []), (31, .invokevirtual 105, 3, 0, 0, []), (34, .iinc 2 1, 3, 1, 0, []), (37, .goto (-22), 3, 0, 15, [])]
theorem ok_SC_step_15 : blkOK b_SC_step pt_SC 40 I_SC_step_15 = true := by decide +kernel
def I_SC_step_40 : List IT := [(40, .iconst 1, 1, 1, 0, []), (41, .ireturn, 1, 0, 0, [])]
theorem ok_SC_step_40 : blkOK b_SC_step pt_SC 42 I_SC_step_40 = true := by decide +kernel
def I_SC_load_0 : List IT := [(0, .iload_n 2, 1, 0, 0, []), (1, .iconst 1, 1, 1, 0, []), (2, .if_icmp .lt 20, 3, 0, 22, []), (5, .iload_n 2, 1, 0, 0, []), (6, .iconst 4, 1, 4, 0, []), (7, .if_icmp .gt 15, 3, 0, 22, []), (10, .aload_n 0, 1, 0, 0, []), (11, .getfield 84, 3, 0, 0, []), (14, .iload_n 2, 1, 0, 0, []), (15, .iadd, 1, 0, 0, []), (16, .sipush 1024, 3, 1024, 0, []), (19, .if_icmp .le 5, 3, 0, 24, [])]
theorem ok_SC_load_0 : blkOK b_SC_load pt_SC 22 I_SC_load_0 = true := by decide +kernel
def I_SC_load_22 : List IT := [(22, .iconst 0, 1, 0, 0, []), (23, .ireturn, 1, 0, 0, [])]
theorem ok_SC_load_22 : blkOK b_SC_load pt_SC 24 I_SC_load_22 = true := by decide +kernel
def I_SC_load_24 : List IT := [(24, .iload_n 2, 1, 0, 0, []), (25, .iconst 1, 1, 1, 0, []), (26, .isub, 1, 0, 0, []), (27, .istore_n 3, 1, 0, 0, [])]
theorem ok_SC_load_24 : blkOK b_SC_load pt_SC 28 I_SC_load_24 = true := by decide +kernel
def I_SC_load_28 : List IT := [(28, .iload_n 3, 1, 0, 0, []), (29, .ifCond .lt 40, 3, 0, 69, []), (32, .aload_n 0, 1, 0, 0, []), (33, .getfield 10, 3, 0, 0, []), (36, .aload_n 0, 1, 0, 0, []), (37, .getfield 84, 3, 0, 0, []), (40, .iload_n 1, 1, 0, 0, []), (41, .bipush 8, 2, 8, 0, []), (43, .iload_n 3, 1, 0, 0, []), (44, .imul, 1, 0, 0, []), (45, .ishr, 1, 0, 0, []), (46, .sipush 255, 3, 255, 0, []), (49, .iand, 1, 0, 0, []), (50, .invokevirtual 94, 3, 0, 0, []), (53, .aload_n 0, 1, 0, 0, []), (54, .dup, 1, 0, 0, []), (55, .getfield 84, 3, 0, 0, []), (58, .iconst 1, 1, 1, 0, []), (59, .iadd, 1, 0, 0, []), (60, .putfield 84, 3, 0, 0, []), (63, .iinc 3 (-1), 3, (-1), 0, []), (66, .goto (-38), 3, 0, 28, [])]
theorem ok_SC_load_28 : blkOK b_SC_load pt_SC 69 I_SC_load_28 = true := by decide +kernel
def I_SC_load_69 : List IT := [(69, .iconst 1, 1, 1, 0, []), (70, .ireturn, 1, 0, 0, [])]
theorem ok_SC_load_69 : blkOK b_SC_load pt_SC 71 I_SC_load_69 = true := by decide +kernel
def I_Mod_step_0 : List IT := [(0, .iload_n 1, 1, 0, 0, []), (1, .iconst 1, 1, 1, 0, []), (2, .bipush 100, 2, 100, 0, []), (4, .invokestatic 100, 3, 0, 0, []), (7, .ifCond .ne 5, 3, 0, 12, []), (10, .iconst 0, 1, 0, 0, []), (11, .ireturn, 1, 0, 0, [])]
theorem ok_Mod_step_0 : blkOK b_Mod_step pt_Mod 12 I_Mod_step_0 = true := by decide +kernel
def I_Mod_step_12 : List IT := [(12, .iconst 0, 1, 0, 0, []), (13, .istore_n 2, 1, 0, 0, [])]
theorem ok_Mod_step_12 : blkOK b_Mod_step pt_Mod 14 I_Mod_step_12 = true := by decide +kernel
def I_Mod_step_14 : List IT := [(14, .iload_n 2, 1, 0, 0, []), (15, .iload_n 1, 1, 0, 0, []), (16, .if_icmp .ge 13, 3, 0, 29, []), (19, .aload_n 0, 1, 0, 0, []), (20, .invokevirtual 316, 3, 0, 0, []), (23, .iinc 2 1, 3, 1, 0, []), (26, .goto (-12), 3, 0, 14, [])]
theorem ok_Mod_step_14 : blkOK b_Mod_step pt_Mod 29 I_Mod_step_14 = true := by decide +kernel
def I_Mod_step_29 : List IT := [(29, .iconst 1, 1, 1, 0, []), (30, .ireturn, 1, 0, 0, [])]
theorem ok_Mod_step_29 : blkOK b_Mod_step pt_Mod 31 I_Mod_step_29 = true := by decide +kernel
def I_Mod_load_0 : List IT := [(0, .iload_n 2, 1, 0, 0, []), (1, .iconst 1, 1, 1, 0, []), (2, .iconst 4, 1, 4, 0, []), (3, .invokestatic 100, 3, 0, 0, []), (6, .ifCond .eq 15, 3, 0, 21, []), (9, .aload_n 0, 1, 0, 0, []), (10, .getfield 26, 3, 0, 0, []), (13, .iload_n 2, 1, 0, 0, []), (14, .iadd, 1, 0, 0, []), (15, .sipush 1024, 3, 1024, 0, []), (18, .if_icmp .le 5, 3, 0, 23, [])]
theorem ok_Mod_load_0 : blkOK b_Mod_load pt_Mod 21 I_Mod_load_0 = true := by decide +kernel
def I_Mod_load_21 : List IT := [(21, .iconst 0, 1, 0, 0, []), (22, .ireturn, 1, 0, 0, [])]
theorem ok_Mod_load_21 : blkOK b_Mod_load pt_Mod 23 I_Mod_load_21 = true := by decide +kernel
def I_Mod_load_23 : List IT := [(23, .iload_n 2, 1, 0, 0, []), (24, .iconst 1, 1, 1, 0, []), (25, .isub, 1, 0, 0, []), (26, .istore_n 3, 1, 0, 0, [])]
theorem ok_Mod_load_23 : blkOK b_Mod_load pt_Mod 27 I_Mod_load_23 = true := by decide +kernel
def I_Mod_load_27 : List IT := [(27, .iload_n 3, 1, 0, 0, []), (28, .ifCond .lt 38, 3, 0, 66, []), (31, .aload_n 0, 1, 0, 0, []), (32, .getfield 7, 3, 0, 0, []), (35, .aload_n 0, 1, 0, 0, []), (36, .getfield 26, 3, 0, 0, []), (39, .iload_n 1, 1, 0, 0, []), (40, .bipush 8, 2, 8, 0, []), (42, .iload_n 3, 1, 0, 0, []), (43, .imul, 1, 0, 0, []), (44, .ishr, 1, 0, 0, []), (45, .sipush 255, 3, 255, 0, []), (48, .iand, 1, 0, 0, []), (49, .iastore, 1, 0, 0, []), (50, .aload_n 0, 1, 0, 0, []), (51, .aload_n 0, 1, 0, 0, []), (52, .getfield 26, 3, 0, 0, []), (55, .iconst 1, 1, 1, 0, []), (56, .iadd, 1, 0, 0, []), (57, .putfield 26, 3, 0, 0, []), (60, .iinc 3 (-1), 3, (-1), 0, []), (63, .goto (-36), 3, 0, 27, [])]
theorem ok_Mod_load_27 : blkOK b_Mod_load pt_Mod 66 I_Mod_load_27 = true := by decide +kernel
def I_Mod_load_66 : List IT := [(66, .iconst 1, 1, 1, 0, []), (67, .ireturn, 1, 0, 0, [])]
theorem ok_Mod_load_66 : blkOK b_Mod_load pt_Mod 68 I_Mod_load_66 = true := by decide +kernel
/-! the four loops -/
def itC : Nat → Sg → Sg
  | 0, σ => σ
  | k + 1, σ => itC k (f_Pro_advance (f_Tim_tick σ))
def itT : Nat → Sg → Sg
  | 0, σ => σ
  | k + 1, σ => itT k (f_Mod_oneStep σ)
def ldC (w : Int32) : Nat → Sg → Sg
  | 0, σ => σ
  | k + 1, σ => ldC w k (up2 (f_Mem_setByteAt σ (σ 0 8) ((w >>> (((8 : Int32) * nI k) &&& 31)) &&& 255)) 0 8 ((f_Mem_setByteAt σ (σ 0 8) ((w >>> (((8 : Int32) * nI k) &&& 31)) &&& 255)) 0 8 + 1))
def ldT (w : Int32) : Nat → Sg → Sg
  | 0, σ => σ
  | k + 1, σ => ldT w k (up2 (up2 σ 16 (Int32.toNatClampNeg (σ 15 8)) ((w >>> (((8 : Int32) * nI k) &&& 31)) &&& 255)) 15 8 (σ 15 8 + 1))
def f_SC_step (σ : Sg) (a1 : Int32) : Int32 × Sg := if a1 < 1 then (0, σ) else if a1 ≤ 100 then (1, itC a1.toNatClampNeg σ) else (0, σ)
def f_Mod_step (σ : Sg) (a1 : Int32) : Int32 × Sg := bnd (f_Mod_in σ a1 1 100) fun r1 => if r1.1 = 0 then (0, r1.2) else (1, itT a1.toNatClampNeg r1.2)
def f_SC_load (σ : Sg) (a1 a2 : Int32) : Int32 × Sg := if a2 < 1 then (0, σ) else if 4 < a2 then (0, σ) else if σ 0 8 + a2 ≤ 1024 then (1, ldC a1 a2.toNatClampNeg σ) else (0, σ)
def f_Mod_load (σ : Sg) (a1 a2 : Int32) : Int32 × Sg := bnd (f_Mod_in σ a2 1 4) fun r1 => if r1.1 = 0 then (0, r1.2) else if r1.2 15 8 + a2 ≤ 1024 then (1, ldT a1 a2.toNatClampNeg r1.2) else (0, r1.2)
theorem pos_of {a : Int32} (h : ¬ a < 1) : ¬ a < 0 := by
  rw [i_lt] at h ⊢
  have e : (1 : Int32).toInt = 1 := by decide
  rw [Int32.toInt_zero]
  omega
theorem pos_of' {a : Int32} (h : 1 ≤ a) : ¬ a < 0 := by
  rw [i_le] at h
  rw [i_lt]
  have e : (1 : Int32).toInt = 1 := by decide
  rw [Int32.toInt_zero]
  omega
theorem le_of_nlt {a b : Int32} (h : ¬ b < a) : a ≤ b := by
  rw [i_lt] at h
  rw [i_le]
  omega
set_option maxRecDepth 100000 in
set_option maxHeartbeats 4000000 in
theorem b_SC_step_15 {l : Launch} {ad : Nat → Nat} {D : va_G} {cI : ClassId} {K : Option Value → Sg → Prop} {X : Nat → List Value → List Value → Sg → Prop} (hX : Cl l ad D cI mi_SC_step pt_SC K X) : ∀ (k i : Nat) (σ : Sg), i + k ≤ 100 → (∀ j, j < k → Mb (f_Tim_tick (itC j σ))) → KI K ((1 : Int32), itC k σ) → X 15 [.ref 0, .int (nI (i + k)), .int (nI i)] [] σ
  | 0, i, σ, hk, hm, hK => by
    refine hX.1 40 I_SC_step_15 ok_SC_step_15 _ _ _ ?_
    refine And.intro (fun h => ?_) (fun h => absurd (nI_le (Nat.le_refl _) (by omega)) h)
    refine hX.1 42 I_SC_step_40 ok_SC_step_40 _ _ _ ?_
    exact And.intro (Or.inr rfl) hK
  | k + 1, i, σ, hk, hm, hK => by
    refine hX.1 40 I_SC_step_15 ok_SC_step_15 _ _ _ ?_
    refine And.intro (fun h => absurd h (nI_ge (by omega) (by omega))) (fun h => ?_)
    refine s_Tim_tick ?_
    refine s_Pro_advance (hm 0 (by omega)) ?_
    have h9 := b_SC_step_15 hX k (i + 1) (f_Pro_advance (f_Tim_tick σ)) (by omega) (fun j hj => hm (j + 1) (by omega)) hK
    rw [show i + 1 + k = i + (k + 1) by omega, nI_succ] at h9
    exact h9
set_option maxRecDepth 100000 in
set_option maxHeartbeats 4000000 in
theorem s_SC_step {l : Launch} {ad : Nat → Nat} {D : va_G} {cI : ClassId} {σ : Sg} {a1 : Int32} {K : Option Value → Sg → Prop} (hm : ∀ j, j < 100 → Mb (f_Tim_tick (itC j σ))) (hK : KI K (f_SC_step σ a1)) : MetJ l ad D cI mi_SC_step [.ref 0, .int a1] σ K := by
  refine met_of mi_SC_step pt_SC pt_SC_in rfl pl_SC rfl (Nat.le_of_ble_eq_true rfl) fun X hX => ?_
  have hX : Cl l ad D cI mi_SC_step pt_SC K X := hX
  show X 0 [.ref 0, .int a1, .null] [] σ
  unfold f_SC_step at hK
  refine hX.1 11 I_SC_step_0 ok_SC_step_0 _ _ _ ?_
  refine And.intro (fun h1 => ?_) (fun h1 => ?_)
  · have hK := ite_p hK h1
    refine hX.1 13 I_SC_step_11 ok_SC_step_11 _ _ _ ?_
    exact And.intro (Or.inl rfl) hK
  · have hK := ite_n hK h1
    refine And.intro (fun h2 => ?_) (fun h2 => ?_)
    · have hK := ite_p hK h2
      refine hX.1 15 I_SC_step_13 ok_SC_step_13 _ _ _ ?_
      obtain ⟨j, hj, e⟩ := nI_of2 (M := 100) (n := 100) rfl (pos_of h1) h2
      subst e
      rw [nI_clamp (by omega)] at hK
      have h9 := b_SC_step_15 hX j 0 σ (by omega) (fun i hi => hm i (by omega)) hK
      rw [Nat.zero_add, nI_0] at h9
      exact h9
    · have hK := ite_n hK h2
      refine hX.1 13 I_SC_step_11 ok_SC_step_11 _ _ _ ?_
      exact And.intro (Or.inl rfl) hK
set_option maxRecDepth 100000 in
set_option maxHeartbeats 4000000 in
theorem b_Mod_step_14 {l : Launch} {ad : Nat → Nat} {D : va_G} {cI : ClassId} {K : Option Value → Sg → Prop} {X : Nat → List Value → List Value → Sg → Prop} (hX : Cl l ad D cI mi_Mod_step pt_Mod K X) : ∀ (k i : Nat) (σ : Sg), i + k ≤ 100 → (∀ j, j < k → KY (itT j σ) ∧ MB (itT j σ)) → KI K ((1 : Int32), itT k σ) → X 14 [.ref 15, .int (nI (i + k)), .int (nI i)] [] σ
  | 0, i, σ, hk, hm, hK => by
    refine hX.1 29 I_Mod_step_14 ok_Mod_step_14 _ _ _ ?_
    refine And.intro (fun h => ?_) (fun h => absurd (nI_le (Nat.le_refl _) (by omega)) h)
    refine hX.1 31 I_Mod_step_29 ok_Mod_step_29 _ _ _ ?_
    exact And.intro (Or.inr rfl) hK
  | k + 1, i, σ, hk, hm, hK => by
    refine hX.1 29 I_Mod_step_14 ok_Mod_step_14 _ _ _ ?_
    refine And.intro (fun h => absurd h (nI_ge (by omega) (by omega))) (fun h => ?_)
    refine s_Mod_oneStep (hm 0 (by omega)).1 (hm 0 (by omega)).2 ?_
    have h9 := b_Mod_step_14 hX k (i + 1) (f_Mod_oneStep σ) (by omega) (fun j hj => hm (j + 1) (by omega)) hK
    rw [show i + 1 + k = i + (k + 1) by omega, nI_succ] at h9
    exact h9
set_option maxRecDepth 100000 in
set_option maxHeartbeats 4000000 in
theorem s_Mod_step {l : Launch} {ad : Nat → Nat} {D : va_G} {cI : ClassId} {σ : Sg} {a1 : Int32} {K : Option Value → Sg → Prop} (hm : ∀ j, j < 100 → KY (itT j σ) ∧ MB (itT j σ)) (hK : KI K (f_Mod_step σ a1)) : MetJ l ad D cI mi_Mod_step [.ref 15, .int a1] σ K := by
  refine met_of mi_Mod_step pt_Mod pt_Mod_in rfl pl_Mod rfl (Nat.le_of_ble_eq_true rfl) fun X hX => ?_
  have hX : Cl l ad D cI mi_Mod_step pt_Mod K X := hX
  show X 0 [.ref 15, .int a1, .null] [] σ
  unfold f_Mod_step at hK
  refine hX.1 12 I_Mod_step_0 ok_Mod_step_0 _ _ _ ?_
  refine s_Mod_in (bnd_g hK fun r1 e1 hK => ?_)
  have e2 : r1.2 = σ := by
    rw [← e1]
    exact p_Mod_in (P := fun s => s = σ) WP_nil rfl
  refine And.intro (fun h1 => ?_) (fun h1 => ?_)
  · have hK := ite_p hK h1
    exact And.intro (Or.inl rfl) hK
  · have hK := ite_n hK h1
    refine hX.1 14 I_Mod_step_12 ok_Mod_step_12 _ _ _ ?_
    rw [← e1] at h1
    obtain ⟨g1, g2⟩ := in_ok h1
    obtain ⟨j, hj, e⟩ := nI_of2 (M := 100) (n := 100) rfl (pos_of' g1) g2
    subst e
    rw [nI_clamp (by omega)] at hK
    rw [e2] at hK ⊢
    have h9 := b_Mod_step_14 hX j 0 σ (by omega) (fun i hi => hm i (by omega)) hK
    rw [Nat.zero_add, nI_0] at h9
    exact h9
theorem m1_pred (k : Nat) : nI (k + 1) - 1 = nI k := nI_pred k
theorem m1_add (k : Nat) : nI k + (-1) = nI k - 1 := by rw [Int32.sub_eq_add_neg]
theorem lt_m1 : nI 0 - 1 < 0 := by decide
set_option maxRecDepth 100000 in
set_option maxHeartbeats 4000000 in
theorem b_SC_load_28 {l : Launch} {ad : Nat → Nat} {D : va_G} {cI : ClassId} {K : Option Value → Sg → Prop} {X : Nat → List Value → List Value → Sg → Prop} (hX : Cl l ad D cI mi_SC_load pt_SC K X) (w : Int32) : ∀ (k : Nat) (σ : Sg), k ≤ 4 → KI K ((1 : Int32), ldC w k σ) → X 28 [.ref 0, .int w, .null, .int (nI k - 1)] [] σ
  | 0, σ, hk, hK => by
    refine hX.1 69 I_SC_load_28 ok_SC_load_28 _ _ _ ?_
    refine And.intro (fun h => ?_) (fun h => absurd lt_m1 h)
    refine hX.1 71 I_SC_load_69 ok_SC_load_69 _ _ _ ?_
    exact And.intro (Or.inr rfl) hK
  | k + 1, σ, hk, hK => by
    rw [m1_pred]
    refine hX.1 69 I_SC_load_28 ok_SC_load_28 _ _ _ ?_
    refine And.intro (fun h => absurd h (nI_pos (by omega))) (fun h => ?_)
    refine s_Mem_setByteAt ?_
    refine And.intro trivial ?_
    have h9 := b_SC_load_28 hX w k _ (by omega) hK
    rw [← m1_add] at h9
    exact h9
set_option maxRecDepth 100000 in
set_option maxHeartbeats 4000000 in
theorem s_SC_load {l : Launch} {ad : Nat → Nat} {D : va_G} {cI : ClassId} {σ : Sg} {a1 a2 : Int32} {K : Option Value → Sg → Prop} (hK : KI K (f_SC_load σ a1 a2)) : MetJ l ad D cI mi_SC_load [.ref 0, .int a1, .int a2] σ K := by
  refine met_of mi_SC_load pt_SC pt_SC_in rfl pl_SC rfl (Nat.le_of_ble_eq_true rfl) fun X hX => ?_
  have hX : Cl l ad D cI mi_SC_load pt_SC K X := hX
  show X 0 [.ref 0, .int a1, .int a2, .null] [] σ
  unfold f_SC_load at hK
  refine hX.1 22 I_SC_load_0 ok_SC_load_0 _ _ _ ?_
  refine And.intro (fun h1 => ?_) (fun h1 => ?_)
  · have hK := ite_p hK h1
    refine hX.1 24 I_SC_load_22 ok_SC_load_22 _ _ _ ?_
    exact And.intro (Or.inl rfl) hK
  · have hK := ite_n hK h1
    refine And.intro (fun h2 => ?_) (fun h2 => ?_)
    · have hK := ite_p hK h2
      refine hX.1 24 I_SC_load_22 ok_SC_load_22 _ _ _ ?_
      exact And.intro (Or.inl rfl) hK
    · have hK := ite_n hK h2
      refine And.intro (fun h3 => ?_) (fun h3 => ?_)
      · have hK := ite_p hK h3
        refine hX.1 28 I_SC_load_24 ok_SC_load_24 _ _ _ ?_
        refine hX.fg [2] ?_
        obtain ⟨j, hj, e⟩ := nI_of2 (M := 4) (n := 4) rfl (pos_of h1) (le_of_nlt h2)
        subst e
        rw [nI_clamp (by omega)] at hK
        exact b_SC_load_28 hX a1 j σ (by omega) hK
      · have hK := ite_n hK h3
        refine hX.1 24 I_SC_load_22 ok_SC_load_22 _ _ _ ?_
        exact And.intro (Or.inl rfl) hK
set_option maxRecDepth 100000 in
set_option maxHeartbeats 4000000 in
theorem b_Mod_load_27 {l : Launch} {ad : Nat → Nat} {D : va_G} {cI : ClassId} {K : Option Value → Sg → Prop} {X : Nat → List Value → List Value → Sg → Prop} (hX : Cl l ad D cI mi_Mod_load pt_Mod K X) (w : Int32) : ∀ (k : Nat) (σ : Sg), k ≤ 4 → (∀ j, j < k → vp_in (σ 15 8 + nI j) 1024) → KI K ((1 : Int32), ldT w k σ) → X 27 [.ref 15, .int w, .null, .int (nI k - 1)] [] σ
  | 0, σ, hk, hp, hK => by
    refine hX.1 66 I_Mod_load_27 ok_Mod_load_27 _ _ _ ?_
    refine And.intro (fun h => ?_) (fun h => absurd lt_m1 h)
    refine hX.1 68 I_Mod_load_66 ok_Mod_load_66 _ _ _ ?_
    exact And.intro (Or.inr rfl) hK
  | k + 1, σ, hk, hp, hK => by
    rw [m1_pred]
    have h0 : vp_in (σ 15 8) 1024 := by
      have := hp 0 (by omega)
      rw [nI_0, Int32.add_zero] at this
      exact this
    refine hX.1 66 I_Mod_load_27 ok_Mod_load_27 _ _ _ ?_
    refine And.intro (fun h => absurd h (nI_pos (by omega))) (fun h => ?_)
    refine And.intro h0 ?_
    refine And.intro trivial ?_
    have h9 := b_Mod_load_27 hX w k _ (by omega) (fun j hj => ?_) hK
    · rw [← m1_add] at h9
      exact h9
    · have := hp (j + 1) (by omega)
      rw [nI_succ] at this
      rw [up2_same, upd, if_pos rfl, Int32.add_assoc, Int32.add_comm 1 (nI j)]
      exact this
theorem place_in {p n : Int32} {j k : Nat} (h0 : 0 ≤ p.toInt) (h1 : p.toInt ≤ 1024) (hn : n = nI k) (hk : k ≤ 4) (h : p + n ≤ 1024) (hj : j < k) : vp_in (p + nI j) 1024 := by
  subst hn
  rw [i_le, Int32.toInt_add, nI_toInt (by omega), Int.bmod_eq_of_le (by omega) (by omega)] at h
  have e : (1024 : Int32).toInt = 1024 := by decide
  rw [vp_in_iff, Int32.toInt_add, nI_toInt (by omega), Int.bmod_eq_of_le (by omega) (by omega)]
  omega
set_option maxRecDepth 100000 in
set_option maxHeartbeats 4000000 in
theorem s_Mod_load {l : Launch} {ad : Nat → Nat} {D : va_G} {cI : ClassId} {σ : Sg} {a1 a2 : Int32} {K : Option Value → Sg → Prop} (hp : 0 ≤ (σ 15 8).toInt ∧ (σ 15 8).toInt ≤ 1024) (hK : KI K (f_Mod_load σ a1 a2)) : MetJ l ad D cI mi_Mod_load [.ref 15, .int a1, .int a2] σ K := by
  refine met_of mi_Mod_load pt_Mod pt_Mod_in rfl pl_Mod rfl (Nat.le_of_ble_eq_true rfl) fun X hX => ?_
  have hX : Cl l ad D cI mi_Mod_load pt_Mod K X := hX
  show X 0 [.ref 15, .int a1, .int a2, .null] [] σ
  unfold f_Mod_load at hK
  refine hX.1 21 I_Mod_load_0 ok_Mod_load_0 _ _ _ ?_
  refine s_Mod_in (bnd_g hK fun r1 e1 hK => ?_)
  have e2 : r1.2 = σ := by
    rw [← e1]
    exact p_Mod_in (P := fun s => s = σ) WP_nil rfl
  refine And.intro (fun h1 => ?_) (fun h1 => ?_)
  · have hK := ite_p hK h1
    refine hX.1 23 I_Mod_load_21 ok_Mod_load_21 _ _ _ ?_
    exact And.intro (Or.inl rfl) hK
  · have hK := ite_n hK h1
    refine And.intro (fun h3 => ?_) (fun h3 => ?_)
    · have hK := ite_p hK h3
      refine hX.1 27 I_Mod_load_23 ok_Mod_load_23 _ _ _ ?_
      refine hX.fg [2] ?_
      rw [← e1] at h1
      obtain ⟨g1, g2⟩ := in_ok h1
      obtain ⟨j, hj, e⟩ := nI_of2 (M := 4) (n := 4) rfl (pos_of' g1) g2
      subst e
      rw [nI_clamp (by omega)] at hK
      have h3 : r1.2 15 8 + nI j ≤ 1024 := h3
      rw [e2] at hK h3 ⊢
      exact b_Mod_load_27 hX a1 j σ (by omega) (fun i hi => place_in hp.1 hp.2 rfl (by omega) h3 hi) hK
    · have hK := ite_n hK h3
      refine hX.1 23 I_Mod_load_21 ok_Mod_load_21 _ _ _ ?_
      exact And.intro (Or.inl rfl) hK
