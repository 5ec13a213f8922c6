def I_Mod_in_0 : List IT := [(0, .iload_n 0, 1, 0, 0, []), (1, .iload_n 1, 1, 0, 0, []), (2, .if_icmp .lt 12, 3, 0, 14, []), (5, .iload_n 0, 1, 0, 0, []), (6, .iload_n 2, 1, 0, 0, []), (7, .if_icmp .gt 7, 3, 0, 14, []), (10, .iconst 1, 1, 1, 0, []), (11, .goto 4, 3, 0, 15, [])]
theorem ok_Mod_in_0 : blkOK b_Mod_in pt_Mod 14 I_Mod_in_0 = true := by decide +kernel
def I_Mod_in_14 : List IT := [(14, .iconst 0, 1, 0, 0, [])]
theorem ok_Mod_in_14 : blkOK b_Mod_in pt_Mod 15 I_Mod_in_14 = true := by decide +kernel
def I_Mod_in_15 : List IT := [(15, .ireturn, 1, 0, 0, [])]
theorem ok_Mod_in_15 : blkOK b_Mod_in pt_Mod 16 I_Mod_in_15 = true := by decide +kernel
def f_Mod_in (σ : Sg) (a1 : Int32) (a2 : Int32) (a3 : Int32) : Int32 × Sg := (if a1 < a2 then ((0 : Int32), σ) else (if a3 < a1 then ((0 : Int32), σ) else ((1 : Int32), σ)))
theorem z_Mod_in {σ : Sg} {a1 : Int32} {a2 : Int32} {a3 : Int32}   : (f_Mod_in σ a1 a2 a3).1 = 0 ∨ (f_Mod_in σ a1 a2 a3).1 = 1 := by
  show Zb (f_Mod_in σ a1 a2 a3)
  unfold f_Mod_in
  refine ite_z (fun h1 => ?_) (fun h1 => ?_)
  · exact (Or.inl rfl)
  · refine ite_z (fun h2 => ?_) (fun h2 => ?_)
    · exact (Or.inl rfl)
    · exact (Or.inr rfl)
abbrev w_Mod_in : List (Nat × Option Nat) := []
theorem p_Mod_in {P : Sg → Prop} (hP : WP w_Mod_in P) {σ : Sg} {a1 : Int32} {a2 : Int32} {a3 : Int32} (h : P σ) : PP P (f_Mod_in σ a1 a2 a3) := by
  unfold f_Mod_in
  refine ite_z (fun _ => ?_) (fun _ => ?_)
  · exact h
  · refine ite_z (fun _ => ?_) (fun _ => ?_)
    · exact h
    · exact h
set_option maxRecDepth 100000 in
set_option maxHeartbeats 4000000 in
theorem s_Mod_in {l : Launch} {ad : Nat → Nat} {D : va_G} {cI : ClassId} {σ : Sg} {a1 : Int32} {a2 : Int32} {a3 : Int32} {K : Option Value → Sg → Prop}   (hK : KI K (f_Mod_in σ a1 a2 a3)) : MetJ l ad D cI mi_Mod_in [.int a1, .int a2, .int a3] σ K := by
  refine met_of mi_Mod_in pt_Mod pt_Mod_in rfl pl_Mod rfl (Nat.le_of_ble_eq_true rfl) fun X hX => ?_
  have hX : Cl l ad D cI mi_Mod_in pt_Mod K X := hX
  show X 0 [.int a1, .int a2, .int a3] [] σ
  unfold f_Mod_in at hK
  refine hX.1 14 I_Mod_in_0 ok_Mod_in_0 _ _ _ ?_
  refine And.intro (fun h1 => ?_) (fun h1 => ?_)
  · have hK := ite_p hK h1
    refine hX.1 15 I_Mod_in_14 ok_Mod_in_14 _ _ _ ?_
    refine hX.1 16 I_Mod_in_15 ok_Mod_in_15 _ _ _ ?_
    exact And.intro (Or.inl rfl) hK
  · have hK := ite_n hK h1
    refine And.intro (fun h2 => ?_) (fun h2 => ?_)
    · have hK := ite_p hK h2
      refine hX.1 15 I_Mod_in_14 ok_Mod_in_14 _ _ _ ?_
      refine hX.1 16 I_Mod_in_15 ok_Mod_in_15 _ _ _ ?_
      exact And.intro (Or.inl rfl) hK
    · have hK := ite_n hK h2
      refine hX.1 16 I_Mod_in_15 ok_Mod_in_15 _ _ _ ?_
      exact And.intro (Or.inr rfl) hK
theorem in_ok {σ : Sg} {v lo hi : Int32} (h : ¬ (f_Mod_in σ v lo hi).1 = 0) : lo ≤ v ∧ v ≤ hi := by
  unfold f_Mod_in at h
  by_cases h1 : v < lo
  · rw [if_pos h1] at h
    exact absurd rfl h
  · rw [if_neg h1] at h
    by_cases h2 : hi < v
    · rw [if_pos h2] at h
      exact absurd rfl h
    · exact ⟨by rw [i_le]; rw [i_lt] at h1; omega, by rw [i_le]; rw [i_lt] at h2; omega⟩
theorem in_1024 {σ : Sg} {v : Int32} (h : ¬ (f_Mod_in σ v 0 1023).1 = 0) : vp_in v 1024 := by
  obtain ⟨h1, h2⟩ := in_ok h
  rw [vp_in_iff]
  rw [i_le] at h1 h2
  exact ⟨h1, Int.lt_of_le_of_lt h2 (by decide)⟩
theorem in_8 {σ : Sg} {v : Int32} (h : ¬ (f_Mod_in σ v 0 13).1 = 0) (h8 : ¬ 8 ≤ v) : vp_in v 8 := by
  obtain ⟨h1, h2⟩ := in_ok h
  exact vin_nle (m := 8) rfl (by rw [i_lt]; rw [i_le] at h1; omega) h8
theorem in_s {σ : Sg} {v : Int32} (h : ¬ (f_Mod_in σ v 8 11).1 = 0) : vp_in (v - 8) 4 := by
  obtain ⟨h1, h2⟩ := in_ok h
  refine vin_sub (k := 8) (m := 12) (by decide) (by decide) h1 ?_
  rw [i_le] at h2 ⊢
  have : (11 : Int32).toInt = 11 := by decide
  have : (12 : Int32).toInt = 12 := by decide
  omega
def I_Mod_address_0 : List IT := [(0, .bipush 16, 2, 16, 0, []), (2, .iload_n 0, 1, 0, 0, []), (3, .imul, 1, 0, 0, []), (4, .iload_n 1, 1, 0, 0, []), (5, .ldc 32, 2, 65535, 0, []), (7, .iand, 1, 0, 0, []), (8, .iadd, 1, 0, 0, []), (9, .sipush 1023, 3, 1023, 0, []), (12, .iand, 1, 0, 0, []), (13, .ireturn, 1, 0, 0, [])]
theorem ok_Mod_address_0 : blkOK b_Mod_address pt_Mod 14 I_Mod_address_0 = true := by decide +kernel
def f_Mod_address (σ : Sg) (a1 : Int32) (a2 : Int32) : Int32 × Sg := (((((16 : Int32) * a1) + (a2 &&& (65535 : Int32))) &&& (1023 : Int32)), σ)
abbrev w_Mod_address : List (Nat × Option Nat) := []
theorem p_Mod_address {P : Sg → Prop} (hP : WP w_Mod_address P) {σ : Sg} {a1 : Int32} {a2 : Int32} (h : P σ) : PP P (f_Mod_address σ a1 a2) := by
  unfold f_Mod_address
  exact h
set_option maxRecDepth 100000 in
set_option maxHeartbeats 4000000 in
theorem s_Mod_address {l : Launch} {ad : Nat → Nat} {D : va_G} {cI : ClassId} {σ : Sg} {a1 : Int32} {a2 : Int32} {K : Option Value → Sg → Prop}   (hK : KI K (f_Mod_address σ a1 a2)) : MetJ l ad D cI mi_Mod_address [.int a1, .int a2] σ K := by
  refine met_of mi_Mod_address pt_Mod pt_Mod_in rfl pl_Mod rfl (Nat.le_of_ble_eq_true rfl) fun X hX => ?_
  have hX : Cl l ad D cI mi_Mod_address pt_Mod K X := hX
  show X 0 [.int a1, .int a2] [] σ
  unfold f_Mod_address at hK
  refine hX.1 14 I_Mod_address_0 ok_Mod_address_0 _ _ _ ?_
  exact hK
def I_Mod_getByte_0 : List IT := [(0, .aload_n 0, 1, 0, 0, []), (1, .getfield 7, 3, 0, 0, []), (4, .iload_n 1, 1, 0, 0, []), (5, .iload_n 2, 1, 0, 0, []), (6, .invokestatic 33, 3, 0, 0, []), (9, .iaload, 1, 0, 0, []), (10, .ireturn, 1, 0, 0, [])]
theorem ok_Mod_getByte_0 : blkOK b_Mod_getByte pt_Mod 11 I_Mod_getByte_0 = true := by decide +kernel
def f_Mod_getByte (σ : Sg) (a1 : Int32) (a2 : Int32) : Int32 × Sg := (bnd (f_Mod_address σ a1 a2) fun r1 => ((r1.2 16 (Int32.toNatClampNeg r1.1)), r1.2))
abbrev w_Mod_getByte : List (Nat × Option Nat) := []
theorem p_Mod_getByte {P : Sg → Prop} (hP : WP w_Mod_getByte P) {σ : Sg} {a1 : Int32} {a2 : Int32} (h : P σ) : PP P (f_Mod_getByte σ a1 a2) := by
  unfold f_Mod_getByte
  refine bnd_zz (Z := PP P) (p_Mod_address (wsub hP rfl) h) fun r1 e1 q1 => ?_
  exact q1
set_option maxRecDepth 100000 in
set_option maxHeartbeats 4000000 in
theorem s_Mod_getByte {l : Launch} {ad : Nat → Nat} {D : va_G} {cI : ClassId} {σ : Sg} {a1 : Int32} {a2 : Int32} {K : Option Value → Sg → Prop}   (hK : KI K (f_Mod_getByte σ a1 a2)) : MetJ l ad D cI mi_Mod_getByte [.ref 15, .int a1, .int a2] σ K := by
  refine met_of mi_Mod_getByte pt_Mod pt_Mod_in rfl pl_Mod rfl (Nat.le_of_ble_eq_true rfl) fun X hX => ?_
  have hX : Cl l ad D cI mi_Mod_getByte pt_Mod K X := hX
  show X 0 [.ref 15, .int a1, .int a2] [] σ
  unfold f_Mod_getByte at hK
  refine hX.1 11 I_Mod_getByte_0 ok_Mod_getByte_0 _ _ _ ?_
  refine s_Mod_address (bnd_g hK fun r1 e1 hK => ?_)
  refine And.intro (by subst_vars; exact pk_andIn _ 10 rfl (by decide)) ?_
  exact hK
def I_Mod_getWord_0 : List IT := [(0, .aload_n 0, 1, 0, 0, []), (1, .iload_n 1, 1, 0, 0, []), (2, .iload_n 2, 1, 0, 0, []), (3, .invokevirtual 37, 3, 0, 0, []), (6, .sipush 256, 3, 256, 0, []), (9, .aload_n 0, 1, 0, 0, []), (10, .iload_n 1, 1, 0, 0, []), (11, .iload_n 2, 1, 0, 0, []), (12, .iconst 1, 1, 1, 0, []), (13, .iadd, 1, 0, 0, []), (14, .invokevirtual 37, 3, 0, 0, []), (17, .imul, 1, 0, 0, []), (18, .iadd, 1, 0, 0, []), (19, .ireturn, 1, 0, 0, [])]
theorem ok_Mod_getWord_0 : blkOK b_Mod_getWord pt_Mod 20 I_Mod_getWord_0 = true := by decide +kernel
def f_Mod_getWord (σ : Sg) (a1 : Int32) (a2 : Int32) : Int32 × Sg := (bnd (f_Mod_getByte σ a1 a2) fun r1 => bnd (f_Mod_getByte r1.2 a1 (a2 + (1 : Int32))) fun r2 => ((r1.1 + ((256 : Int32) * r2.1)), r2.2))
abbrev w_Mod_getWord : List (Nat × Option Nat) := []
theorem p_Mod_getWord {P : Sg → Prop} (hP : WP w_Mod_getWord P) {σ : Sg} {a1 : Int32} {a2 : Int32} (h : P σ) : PP P (f_Mod_getWord σ a1 a2) := by
  unfold f_Mod_getWord
  refine bnd_zz (Z := PP P) (p_Mod_getByte (wsub hP rfl) h) fun r1 e1 q1 => ?_
  refine bnd_zz (Z := PP P) (p_Mod_getByte (wsub hP rfl) q1) fun r2 e2 q2 => ?_
  exact q2
set_option maxRecDepth 100000 in
set_option maxHeartbeats 4000000 in
theorem s_Mod_getWord {l : Launch} {ad : Nat → Nat} {D : va_G} {cI : ClassId} {σ : Sg} {a1 : Int32} {a2 : Int32} {K : Option Value → Sg → Prop}   (hK : KI K (f_Mod_getWord σ a1 a2)) : MetJ l ad D cI mi_Mod_getWord [.ref 15, .int a1, .int a2] σ K := by
  refine met_of mi_Mod_getWord pt_Mod pt_Mod_in rfl pl_Mod rfl (Nat.le_of_ble_eq_true rfl) fun X hX => ?_
  have hX : Cl l ad D cI mi_Mod_getWord pt_Mod K X := hX
  show X 0 [.ref 15, .int a1, .int a2] [] σ
  unfold f_Mod_getWord at hK
  refine hX.1 20 I_Mod_getWord_0 ok_Mod_getWord_0 _ _ _ ?_
  refine s_Mod_getByte (bnd_g hK fun r1 e1 hK => ?_)
  refine s_Mod_getByte (bnd_g hK fun r2 e2 hK => ?_)
  exact hK
def I_Mod_setByte_0 : List IT := [(0, .aload_n 0, 1, 0, 0, []), (1, .getfield 7, 3, 0, 0, []), (4, .iload_n 1, 1, 0, 0, []), (5, .iload_n 2, 1, 0, 0, []), (6, .invokestatic 33, 3, 0, 0, []), (9, .iload_n 3, 1, 0, 0, []), (10, .sipush 255, 3, 255, 0, []), (13, .iand, 1, 0, 0, []), (14, .iastore, 1, 0, 0, []), (15, .return_, 1, 0, 0, [])]
theorem ok_Mod_setByte_0 : blkOK b_Mod_setByte pt_Mod 16 I_Mod_setByte_0 = true := by decide +kernel
def f_Mod_setByte (σ : Sg) (a1 : Int32) (a2 : Int32) (a3 : Int32) : Sg := (bnd (f_Mod_address σ a1 a2) fun r1 => bnd (up2 r1.2 16 (Int32.toNatClampNeg r1.1) (a3 &&& (255 : Int32))) fun s2 => s2)
abbrev w_Mod_setByte : List (Nat × Option Nat) := [(16, none)]
theorem p_Mod_setByte {P : Sg → Prop} (hP : WP w_Mod_setByte P) {σ : Sg} {a1 : Int32} {a2 : Int32} {a3 : Int32} (h : P σ) : P (f_Mod_setByte σ a1 a2 a3) := by
  unfold f_Mod_setByte
  refine bnd_zz (Z := PP P) (p_Mod_address (wsub hP rfl) h) fun r1 e1 q1 => ?_
  refine bnd_zz (Z := P) (hP _ _ _ _ (Or.inl (by decide)) q1) fun s2 e2 q2 => ?_
  exact q2
set_option maxRecDepth 100000 in
set_option maxHeartbeats 4000000 in
theorem s_Mod_setByte {l : Launch} {ad : Nat → Nat} {D : va_G} {cI : ClassId} {σ : Sg} {a1 : Int32} {a2 : Int32} {a3 : Int32} {K : Option Value → Sg → Prop}   (hK : KV K (f_Mod_setByte σ a1 a2 a3)) : MetJ l ad D cI mi_Mod_setByte [.ref 15, .int a1, .int a2, .int a3] σ K := by
  refine met_of mi_Mod_setByte pt_Mod pt_Mod_in rfl pl_Mod rfl (Nat.le_of_ble_eq_true rfl) fun X hX => ?_
  have hX : Cl l ad D cI mi_Mod_setByte pt_Mod K X := hX
  show X 0 [.ref 15, .int a1, .int a2, .int a3] [] σ
  unfold f_Mod_setByte at hK
  refine hX.1 16 I_Mod_setByte_0 ok_Mod_setByte_0 _ _ _ ?_
  refine s_Mod_address (bnd_g hK fun r1 e1 hK => ?_)
  refine And.intro (by subst_vars; exact pk_andIn _ 10 rfl (by decide)) (SG_g hK fun s2 e2 hK => ?_)
  exact hK
