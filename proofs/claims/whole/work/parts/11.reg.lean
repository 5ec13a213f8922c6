def I_Reg_value_0 : List IT := [(0, .iload_n 2, 1, 0, 0, []), (1, .ifCond .eq 13, 3, 0, 14, []), (4, .aload_n 0, 1, 0, 0, []), (5, .getfield 7, 3, 0, 0, []), (8, .iload_n 1, 1, 0, 0, []), (9, .bipush 7, 2, 7, 0, []), (11, .iand, 1, 0, 0, []), (12, .iaload, 1, 0, 0, []), (13, .ireturn, 1, 0, 0, [])]
theorem ok_Reg_value_0 : blkOK b_Reg_value pt_Reg 14 I_Reg_value_0 = true := by decide +kernel
def I_Reg_value_14 : List IT := [(14, .aload_n 0, 1, 0, 0, []), (15, .getfield 7, 3, 0, 0, []), (18, .iload_n 1, 1, 0, 0, []), (19, .iconst 3, 1, 3, 0, []), (20, .iand, 1, 0, 0, []), (21, .iaload, 1, 0, 0, []), (22, .istore_n 3, 1, 0, 0, []), (23, .iload_n 1, 1, 0, 0, []), (24, .iconst 4, 1, 4, 0, []), (25, .if_icmp .ge 11, 3, 0, 36, []), (28, .iload_n 3, 1, 0, 0, []), (29, .sipush 255, 3, 255, 0, []), (32, .iand, 1, 0, 0, []), (33, .goto 7, 3, 0, 40, [])]
theorem ok_Reg_value_14 : blkOK b_Reg_value pt_Reg 36 I_Reg_value_14 = true := by decide +kernel
def I_Reg_value_36 : List IT := [(36, .iload_n 3, 1, 0, 0, []), (37, .bipush 8, 2, 8, 0, []), (39, .ishr, 1, 0, 0, [])]
theorem ok_Reg_value_36 : blkOK b_Reg_value pt_Reg 40 I_Reg_value_36 = true := by decide +kernel
def I_Reg_value_40 : List IT := [(40, .ireturn, 1, 0, 0, [])]
theorem ok_Reg_value_40 : blkOK b_Reg_value pt_Reg 41 I_Reg_value_40 = true := by decide +kernel
def f_Reg_value (σ : Sg) (a1 : Int32) (a2 : Int32) : Int32 × Sg := (if a2 = (0 : Int32) then (if (4 : Int32) ≤ a1 then (((σ 4 (Int32.toNatClampNeg (a1 &&& (3 : Int32)))) >>> ((8 : Int32) &&& 31 : Int32)), σ) else (((σ 4 (Int32.toNatClampNeg (a1 &&& (3 : Int32)))) &&& (255 : Int32)), σ)) else ((σ 4 (Int32.toNatClampNeg (a1 &&& (7 : Int32)))), σ))
abbrev w_Reg_value : List (Nat × Option Nat) := []
theorem p_Reg_value {P : Sg → Prop} (hP : WP w_Reg_value P) {σ : Sg} {a1 : Int32} {a2 : Int32} (h : P σ) : PP P (f_Reg_value σ a1 a2) := by
  unfold f_Reg_value
  refine ite_z (fun _ => ?_) (fun _ => ?_)
  · refine ite_z (fun _ => ?_) (fun _ => ?_)
    · exact h
    · exact h
  · exact h
set_option maxRecDepth 100000 in
set_option maxHeartbeats 4000000 in
theorem s_Reg_value {l : Launch} {ad : Nat → Nat} {D : va_G} {cI : ClassId} {σ : Sg} {a1 : Int32} {a2 : Int32} {K : Option Value → Sg → Prop}   (hK : KI K (f_Reg_value σ a1 a2)) : MetJ l ad D cI mi_Reg_value [.ref 3, .int a1, .int a2] σ K := by
  refine met_of mi_Reg_value pt_Reg pt_Reg_in rfl pl_Reg rfl (Nat.le_of_ble_eq_true rfl) fun X hX => ?_
  have hX : Cl l ad D cI mi_Reg_value pt_Reg K X := hX
  show X 0 [.ref 3, .int a1, .int a2, .null] [] σ
  unfold f_Reg_value at hK
  refine hX.1 14 I_Reg_value_0 ok_Reg_value_0 _ _ _ ?_
  refine And.intro (fun h1 => ?_) (fun h1 => ?_)
  · have hK := ite_p hK h1
    refine hX.1 36 I_Reg_value_14 ok_Reg_value_14 _ _ _ ?_
    refine And.intro (vin_le (pk_andIn _ 2 rfl (by decide)) (by decide)) ?_
    refine And.intro (fun h2 => ?_) (fun h2 => ?_)
    · have hK := ite_p hK h2
      refine hX.1 40 I_Reg_value_36 ok_Reg_value_36 _ _ _ ?_
      refine hX.1 41 I_Reg_value_40 ok_Reg_value_40 _ _ _ ?_
      exact hK
    · have hK := ite_n hK h2
      refine hX.1 41 I_Reg_value_40 ok_Reg_value_40 _ _ _ ?_
      exact hK
  · have hK := ite_n hK h1
    refine And.intro (pk_andIn _ 3 rfl (by decide)) ?_
    exact hK
def I_Reg_change_0 : List IT := [(0, .iload_n 2, 1, 0, 0, []), (1, .ifCond .eq 19, 3, 0, 20, []), (4, .aload_n 0, 1, 0, 0, []), (5, .getfield 7, 3, 0, 0, []), (8, .iload_n 1, 1, 0, 0, []), (9, .bipush 7, 2, 7, 0, []), (11, .iand, 1, 0, 0, []), (12, .iload_n 3, 1, 0, 0, []), (13, .ldc 16, 2, 65535, 0, []), (15, .iand, 1, 0, 0, []), (16, .iastore, 1, 0, 0, []), (17, .goto 65, 3, 0, 82, [])]
theorem ok_Reg_change_0 : blkOK b_Reg_change pt_Reg 20 I_Reg_change_0 = true := by decide +kernel
def I_Reg_change_20 : List IT := [(20, .iload_n 1, 1, 0, 0, []), (21, .iconst 4, 1, 4, 0, []), (22, .if_icmp .ge 31, 3, 0, 53, []), (25, .aload_n 0, 1, 0, 0, []), (26, .getfield 7, 3, 0, 0, []), (29, .iload_n 1, 1, 0, 0, []), (30, .iconst 3, 1, 3, 0, []), (31, .iand, 1, 0, 0, []), (32, .aload_n 0, 1, 0, 0, []), (33, .getfield 7, 3, 0, 0, []), (36, .iload_n 1, 1, 0, 0, []), (37, .iconst 3, 1, 3, 0, []), (38, .iand, 1, 0, 0, []), (39, .iaload, 1, 0, 0, []), (40, .ldc 17, 2, 65280, 0, []), (42, .iand, 1, 0, 0, []), (43, .iload_n 3, 1, 0, 0, []), (44, .sipush 255, 3, 255, 0, []), (47, .iand, 1, 0, 0, []), (48, .ior, 1, 0, 0, []), (49, .iastore, 1, 0, 0, []), (50, .goto 32, 3, 0, 82, [])]
theorem ok_Reg_change_20 : blkOK b_Reg_change pt_Reg 53 I_Reg_change_20 = true := by decide +kernel
def I_Reg_change_53 : List IT := [(53, .aload_n 0, 1, 0, 0, []), (54, .getfield 7, 3, 0, 0, []), (57, .iload_n 1, 1, 0, 0, []), (58, .iconst 3, 1, 3, 0, []), (59, .iand, 1, 0, 0, []), (60, .aload_n 0, 1, 0, 0, []), (61, .getfield 7, 3, 0, 0, []), (64, .iload_n 1, 1, 0, 0, []), (65, .iconst 3, 1, 3, 0, []), (66, .iand, 1, 0, 0, []), (67, .iaload, 1, 0, 0, []), (68, .sipush 255, 3, 255, 0, []), (71, .iand, 1, 0, 0, []), (72, .iload_n 3, 1, 0, 0, []), (73, .sipush 255, 3, 255, 0, []), (76, .iand, 1, 0, 0, []), (77, .bipush 8, 2, 8, 0, []), (79, .ishl, 1, 0, 0, []), (80, .ior, 1, 0, 0, []), (81, .iastore, 1, 0, 0, [])]
theorem ok_Reg_change_53 : blkOK b_Reg_change pt_Reg 82 I_Reg_change_53 = true := by decide +kernel
def I_Reg_change_82 : List IT := [(82, .return_, 1, 0, 0, [])]
theorem ok_Reg_change_82 : blkOK b_Reg_change pt_Reg 83 I_Reg_change_82 = true := by decide +kernel
def f_Reg_change (σ : Sg) (a1 : Int32) (a2 : Int32) (a3 : Int32) : Sg := (if a2 = (0 : Int32) then (if (4 : Int32) ≤ a1 then (bnd (up2 σ 4 (Int32.toNatClampNeg (a1 &&& (3 : Int32))) (((σ 4 (Int32.toNatClampNeg (a1 &&& (3 : Int32)))) &&& (255 : Int32)) ||| ((a3 &&& (255 : Int32)) <<< ((8 : Int32) &&& 31 : Int32)))) fun s3 => s3) else (bnd (up2 σ 4 (Int32.toNatClampNeg (a1 &&& (3 : Int32))) (((σ 4 (Int32.toNatClampNeg (a1 &&& (3 : Int32)))) &&& (65280 : Int32)) ||| (a3 &&& (255 : Int32)))) fun s4 => s4)) else (bnd (up2 σ 4 (Int32.toNatClampNeg (a1 &&& (7 : Int32))) (a3 &&& (65535 : Int32))) fun s5 => s5))
abbrev w_Reg_change : List (Nat × Option Nat) := [(4, none)]
theorem p_Reg_change {P : Sg → Prop} (hP : WP w_Reg_change P) {σ : Sg} {a1 : Int32} {a2 : Int32} {a3 : Int32} (h : P σ) : P (f_Reg_change σ a1 a2 a3) := by
  unfold f_Reg_change
  refine ite_z (fun _ => ?_) (fun _ => ?_)
  · refine ite_z (fun _ => ?_) (fun _ => ?_)
    · refine bnd_zz (Z := P) (hP _ _ _ _ (Or.inl (by decide)) h) fun s3 e3 q3 => ?_
      exact q3
    · refine bnd_zz (Z := P) (hP _ _ _ _ (Or.inl (by decide)) h) fun s4 e4 q4 => ?_
      exact q4
  · refine bnd_zz (Z := P) (hP _ _ _ _ (Or.inl (by decide)) h) fun s5 e5 q5 => ?_
    exact q5
set_option maxRecDepth 100000 in
set_option maxHeartbeats 4000000 in
theorem s_Reg_change {l : Launch} {ad : Nat → Nat} {D : va_G} {cI : ClassId} {σ : Sg} {a1 : Int32} {a2 : Int32} {a3 : Int32} {K : Option Value → Sg → Prop}   (hK : KV K (f_Reg_change σ a1 a2 a3)) : MetJ l ad D cI mi_Reg_change [.ref 3, .int a1, .int a2, .int a3] σ K := by
  refine met_of mi_Reg_change pt_Reg pt_Reg_in rfl pl_Reg rfl (Nat.le_of_ble_eq_true rfl) fun X hX => ?_
  have hX : Cl l ad D cI mi_Reg_change pt_Reg K X := hX
  show X 0 [.ref 3, .int a1, .int a2, .int a3] [] σ
  unfold f_Reg_change at hK
  refine hX.1 20 I_Reg_change_0 ok_Reg_change_0 _ _ _ ?_
  refine And.intro (fun h1 => ?_) (fun h1 => ?_)
  · have hK := ite_p hK h1
    refine hX.1 53 I_Reg_change_20 ok_Reg_change_20 _ _ _ ?_
    refine And.intro (fun h2 => ?_) (fun h2 => ?_)
    · have hK := ite_p hK h2
      refine hX.1 82 I_Reg_change_53 ok_Reg_change_53 _ _ _ ?_
      refine And.intro (vin_le (pk_andIn _ 2 rfl (by decide)) (by decide)) ?_
      refine And.intro (vin_le (pk_andIn _ 2 rfl (by decide)) (by decide)) (SG_g hK fun s3 e3 hK => ?_)
      refine hX.1 83 I_Reg_change_82 ok_Reg_change_82 _ _ _ ?_
      exact hK
    · have hK := ite_n hK h2
      refine And.intro (vin_le (pk_andIn _ 2 rfl (by decide)) (by decide)) ?_
      refine And.intro (vin_le (pk_andIn _ 2 rfl (by decide)) (by decide)) (SG_g hK fun s4 e4 hK => ?_)
      refine hX.1 83 I_Reg_change_82 ok_Reg_change_82 _ _ _ ?_
      exact hK
  · have hK := ite_n hK h1
    refine And.intro (pk_andIn _ 3 rfl (by decide)) (SG_g hK fun s5 e5 hK => ?_)
    refine hX.1 83 I_Reg_change_82 ok_Reg_change_82 _ _ _ ?_
    exact hK
def I_Reg_jump_0 : List IT := [(0, .aload_n 0, 1, 0, 0, []), (1, .aload_n 0, 1, 0, 0, []), (2, .getfield 18, 3, 0, 0, []), (5, .iload_n 1, 1, 0, 0, []), (6, .iadd, 1, 0, 0, []), (7, .ldc 16, 2, 65535, 0, []), (9, .iand, 1, 0, 0, []), (10, .putfield 18, 3, 0, 0, []), (13, .return_, 1, 0, 0, [])]
theorem ok_Reg_jump_0 : blkOK b_Reg_jump pt_Reg 14 I_Reg_jump_0 = true := by decide +kernel
def f_Reg_jump (σ : Sg) (a1 : Int32) : Sg := (bnd (up2 σ 3 2 (((σ 3 2) + a1) &&& (65535 : Int32))) fun s1 => s1)
abbrev w_Reg_jump : List (Nat × Option Nat) := [(3, some 2)]
theorem p_Reg_jump {P : Sg → Prop} (hP : WP w_Reg_jump P) {σ : Sg} {a1 : Int32} (h : P σ) : P (f_Reg_jump σ a1) := by
  unfold f_Reg_jump
  refine bnd_zz (Z := P) (hP _ _ _ _ (Or.inr (by decide)) h) fun s1 e1 q1 => ?_
  exact q1
set_option maxRecDepth 100000 in
set_option maxHeartbeats 4000000 in
theorem s_Reg_jump {l : Launch} {ad : Nat → Nat} {D : va_G} {cI : ClassId} {σ : Sg} {a1 : Int32} {K : Option Value → Sg → Prop}   (hK : KV K (f_Reg_jump σ a1)) : MetJ l ad D cI mi_Reg_jump [.ref 3, .int a1] σ K := by
  refine met_of mi_Reg_jump pt_Reg pt_Reg_in rfl pl_Reg rfl (Nat.le_of_ble_eq_true rfl) fun X hX => ?_
  have hX : Cl l ad D cI mi_Reg_jump pt_Reg K X := hX
  show X 0 [.ref 3, .int a1] [] σ
  unfold f_Reg_jump at hK
  refine hX.1 14 I_Reg_jump_0 ok_Reg_jump_0 _ _ _ ?_
  refine And.intro trivial (SG_g hK fun s1 e1 hK => ?_)
  exact hK
