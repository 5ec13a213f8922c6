def I_Mod_nextSigned_0 : List IT := [(0, .aload_n 0, 1, 0, 0, []), (1, .invokevirtual 50, 3, 0, 0, []), (4, .istore_n 1, 1, 0, 0, []), (5, .iload_n 1, 1, 0, 0, []), (6, .sipush 128, 3, 128, 0, []), (9, .if_icmp .lt 11, 3, 0, 20, []), (12, .iload_n 1, 1, 0, 0, []), (13, .sipush 256, 3, 256, 0, []), (16, .isub, 1, 0, 0, []), (17, .goto 4, 3, 0, 21, [])]
theorem ok_Mod_nextSigned_0 : blkOK b_Mod_nextSigned pt_Mod 20 I_Mod_nextSigned_0 = true := by decide +kernel
def I_Mod_nextSigned_20 : List IT := [(20, .iload_n 1, 1, 0, 0, [])]
theorem ok_Mod_nextSigned_20 : blkOK b_Mod_nextSigned pt_Mod 21 I_Mod_nextSigned_20 = true := by decide +kernel
def I_Mod_nextSigned_21 : List IT := [(21, .ireturn, 1, 0, 0, [])]
theorem ok_Mod_nextSigned_21 : blkOK b_Mod_nextSigned pt_Mod 22 I_Mod_nextSigned_21 = true := by decide +kernel
def f_Mod_nextSigned (σ : Sg)  : Int32 × Sg := (bnd (f_Mod_next σ) fun r1 => (if r1.1 < (128 : Int32) then (r1.1, r1.2) else ((r1.1 - (256 : Int32)), r1.2)))
abbrev w_Mod_nextSigned : List (Nat × Option Nat) := [(15, some 3)]
theorem p_Mod_nextSigned {P : Sg → Prop} (hP : WP w_Mod_nextSigned P) {σ : Sg}  (h : P σ) : PP P (f_Mod_nextSigned σ ) := by
  unfold f_Mod_nextSigned
  refine bnd_zz (Z := PP P) (p_Mod_next (wsub hP rfl) h) fun r1 e1 q1 => ?_
  refine ite_z (fun _ => ?_) (fun _ => ?_)
  · exact q1
  · exact q1
set_option maxRecDepth 100000 in
set_option maxHeartbeats 4000000 in
theorem s_Mod_nextSigned {l : Launch} {ad : Nat → Nat} {D : va_G} {cI : ClassId} {σ : Sg}  {K : Option Value → Sg → Prop}   (hK : KI K (f_Mod_nextSigned σ )) : MetJ l ad D cI mi_Mod_nextSigned [.ref 15] σ K := by
  refine met_of mi_Mod_nextSigned pt_Mod pt_Mod_in rfl pl_Mod rfl (Nat.le_of_ble_eq_true rfl) fun X hX => ?_
  have hX : Cl l ad D cI mi_Mod_nextSigned pt_Mod K X := hX
  show X 0 [.ref 15, .null] [] σ
  unfold f_Mod_nextSigned at hK
  refine hX.1 20 I_Mod_nextSigned_0 ok_Mod_nextSigned_0 _ _ _ ?_
  refine s_Mod_next (bnd_g hK fun r1 e1 hK => ?_)
  refine And.intro (fun h2 => ?_) (fun h2 => ?_)
  · have hK := ite_p hK h2
    refine hX.1 21 I_Mod_nextSigned_20 ok_Mod_nextSigned_20 _ _ _ ?_
    refine hX.1 22 I_Mod_nextSigned_21 ok_Mod_nextSigned_21 _ _ _ ?_
    exact hK
  · have hK := ite_n hK h2
    refine hX.1 22 I_Mod_nextSigned_21 ok_Mod_nextSigned_21 _ _ _ ?_
    exact hK
def I_Mod_immediate_0 : List IT := [(0, .iload_n 1, 1, 0, 0, []), (1, .ifCond .eq 10, 3, 0, 11, []), (4, .aload_n 0, 1, 0, 0, []), (5, .invokevirtual 54, 3, 0, 0, []), (8, .goto 7, 3, 0, 15, [])]
theorem ok_Mod_immediate_0 : blkOK b_Mod_immediate pt_Mod 11 I_Mod_immediate_0 = true := by decide +kernel
def I_Mod_immediate_11 : List IT := [(11, .aload_n 0, 1, 0, 0, []), (12, .invokevirtual 50, 3, 0, 0, [])]
theorem ok_Mod_immediate_11 : blkOK b_Mod_immediate pt_Mod 15 I_Mod_immediate_11 = true := by decide +kernel
def I_Mod_immediate_15 : List IT := [(15, .ireturn, 1, 0, 0, [])]
theorem ok_Mod_immediate_15 : blkOK b_Mod_immediate pt_Mod 16 I_Mod_immediate_15 = true := by decide +kernel
def f_Mod_immediate (σ : Sg) (a1 : Int32) : Int32 × Sg := (if a1 = (0 : Int32) then (bnd (f_Mod_next σ) fun r2 => (r2.1, r2.2)) else (bnd (f_Mod_nextWord σ) fun r3 => (r3.1, r3.2)))
abbrev w_Mod_immediate : List (Nat × Option Nat) := [(15, some 3)]
theorem p_Mod_immediate {P : Sg → Prop} (hP : WP w_Mod_immediate P) {σ : Sg} {a1 : Int32} (h : P σ) : PP P (f_Mod_immediate σ a1) := by
  unfold f_Mod_immediate
  refine ite_z (fun _ => ?_) (fun _ => ?_)
  · refine bnd_zz (Z := PP P) (p_Mod_next (wsub hP rfl) h) fun r2 e2 q2 => ?_
    exact q2
  · refine bnd_zz (Z := PP P) (p_Mod_nextWord (wsub hP rfl) h) fun r3 e3 q3 => ?_
    exact q3
set_option maxRecDepth 100000 in
set_option maxHeartbeats 4000000 in
theorem s_Mod_immediate {l : Launch} {ad : Nat → Nat} {D : va_G} {cI : ClassId} {σ : Sg} {a1 : Int32} {K : Option Value → Sg → Prop}   (hK : KI K (f_Mod_immediate σ a1)) : MetJ l ad D cI mi_Mod_immediate [.ref 15, .int a1] σ K := by
  refine met_of mi_Mod_immediate pt_Mod pt_Mod_in rfl pl_Mod rfl (Nat.le_of_ble_eq_true rfl) fun X hX => ?_
  have hX : Cl l ad D cI mi_Mod_immediate pt_Mod K X := hX
  show X 0 [.ref 15, .int a1] [] σ
  unfold f_Mod_immediate at hK
  refine hX.1 11 I_Mod_immediate_0 ok_Mod_immediate_0 _ _ _ ?_
  refine And.intro (fun h1 => ?_) (fun h1 => ?_)
  · have hK := ite_p hK h1
    refine hX.1 15 I_Mod_immediate_11 ok_Mod_immediate_11 _ _ _ ?_
    refine s_Mod_next (bnd_g hK fun r2 e2 hK => ?_)
    refine hX.1 16 I_Mod_immediate_15 ok_Mod_immediate_15 _ _ _ ?_
    exact hK
  · have hK := ite_n hK h1
    refine s_Mod_nextWord (bnd_g hK fun r3 e3 hK => ?_)
    refine hX.1 16 I_Mod_immediate_15 ok_Mod_immediate_15 _ _ _ ?_
    exact hK
def I_Mod_getRegister_0 : List IT := [(0, .iload_n 2, 1, 0, 0, []), (1, .ifCond .eq 12, 3, 0, 13, []), (4, .aload_n 0, 1, 0, 0, []), (5, .getfield 13, 3, 0, 0, []), (8, .iload_n 1, 1, 0, 0, []), (9, .iaload, 1, 0, 0, []), (10, .goto 32, 3, 0, 42, [])]
theorem ok_Mod_getRegister_0 : blkOK b_Mod_getRegister pt_Mod 13 I_Mod_getRegister_0 = true := by decide +kernel
def I_Mod_getRegister_13 : List IT := [(13, .iload_n 1, 1, 0, 0, []), (14, .iconst 4, 1, 4, 0, []), (15, .if_icmp .ge 16, 3, 0, 31, []), (18, .aload_n 0, 1, 0, 0, []), (19, .getfield 13, 3, 0, 0, []), (22, .iload_n 1, 1, 0, 0, []), (23, .iaload, 1, 0, 0, []), (24, .sipush 255, 3, 255, 0, []), (27, .iand, 1, 0, 0, []), (28, .goto 14, 3, 0, 42, [])]
theorem ok_Mod_getRegister_13 : blkOK b_Mod_getRegister pt_Mod 31 I_Mod_getRegister_13 = true := by decide +kernel
def I_Mod_getRegister_31 : List IT := [(31, .aload_n 0, 1, 0, 0, []), (32, .getfield 13, 3, 0, 0, []), (35, .iload_n 1, 1, 0, 0, []), (36, .iconst 4, 1, 4, 0, []), (37, .isub, 1, 0, 0, []), (38, .iaload, 1, 0, 0, []), (39, .bipush 8, 2, 8, 0, []), (41, .ishr, 1, 0, 0, [])]
theorem ok_Mod_getRegister_31 : blkOK b_Mod_getRegister pt_Mod 42 I_Mod_getRegister_31 = true := by decide +kernel
def I_Mod_getRegister_42 : List IT := [(42, .ireturn, 1, 0, 0, [])]
theorem ok_Mod_getRegister_42 : blkOK b_Mod_getRegister pt_Mod 43 I_Mod_getRegister_42 = true := by decide +kernel
def f_Mod_getRegister (σ : Sg) (a1 : Int32) (a2 : Int32) : Int32 × Sg := (if a2 = (0 : Int32) then (if (4 : Int32) ≤ a1 then (((σ 17 (Int32.toNatClampNeg (a1 - (4 : Int32)))) >>> ((8 : Int32) &&& 31 : Int32)), σ) else (((σ 17 (Int32.toNatClampNeg a1)) &&& (255 : Int32)), σ)) else ((σ 17 (Int32.toNatClampNeg a1)), σ))
abbrev w_Mod_getRegister : List (Nat × Option Nat) := []
theorem p_Mod_getRegister {P : Sg → Prop} (hP : WP w_Mod_getRegister P) {σ : Sg} {a1 : Int32} {a2 : Int32} (h : P σ) : PP P (f_Mod_getRegister σ a1 a2) := by
  unfold f_Mod_getRegister
  refine ite_z (fun _ => ?_) (fun _ => ?_)
  · refine ite_z (fun _ => ?_) (fun _ => ?_)
    · exact h
    · exact h
  · exact h
set_option maxRecDepth 100000 in
set_option maxHeartbeats 4000000 in
theorem s_Mod_getRegister {l : Launch} {ad : Nat → Nat} {D : va_G} {cI : ClassId} {σ : Sg} {a1 : Int32} {a2 : Int32} {K : Option Value → Sg → Prop} (v8_a1 : vp_in a1 8)  (hK : KI K (f_Mod_getRegister σ a1 a2)) : MetJ l ad D cI mi_Mod_getRegister [.ref 15, .int a1, .int a2] σ K := by
  refine met_of mi_Mod_getRegister pt_Mod pt_Mod_in rfl pl_Mod rfl (Nat.le_of_ble_eq_true rfl) fun X hX => ?_
  have hX : Cl l ad D cI mi_Mod_getRegister pt_Mod K X := hX
  show X 0 [.ref 15, .int a1, .int a2] [] σ
  unfold f_Mod_getRegister at hK
  refine hX.1 13 I_Mod_getRegister_0 ok_Mod_getRegister_0 _ _ _ ?_
  refine And.intro (fun h1 => ?_) (fun h1 => ?_)
  · have hK := ite_p hK h1
    refine hX.1 31 I_Mod_getRegister_13 ok_Mod_getRegister_13 _ _ _ ?_
    refine And.intro (fun h2 => ?_) (fun h2 => ?_)
    · have hK := ite_p hK h2
      refine hX.1 42 I_Mod_getRegister_31 ok_Mod_getRegister_31 _ _ _ ?_
      refine And.intro (vin_m4 v8_a1 h2) ?_
      refine hX.1 43 I_Mod_getRegister_42 ok_Mod_getRegister_42 _ _ _ ?_
      exact hK
    · have hK := ite_n hK h2
      refine And.intro v8_a1 ?_
      refine hX.1 43 I_Mod_getRegister_42 ok_Mod_getRegister_42 _ _ _ ?_
      exact hK
  · have hK := ite_n hK h1
    refine And.intro v8_a1 ?_
    refine hX.1 43 I_Mod_getRegister_42 ok_Mod_getRegister_42 _ _ _ ?_
    exact hK
def I_Mod_setRegister_0 : List IT := [(0, .iload_n 3, 1, 0, 0, []), (1, .ifCond .eq 16, 3, 0, 17, []), (4, .aload_n 0, 1, 0, 0, []), (5, .getfield 13, 3, 0, 0, []), (8, .iload_n 1, 1, 0, 0, []), (9, .iload_n 2, 1, 0, 0, []), (10, .ldc 32, 2, 65535, 0, []), (12, .iand, 1, 0, 0, []), (13, .iastore, 1, 0, 0, []), (14, .goto 61, 3, 0, 75, [])]
theorem ok_Mod_setRegister_0 : blkOK b_Mod_setRegister pt_Mod 17 I_Mod_setRegister_0 = true := by decide +kernel
def I_Mod_setRegister_17 : List IT := [(17, .iload_n 1, 1, 0, 0, []), (18, .iconst 4, 1, 4, 0, []), (19, .if_icmp .ge 27, 3, 0, 46, []), (22, .aload_n 0, 1, 0, 0, []), (23, .getfield 13, 3, 0, 0, []), (26, .iload_n 1, 1, 0, 0, []), (27, .aload_n 0, 1, 0, 0, []), (28, .getfield 13, 3, 0, 0, []), (31, .iload_n 1, 1, 0, 0, []), (32, .iaload, 1, 0, 0, []), (33, .ldc 57, 2, 65280, 0, []), (35, .iand, 1, 0, 0, []), (36, .iload_n 2, 1, 0, 0, []), (37, .sipush 255, 3, 255, 0, []), (40, .iand, 1, 0, 0, []), (41, .ior, 1, 0, 0, []), (42, .iastore, 1, 0, 0, []), (43, .goto 32, 3, 0, 75, [])]
theorem ok_Mod_setRegister_17 : blkOK b_Mod_setRegister pt_Mod 46 I_Mod_setRegister_17 = true := by decide +kernel
def I_Mod_setRegister_46 : List IT := [(46, .aload_n 0, 1, 0, 0, []), (47, .getfield 13, 3, 0, 0, []), (50, .iload_n 1, 1, 0, 0, []), (51, .iconst 4, 1, 4, 0, []), (52, .isub, 1, 0, 0, []), (53, .aload_n 0, 1, 0, 0, []), (54, .getfield 13, 3, 0, 0, []), (57, .iload_n 1, 1, 0, 0, []), (58, .iconst 4, 1, 4, 0, []), (59, .isub, 1, 0, 0, []), (60, .iaload, 1, 0, 0, []), (61, .sipush 255, 3, 255, 0, []), (64, .iand, 1, 0, 0, []), (65, .iload_n 2, 1, 0, 0, []), (66, .sipush 255, 3, 255, 0, []), (69, .iand, 1, 0, 0, []), (70, .bipush 8, 2, 8, 0, []), (72, .ishl, 1, 0, 0, []), (73, .ior, 1, 0, 0, []), (74, .iastore, 1, 0, 0, [])]
theorem ok_Mod_setRegister_46 : blkOK b_Mod_setRegister pt_Mod 75 I_Mod_setRegister_46 = true := by decide +kernel
def I_Mod_setRegister_75 : List IT := [(75, .return_, 1, 0, 0, [])]
theorem ok_Mod_setRegister_75 : blkOK b_Mod_setRegister pt_Mod 76 I_Mod_setRegister_75 = true := by decide +kernel
def f_Mod_setRegister (σ : Sg) (a1 : Int32) (a2 : Int32) (a3 : Int32) : Sg := (if a3 = (0 : Int32) then (if (4 : Int32) ≤ a1 then (bnd (up2 σ 17 (Int32.toNatClampNeg (a1 - (4 : Int32))) (((σ 17 (Int32.toNatClampNeg (a1 - (4 : Int32)))) &&& (255 : Int32)) ||| ((a2 &&& (255 : Int32)) <<< ((8 : Int32) &&& 31 : Int32)))) fun s3 => s3) else (bnd (up2 σ 17 (Int32.toNatClampNeg a1) (((σ 17 (Int32.toNatClampNeg a1)) &&& (65280 : Int32)) ||| (a2 &&& (255 : Int32)))) fun s4 => s4)) else (bnd (up2 σ 17 (Int32.toNatClampNeg a1) (a2 &&& (65535 : Int32))) fun s5 => s5))
abbrev w_Mod_setRegister : List (Nat × Option Nat) := [(17, none)]
theorem p_Mod_setRegister {P : Sg → Prop} (hP : WP w_Mod_setRegister P) {σ : Sg} {a1 : Int32} {a2 : Int32} {a3 : Int32} (h : P σ) : P (f_Mod_setRegister σ a1 a2 a3) := by
  unfold f_Mod_setRegister
  refine ite_z (fun _ => ?_) (fun _ => ?_)
  · refine ite_z (fun _ => ?_) (fun _ => ?_)
    · refine bnd_zz (Z := P) (hP _ _ _ _ (Or.inl (by decide)) h) fun s3 e3 q3 => ?_
      exact q3
    · refine bnd_zz (Z := P) (hP _ _ _ _ (Or.inl (by decide)) h) fun s4 e4 q4 => ?_
      exact q4
  · refine bnd_zz (Z := P) (hP _ _ _ _ (Or.inl (by decide)) h) fun s5 e5 q5 => ?_
    exact q5
set_option maxRecDepth 100000 in
set_option maxHeartbeats 4000000 in
theorem s_Mod_setRegister {l : Launch} {ad : Nat → Nat} {D : va_G} {cI : ClassId} {σ : Sg} {a1 : Int32} {a2 : Int32} {a3 : Int32} {K : Option Value → Sg → Prop} (v8_a1 : vp_in a1 8)  (hK : KV K (f_Mod_setRegister σ a1 a2 a3)) : MetJ l ad D cI mi_Mod_setRegister [.ref 15, .int a1, .int a2, .int a3] σ K := by
  refine met_of mi_Mod_setRegister pt_Mod pt_Mod_in rfl pl_Mod rfl (Nat.le_of_ble_eq_true rfl) fun X hX => ?_
  have hX : Cl l ad D cI mi_Mod_setRegister pt_Mod K X := hX
  show X 0 [.ref 15, .int a1, .int a2, .int a3] [] σ
  unfold f_Mod_setRegister at hK
  refine hX.1 17 I_Mod_setRegister_0 ok_Mod_setRegister_0 _ _ _ ?_
  refine And.intro (fun h1 => ?_) (fun h1 => ?_)
  · have hK := ite_p hK h1
    refine hX.1 46 I_Mod_setRegister_17 ok_Mod_setRegister_17 _ _ _ ?_
    refine And.intro (fun h2 => ?_) (fun h2 => ?_)
    · have hK := ite_p hK h2
      refine hX.1 75 I_Mod_setRegister_46 ok_Mod_setRegister_46 _ _ _ ?_
      refine And.intro (vin_m4 v8_a1 h2) ?_
      refine And.intro (vin_m4 v8_a1 h2) (SG_g hK fun s3 e3 hK => ?_)
      refine hX.1 76 I_Mod_setRegister_75 ok_Mod_setRegister_75 _ _ _ ?_
      exact hK
    · have hK := ite_n hK h2
      refine And.intro v8_a1 ?_
      refine And.intro v8_a1 (SG_g hK fun s4 e4 hK => ?_)
      refine hX.1 76 I_Mod_setRegister_75 ok_Mod_setRegister_75 _ _ _ ?_
      exact hK
  · have hK := ite_n hK h1
    refine And.intro v8_a1 (SG_g hK fun s5 e5 hK => ?_)
    refine hX.1 76 I_Mod_setRegister_75 ok_Mod_setRegister_75 _ _ _ ?_
    exact hK
def I_Mod_readModrm_0 : List IT := [(0, .aload_n 0, 1, 0, 0, []), (1, .invokevirtual 50, 3, 0, 0, []), (4, .istore_n 1, 1, 0, 0, []), (5, .iload_n 1, 1, 0, 0, []), (6, .bipush 6, 2, 6, 0, []), (8, .ishr, 1, 0, 0, []), (9, .istore_n 2, 1, 0, 0, []), (10, .iload_n 1, 1, 0, 0, []), (11, .bipush 7, 2, 7, 0, []), (13, .iand, 1, 0, 0, []), (14, .istore_n 3, 1, 0, 0, []), (15, .aload_n 0, 1, 0, 0, []), (16, .iload_n 1, 1, 0, 0, []), (17, .iconst 3, 1, 3, 0, []), (18, .ishr, 1, 0, 0, []), (19, .bipush 7, 2, 7, 0, []), (21, .iand, 1, 0, 0, []), (22, .putfield 58, 3, 0, 0, []), (25, .aload_n 0, 1, 0, 0, []), (26, .iload_n 2, 1, 0, 0, []), (27, .iconst 3, 1, 3, 0, []), (28, .if_icmp .ne 7, 3, 0, 35, []), (31, .iload_n 3, 1, 0, 0, []), (32, .goto 4, 3, 0, 36, [])]
theorem ok_Mod_readModrm_0 : blkOK b_Mod_readModrm pt_Mod 35 I_Mod_readModrm_0 = true := by decide +kernel
def I_Mod_readModrm_35 : List IT := [(35, .iconst (-1), 1, (-1), 0, [])]
theorem ok_Mod_readModrm_35 : blkOK b_Mod_readModrm pt_Mod 36 I_Mod_readModrm_35 = true := by decide +kernel
def I_Mod_readModrm_36 : List IT := [(36, .putfield 61, 3, 0, 0, []), (39, .iload_n 2, 1, 0, 0, []), (40, .ifCond .ne 13, 3, 0, 53, []), (43, .iload_n 3, 1, 0, 0, []), (44, .bipush 6, 2, 6, 0, []), (46, .if_icmp .ne 7, 3, 0, 53, []), (49, .iconst 1, 1, 1, 0, []), (50, .goto 4, 3, 0, 54, [])]
theorem ok_Mod_readModrm_36 : blkOK b_Mod_readModrm pt_Mod 53 I_Mod_readModrm_36 = true := by decide +kernel
def I_Mod_readModrm_53 : List IT := [(53, .iconst 0, 1, 0, 0, [])]
theorem ok_Mod_readModrm_53 : blkOK b_Mod_readModrm pt_Mod 54 I_Mod_readModrm_53 = true := by decide +kernel
def I_Mod_readModrm_54 : List IT := [(54, .istore 4, 2, 0, 0, []), (56, .iload_n 3, 1, 0, 0, []), (57, .ifCond .eq 14, 3, 0, 71, []), (60, .iload_n 3, 1, 0, 0, []), (61, .iconst 1, 1, 1, 0, []), (62, .if_icmp .eq 9, 3, 0, 71, []), (65, .iload_n 3, 1, 0, 0, []), (66, .bipush 7, 2, 7, 0, []), (68, .if_icmp .ne 12, 3, 0, 80, [])]
theorem ok_Mod_readModrm_54 : blkOK b_Mod_readModrm pt_Mod 71 I_Mod_readModrm_54 = true := by decide +kernel
def I_Mod_readModrm_71 : List IT := [(71, .aload_n 0, 1, 0, 0, []), (72, .getfield 13, 3, 0, 0, []), (75, .iconst 3, 1, 3, 0, []), (76, .iaload, 1, 0, 0, []), (77, .goto 29, 3, 0, 106, [])]
theorem ok_Mod_readModrm_71 : blkOK b_Mod_readModrm pt_Mod 80 I_Mod_readModrm_71 = true := by decide +kernel
def I_Mod_readModrm_80 : List IT := [(80, .iload_n 3, 1, 0, 0, []), (81, .iconst 2, 1, 2, 0, []), (82, .if_icmp .eq 14, 3, 0, 96, []), (85, .iload_n 3, 1, 0, 0, []), (86, .iconst 3, 1, 3, 0, []), (87, .if_icmp .eq 9, 3, 0, 96, []), (90, .iload_n 3, 1, 0, 0, []), (91, .bipush 6, 2, 6, 0, []), (93, .if_icmp .ne 12, 3, 0, 105, [])]
theorem ok_Mod_readModrm_80 : blkOK b_Mod_readModrm pt_Mod 96 I_Mod_readModrm_80 = true := by decide +kernel
def I_Mod_readModrm_96 : List IT := [(96, .aload_n 0, 1, 0, 0, []), (97, .getfield 13, 3, 0, 0, []), (100, .iconst 5, 1, 5, 0, []), (101, .iaload, 1, 0, 0, []), (102, .goto 4, 3, 0, 106, [])]
theorem ok_Mod_readModrm_96 : blkOK b_Mod_readModrm pt_Mod 105 I_Mod_readModrm_96 = true := by decide +kernel
def I_Mod_readModrm_105 : List IT := [(105, .iconst 0, 1, 0, 0, [])]
theorem ok_Mod_readModrm_105 : blkOK b_Mod_readModrm pt_Mod 106 I_Mod_readModrm_105 = true := by decide +kernel
def I_Mod_readModrm_106 : List IT := [(106, .istore 5, 2, 0, 0, []), (108, .iload_n 3, 1, 0, 0, []), (109, .ifCond .eq 13, 3, 0, 122, []), (112, .iload_n 3, 1, 0, 0, []), (113, .iconst 2, 1, 2, 0, []), (114, .if_icmp .eq 8, 3, 0, 122, []), (117, .iload_n 3, 1, 0, 0, []), (118, .iconst 4, 1, 4, 0, []), (119, .if_icmp .ne 13, 3, 0, 132, [])]
theorem ok_Mod_readModrm_106 : blkOK b_Mod_readModrm pt_Mod 122 I_Mod_readModrm_106 = true := by decide +kernel
def I_Mod_readModrm_122 : List IT := [(122, .aload_n 0, 1, 0, 0, []), (123, .getfield 13, 3, 0, 0, []), (126, .bipush 6, 2, 6, 0, []), (128, .iaload, 1, 0, 0, []), (129, .goto 29, 3, 0, 158, [])]
theorem ok_Mod_readModrm_122 : blkOK b_Mod_readModrm pt_Mod 132 I_Mod_readModrm_122 = true := by decide +kernel
def I_Mod_readModrm_132 : List IT := [(132, .iload_n 3, 1, 0, 0, []), (133, .iconst 1, 1, 1, 0, []), (134, .if_icmp .eq 13, 3, 0, 147, []), (137, .iload_n 3, 1, 0, 0, []), (138, .iconst 3, 1, 3, 0, []), (139, .if_icmp .eq 8, 3, 0, 147, []), (142, .iload_n 3, 1, 0, 0, []), (143, .iconst 5, 1, 5, 0, []), (144, .if_icmp .ne 13, 3, 0, 157, [])]
theorem ok_Mod_readModrm_132 : blkOK b_Mod_readModrm pt_Mod 147 I_Mod_readModrm_132 = true := by decide +kernel
def I_Mod_readModrm_147 : List IT := [(147, .aload_n 0, 1, 0, 0, []), (148, .getfield 13, 3, 0, 0, []), (151, .bipush 7, 2, 7, 0, []), (153, .iaload, 1, 0, 0, []), (154, .goto 4, 3, 0, 158, [])]
theorem ok_Mod_readModrm_147 : blkOK b_Mod_readModrm pt_Mod 157 I_Mod_readModrm_147 = true := by decide +kernel
def I_Mod_readModrm_157 : List IT := [(157, .iconst 0, 1, 0, 0, [])]
theorem ok_Mod_readModrm_157 : blkOK b_Mod_readModrm pt_Mod 158 I_Mod_readModrm_157 = true := by decide +kernel
def I_Mod_readModrm_158 : List IT := [(158, .istore 6, 2, 0, 0, []), (160, .iload_n 2, 1, 0, 0, []), (161, .iconst 3, 1, 3, 0, []), (162, .if_icmp .ne 7, 3, 0, 169, []), (165, .iconst 0, 1, 0, 0, []), (166, .goto 33, 3, 0, 199, [])]
theorem ok_Mod_readModrm_158 : blkOK b_Mod_readModrm pt_Mod 169 I_Mod_readModrm_158 = true := by decide +kernel
def I_Mod_readModrm_169 : List IT := [(169, .iload 4, 2, 0, 0, []), (171, .ifCond .ne 8, 3, 0, 179, []), (174, .iload_n 2, 1, 0, 0, []), (175, .iconst 2, 1, 2, 0, []), (176, .if_icmp .ne 10, 3, 0, 186, [])]
theorem ok_Mod_readModrm_169 : blkOK b_Mod_readModrm pt_Mod 179 I_Mod_readModrm_169 = true := by decide +kernel
def I_Mod_readModrm_179 : List IT := [(179, .aload_n 0, 1, 0, 0, []), (180, .invokevirtual 54, 3, 0, 0, []), (183, .goto 16, 3, 0, 199, [])]
theorem ok_Mod_readModrm_179 : blkOK b_Mod_readModrm pt_Mod 186 I_Mod_readModrm_179 = true := by decide +kernel
def I_Mod_readModrm_186 : List IT := [(186, .iload_n 2, 1, 0, 0, []), (187, .iconst 1, 1, 1, 0, []), (188, .if_icmp .ne 10, 3, 0, 198, []), (191, .aload_n 0, 1, 0, 0, []), (192, .invokevirtual 64, 3, 0, 0, []), (195, .goto 4, 3, 0, 199, [])]
theorem ok_Mod_readModrm_186 : blkOK b_Mod_readModrm pt_Mod 198 I_Mod_readModrm_186 = true := by decide +kernel
def I_Mod_readModrm_198 : List IT := [(198, .iconst 0, 1, 0, 0, [])]
theorem ok_Mod_readModrm_198 : blkOK b_Mod_readModrm pt_Mod 199 I_Mod_readModrm_198 = true := by decide +kernel
def I_Mod_readModrm_199 : List IT := [(199, .istore 7, 2, 0, 0, []), (201, .iload 4, 2, 0, 0, []), (203, .ifCond .ne 23, 3, 0, 226, []), (206, .iload_n 3, 1, 0, 0, []), (207, .iconst 2, 1, 2, 0, []), (208, .if_icmp .eq 14, 3, 0, 222, []), (211, .iload_n 3, 1, 0, 0, []), (212, .iconst 3, 1, 3, 0, []), (213, .if_icmp .eq 9, 3, 0, 222, []), (216, .iload_n 3, 1, 0, 0, []), (217, .bipush 6, 2, 6, 0, []), (219, .if_icmp .ne 7, 3, 0, 226, [])]
theorem ok_Mod_readModrm_199 : blkOK b_Mod_readModrm pt_Mod 222 I_Mod_readModrm_199 = true := by decide +kernel
def I_Mod_readModrm_222 : List IT := [(222, .iconst 1, 1, 1, 0, []), (223, .goto 4, 3, 0, 227, [])]
theorem ok_Mod_readModrm_222 : blkOK b_Mod_readModrm pt_Mod 226 I_Mod_readModrm_222 = true := by decide +kernel
def I_Mod_readModrm_226 : List IT := [(226, .iconst 0, 1, 0, 0, [])]
theorem ok_Mod_readModrm_226 : blkOK b_Mod_readModrm pt_Mod 227 I_Mod_readModrm_226 = true := by decide +kernel
def I_Mod_readModrm_227 : List IT := [(227, .istore 8, 2, 0, 0, []), (229, .aload_n 0, 1, 0, 0, []), (230, .iload 4, 2, 0, 0, []), (232, .ifCond .eq 7, 3, 0, 239, []), (235, .iconst 0, 1, 0, 0, []), (236, .goto 8, 3, 0, 244, [])]
theorem ok_Mod_readModrm_227 : blkOK b_Mod_readModrm pt_Mod 239 I_Mod_readModrm_227 = true := by decide +kernel
def I_Mod_readModrm_239 : List IT := [(239, .iload 5, 2, 0, 0, []), (241, .iload 6, 2, 0, 0, []), (243, .iadd, 1, 0, 0, [])]
theorem ok_Mod_readModrm_239 : blkOK b_Mod_readModrm pt_Mod 244 I_Mod_readModrm_239 = true := by decide +kernel
def I_Mod_readModrm_244 : List IT := [(244, .iload 7, 2, 0, 0, []), (246, .iadd, 1, 0, 0, []), (247, .ldc 32, 2, 65535, 0, []), (249, .iand, 1, 0, 0, []), (250, .putfield 67, 3, 0, 0, []), (253, .aload_n 0, 1, 0, 0, []), (254, .aload_n 0, 1, 0, 0, []), (255, .getfield 70, 3, 0, 0, []), (258, .ifCond .lt 10, 3, 0, 268, []), (261, .aload_n 0, 1, 0, 0, []), (262, .getfield 70, 3, 0, 0, []), (265, .goto 13, 3, 0, 278, [])]
theorem ok_Mod_readModrm_244 : blkOK b_Mod_readModrm pt_Mod 268 I_Mod_readModrm_244 = true := by decide +kernel
def I_Mod_readModrm_268 : List IT := [(268, .iload 8, 2, 0, 0, []), (270, .ifCond .eq 7, 3, 0, 277, []), (273, .iconst 2, 1, 2, 0, []), (274, .goto 4, 3, 0, 278, [])]
theorem ok_Mod_readModrm_268 : blkOK b_Mod_readModrm pt_Mod 277 I_Mod_readModrm_268 = true := by decide +kernel
def I_Mod_readModrm_277 : List IT := [(277, .iconst 3, 1, 3, 0, [])]
theorem ok_Mod_readModrm_277 : blkOK b_Mod_readModrm pt_Mod 278 I_Mod_readModrm_277 = true := by decide +kernel
def I_Mod_readModrm_278 : List IT := [(278, .putfield 73, 3, 0, 0, []), (281, .return_, 1, 0, 0, [])]
theorem ok_Mod_readModrm_278 : blkOK b_Mod_readModrm pt_Mod 282 I_Mod_readModrm_278 = true := by decide +kernel
def f_Mod_readModrm_244 (σ : Sg) (x7 : Int32) (x8 : Int32) (y0 : Int32) : Sg := (bnd (up2 σ 15 14 ((y0 + x7) &&& (65535 : Int32))) fun s1 => (if (s1 15 10) < (0 : Int32) then (if x8 = (0 : Int32) then (bnd (up2 s1 15 15 (3 : Int32)) fun s4 => s4) else (bnd (up2 s1 15 15 (2 : Int32)) fun s5 => s5)) else (bnd (up2 s1 15 15 (s1 15 10)) fun s6 => s6)))
abbrev w_Mod_readModrm_244 : List (Nat × Option Nat) := [(15, some 14), (15, some 15)]
theorem p_Mod_readModrm_244 {P : Sg → Prop} (hP : WP w_Mod_readModrm_244 P) {σ : Sg} {x7 : Int32} {x8 : Int32} {y0 : Int32} (h : P σ) : P (f_Mod_readModrm_244 σ x7 x8 y0) := by
  unfold f_Mod_readModrm_244
  refine bnd_zz (Z := P) (hP _ _ _ _ (Or.inr (by decide)) h) fun s1 e1 q1 => ?_
  refine ite_z (fun _ => ?_) (fun _ => ?_)
  · refine ite_z (fun _ => ?_) (fun _ => ?_)
    · refine bnd_zz (Z := P) (hP _ _ _ _ (Or.inr (by decide)) q1) fun s4 e4 q4 => ?_
      exact q4
    · refine bnd_zz (Z := P) (hP _ _ _ _ (Or.inr (by decide)) q1) fun s5 e5 q5 => ?_
      exact q5
  · refine bnd_zz (Z := P) (hP _ _ _ _ (Or.inr (by decide)) q1) fun s6 e6 q6 => ?_
    exact q6
set_option maxRecDepth 100000 in
set_option maxHeartbeats 4000000 in
theorem b_Mod_readModrm_244 {l : Launch} {ad : Nat → Nat} {D : va_G} {cI : ClassId} {K : Option Value → Sg → Prop} {X : Nat → List Value → List Value → Sg → Prop} (hX : Cl l ad D cI mi_Mod_readModrm pt_Mod K X) {σ : Sg} {x7 : Int32} {x8 : Int32} {y0 : Int32} (z_x8 : x8 = 0 ∨ x8 = 1)  (hK : KV K (f_Mod_readModrm_244 σ x7 x8 y0)) : X 244 [.ref 15, .null, .null, .null, .null, .null, .null, .int x7, .int x8] [.int y0, .ref 15] σ := by
  unfold f_Mod_readModrm_244 at hK
  refine hX.1 268 I_Mod_readModrm_244 ok_Mod_readModrm_244 _ _ _ ?_
  refine And.intro trivial (SG_g hK fun s1 e1 hK => ?_)
  refine And.intro (fun h2 => ?_) (fun h2 => ?_)
  · have hK := ite_p hK h2
    refine hX.1 277 I_Mod_readModrm_268 ok_Mod_readModrm_268 _ _ _ ?_
    refine And.intro (fun h3 => ?_) (fun h3 => ?_)
    · have hK := ite_p hK h3
      refine hX.1 278 I_Mod_readModrm_277 ok_Mod_readModrm_277 _ _ _ ?_
      refine hX.1 282 I_Mod_readModrm_278 ok_Mod_readModrm_278 _ _ _ ?_
      refine And.intro trivial (SG_g hK fun s4 e4 hK => ?_)
      exact hK
    · have hK := ite_n hK h3
      refine hX.1 282 I_Mod_readModrm_278 ok_Mod_readModrm_278 _ _ _ ?_
      refine And.intro trivial (SG_g hK fun s5 e5 hK => ?_)
      exact hK
  · have hK := ite_n hK h2
    refine hX.1 282 I_Mod_readModrm_278 ok_Mod_readModrm_278 _ _ _ ?_
    refine And.intro trivial (SG_g hK fun s6 e6 hK => ?_)
    exact hK
def f_Mod_readModrm_227 (σ : Sg) (x4 : Int32) (x5 : Int32) (x6 : Int32) (x7 : Int32) (y0 : Int32) : Sg := (if x4 = (0 : Int32) then (f_Mod_readModrm_244 σ x7 y0 (x5 + x6)) else (f_Mod_readModrm_244 σ x7 y0 (0 : Int32)))
abbrev w_Mod_readModrm_227 : List (Nat × Option Nat) := [(15, some 14), (15, some 15)]
theorem p_Mod_readModrm_227 {P : Sg → Prop} (hP : WP w_Mod_readModrm_227 P) {σ : Sg} {x4 : Int32} {x5 : Int32} {x6 : Int32} {x7 : Int32} {y0 : Int32} (h : P σ) : P (f_Mod_readModrm_227 σ x4 x5 x6 x7 y0) := by
  unfold f_Mod_readModrm_227
  refine ite_z (fun _ => ?_) (fun _ => ?_)
  · exact p_Mod_readModrm_244 (wsub hP rfl) h
  · exact p_Mod_readModrm_244 (wsub hP rfl) h
set_option maxRecDepth 100000 in
set_option maxHeartbeats 4000000 in
theorem b_Mod_readModrm_227 {l : Launch} {ad : Nat → Nat} {D : va_G} {cI : ClassId} {K : Option Value → Sg → Prop} {X : Nat → List Value → List Value → Sg → Prop} (hX : Cl l ad D cI mi_Mod_readModrm pt_Mod K X) {σ : Sg} {x4 : Int32} {x5 : Int32} {x6 : Int32} {x7 : Int32} {y0 : Int32} (z_x4 : x4 = 0 ∨ x4 = 1) (z_y0 : y0 = 0 ∨ y0 = 1)  (hK : KV K (f_Mod_readModrm_227 σ x4 x5 x6 x7 y0)) : X 227 [.ref 15, .null, .null, .null, .int x4, .int x5, .int x6, .int x7, .null] [.int y0] σ := by
  unfold f_Mod_readModrm_227 at hK
  refine hX.1 239 I_Mod_readModrm_227 ok_Mod_readModrm_227 _ _ _ ?_
  refine And.intro (fun h1 => ?_) (fun h1 => ?_)
  · have hK := ite_p hK h1
    refine hX.1 244 I_Mod_readModrm_239 ok_Mod_readModrm_239 _ _ _ ?_
    refine hX.fg [4, 5, 6] ?_
    exact b_Mod_readModrm_244 hX z_y0  hK
  · have hK := ite_n hK h1
    refine hX.fg [4, 5, 6] ?_
    exact b_Mod_readModrm_244 hX z_y0  hK
def f_Mod_readModrm_222 (σ : Sg) (x4 : Int32) (x5 : Int32) (x6 : Int32) (x7 : Int32) : Sg := (f_Mod_readModrm_227 σ x4 x5 x6 x7 (1 : Int32))
abbrev w_Mod_readModrm_222 : List (Nat × Option Nat) := [(15, some 14), (15, some 15)]
theorem p_Mod_readModrm_222 {P : Sg → Prop} (hP : WP w_Mod_readModrm_222 P) {σ : Sg} {x4 : Int32} {x5 : Int32} {x6 : Int32} {x7 : Int32} (h : P σ) : P (f_Mod_readModrm_222 σ x4 x5 x6 x7) := by
  unfold f_Mod_readModrm_222
  exact p_Mod_readModrm_227 (wsub hP rfl) h
set_option maxRecDepth 100000 in
set_option maxHeartbeats 4000000 in
theorem b_Mod_readModrm_222 {l : Launch} {ad : Nat → Nat} {D : va_G} {cI : ClassId} {K : Option Value → Sg → Prop} {X : Nat → List Value → List Value → Sg → Prop} (hX : Cl l ad D cI mi_Mod_readModrm pt_Mod K X) {σ : Sg} {x4 : Int32} {x5 : Int32} {x6 : Int32} {x7 : Int32} (z_x4 : x4 = 0 ∨ x4 = 1)  (hK : KV K (f_Mod_readModrm_222 σ x4 x5 x6 x7)) : X 222 [.ref 15, .null, .null, .null, .int x4, .int x5, .int x6, .int x7, .null] [] σ := by
  unfold f_Mod_readModrm_222 at hK
  refine hX.1 226 I_Mod_readModrm_222 ok_Mod_readModrm_222 _ _ _ ?_
  exact b_Mod_readModrm_227 hX z_x4 (Or.inr rfl)  hK
def f_Mod_readModrm_226 (σ : Sg) (x4 : Int32) (x5 : Int32) (x6 : Int32) (x7 : Int32) : Sg := (f_Mod_readModrm_227 σ x4 x5 x6 x7 (0 : Int32))
abbrev w_Mod_readModrm_226 : List (Nat × Option Nat) := [(15, some 14), (15, some 15)]
theorem p_Mod_readModrm_226 {P : Sg → Prop} (hP : WP w_Mod_readModrm_226 P) {σ : Sg} {x4 : Int32} {x5 : Int32} {x6 : Int32} {x7 : Int32} (h : P σ) : P (f_Mod_readModrm_226 σ x4 x5 x6 x7) := by
  unfold f_Mod_readModrm_226
  exact p_Mod_readModrm_227 (wsub hP rfl) h
set_option maxRecDepth 100000 in
set_option maxHeartbeats 4000000 in
theorem b_Mod_readModrm_226 {l : Launch} {ad : Nat → Nat} {D : va_G} {cI : ClassId} {K : Option Value → Sg → Prop} {X : Nat → List Value → List Value → Sg → Prop} (hX : Cl l ad D cI mi_Mod_readModrm pt_Mod K X) {σ : Sg} {x4 : Int32} {x5 : Int32} {x6 : Int32} {x7 : Int32} (z_x4 : x4 = 0 ∨ x4 = 1)  (hK : KV K (f_Mod_readModrm_226 σ x4 x5 x6 x7)) : X 226 [.ref 15, .null, .null, .null, .int x4, .int x5, .int x6, .int x7, .null] [] σ := by
  unfold f_Mod_readModrm_226 at hK
  refine hX.1 227 I_Mod_readModrm_226 ok_Mod_readModrm_226 _ _ _ ?_
  exact b_Mod_readModrm_227 hX z_x4 (Or.inl rfl)  hK
def f_Mod_readModrm_199 (σ : Sg) (x3 : Int32) (x4 : Int32) (x5 : Int32) (x6 : Int32) (y0 : Int32) : Sg := (if x4 = (0 : Int32) then (if x3 = (2 : Int32) then (f_Mod_readModrm_222 σ x4 x5 x6 y0) else (if x3 = (3 : Int32) then (f_Mod_readModrm_222 σ x4 x5 x6 y0) else (if x3 = (6 : Int32) then (f_Mod_readModrm_222 σ x4 x5 x6 y0) else (f_Mod_readModrm_226 σ x4 x5 x6 y0)))) else (f_Mod_readModrm_226 σ x4 x5 x6 y0))
abbrev w_Mod_readModrm_199 : List (Nat × Option Nat) := [(15, some 14), (15, some 15)]
theorem p_Mod_readModrm_199 {P : Sg → Prop} (hP : WP w_Mod_readModrm_199 P) {σ : Sg} {x3 : Int32} {x4 : Int32} {x5 : Int32} {x6 : Int32} {y0 : Int32} (h : P σ) : P (f_Mod_readModrm_199 σ x3 x4 x5 x6 y0) := by
  unfold f_Mod_readModrm_199
  refine ite_z (fun _ => ?_) (fun _ => ?_)
  · refine ite_z (fun _ => ?_) (fun _ => ?_)
    · exact p_Mod_readModrm_222 (wsub hP rfl) h
    · refine ite_z (fun _ => ?_) (fun _ => ?_)
      · exact p_Mod_readModrm_222 (wsub hP rfl) h
      · refine ite_z (fun _ => ?_) (fun _ => ?_)
        · exact p_Mod_readModrm_222 (wsub hP rfl) h
        · exact p_Mod_readModrm_226 (wsub hP rfl) h
  · exact p_Mod_readModrm_226 (wsub hP rfl) h
set_option maxRecDepth 100000 in
set_option maxHeartbeats 4000000 in
theorem b_Mod_readModrm_199 {l : Launch} {ad : Nat → Nat} {D : va_G} {cI : ClassId} {K : Option Value → Sg → Prop} {X : Nat → List Value → List Value → Sg → Prop} (hX : Cl l ad D cI mi_Mod_readModrm pt_Mod K X) {σ : Sg} {x3 : Int32} {x4 : Int32} {x5 : Int32} {x6 : Int32} {y0 : Int32} (z_x4 : x4 = 0 ∨ x4 = 1)  (hK : KV K (f_Mod_readModrm_199 σ x3 x4 x5 x6 y0)) : X 199 [.ref 15, .null, .null, .int x3, .int x4, .int x5, .int x6, .null, .null] [.int y0] σ := by
  unfold f_Mod_readModrm_199 at hK
  refine hX.1 222 I_Mod_readModrm_199 ok_Mod_readModrm_199 _ _ _ ?_
  refine And.intro (fun h1 => ?_) (fun h1 => ?_)
  · have hK := ite_p hK h1
    refine And.intro (fun h2 => ?_) (fun h2 => ?_)
    · have hK := ite_p hK h2
      refine hX.fg [3] ?_
      exact b_Mod_readModrm_222 hX z_x4  hK
    · have hK := ite_n hK h2
      refine And.intro (fun h3 => ?_) (fun h3 => ?_)
      · have hK := ite_p hK h3
        refine hX.fg [3] ?_
        exact b_Mod_readModrm_222 hX z_x4  hK
      · have hK := ite_n hK h3
        refine And.intro (fun h4 => ?_) (fun h4 => ?_)
        · have hK := ite_p hK h4
          refine hX.fg [3] ?_
          exact b_Mod_readModrm_222 hX z_x4  hK
        · have hK := ite_n hK h4
          refine hX.fg [3] ?_
          exact b_Mod_readModrm_226 hX z_x4  hK
  · have hK := ite_n hK h1
    refine hX.fg [3] ?_
    exact b_Mod_readModrm_226 hX z_x4  hK
def f_Mod_readModrm_179 (σ : Sg) (x3 : Int32) (x4 : Int32) (x5 : Int32) (x6 : Int32) : Sg := (bnd (f_Mod_nextWord σ) fun r1 => (f_Mod_readModrm_199 r1.2 x3 x4 x5 x6 r1.1))
abbrev w_Mod_readModrm_179 : List (Nat × Option Nat) := [(15, some 3), (15, some 14), (15, some 15)]
theorem p_Mod_readModrm_179 {P : Sg → Prop} (hP : WP w_Mod_readModrm_179 P) {σ : Sg} {x3 : Int32} {x4 : Int32} {x5 : Int32} {x6 : Int32} (h : P σ) : P (f_Mod_readModrm_179 σ x3 x4 x5 x6) := by
  unfold f_Mod_readModrm_179
  refine bnd_zz (Z := PP P) (p_Mod_nextWord (wsub hP rfl) h) fun r1 e1 q1 => ?_
  exact p_Mod_readModrm_199 (wsub hP rfl) q1
set_option maxRecDepth 100000 in
set_option maxHeartbeats 4000000 in
theorem b_Mod_readModrm_179 {l : Launch} {ad : Nat → Nat} {D : va_G} {cI : ClassId} {K : Option Value → Sg → Prop} {X : Nat → List Value → List Value → Sg → Prop} (hX : Cl l ad D cI mi_Mod_readModrm pt_Mod K X) {σ : Sg} {x3 : Int32} {x4 : Int32} {x5 : Int32} {x6 : Int32} (z_x4 : x4 = 0 ∨ x4 = 1)  (hK : KV K (f_Mod_readModrm_179 σ x3 x4 x5 x6)) : X 179 [.ref 15, .null, .null, .int x3, .int x4, .int x5, .int x6, .null, .null] [] σ := by
  unfold f_Mod_readModrm_179 at hK
  refine hX.1 186 I_Mod_readModrm_179 ok_Mod_readModrm_179 _ _ _ ?_
  refine s_Mod_nextWord (bnd_g hK fun r1 e1 hK => ?_)
  exact b_Mod_readModrm_199 hX z_x4  hK
def f_Mod_readModrm_158 (σ : Sg) (x2 : Int32) (x3 : Int32) (x4 : Int32) (x5 : Int32) (y0 : Int32) : Sg := (if x2 = (3 : Int32) then (f_Mod_readModrm_199 σ x3 x4 x5 y0 (0 : Int32)) else (if x4 = (0 : Int32) then (if x2 = (2 : Int32) then (f_Mod_readModrm_179 σ x3 x4 x5 y0) else (if x2 = (1 : Int32) then (bnd (f_Mod_nextSigned σ) fun r5 => (f_Mod_readModrm_199 r5.2 x3 x4 x5 y0 r5.1)) else (f_Mod_readModrm_199 σ x3 x4 x5 y0 (0 : Int32)))) else (f_Mod_readModrm_179 σ x3 x4 x5 y0)))
abbrev w_Mod_readModrm_158 : List (Nat × Option Nat) := [(15, some 3), (15, some 14), (15, some 15)]
theorem p_Mod_readModrm_158 {P : Sg → Prop} (hP : WP w_Mod_readModrm_158 P) {σ : Sg} {x2 : Int32} {x3 : Int32} {x4 : Int32} {x5 : Int32} {y0 : Int32} (h : P σ) : P (f_Mod_readModrm_158 σ x2 x3 x4 x5 y0) := by
  unfold f_Mod_readModrm_158
  refine ite_z (fun _ => ?_) (fun _ => ?_)
  · exact p_Mod_readModrm_199 (wsub hP rfl) h
  · refine ite_z (fun _ => ?_) (fun _ => ?_)
    · refine ite_z (fun _ => ?_) (fun _ => ?_)
      · exact p_Mod_readModrm_179 (wsub hP rfl) h
      · refine ite_z (fun _ => ?_) (fun _ => ?_)
        · refine bnd_zz (Z := PP P) (p_Mod_nextSigned (wsub hP rfl) h) fun r5 e5 q5 => ?_
          exact p_Mod_readModrm_199 (wsub hP rfl) q5
        · exact p_Mod_readModrm_199 (wsub hP rfl) h
    · exact p_Mod_readModrm_179 (wsub hP rfl) h
set_option maxRecDepth 100000 in
set_option maxHeartbeats 4000000 in
theorem b_Mod_readModrm_158 {l : Launch} {ad : Nat → Nat} {D : va_G} {cI : ClassId} {K : Option Value → Sg → Prop} {X : Nat → List Value → List Value → Sg → Prop} (hX : Cl l ad D cI mi_Mod_readModrm pt_Mod K X) {σ : Sg} {x2 : Int32} {x3 : Int32} {x4 : Int32} {x5 : Int32} {y0 : Int32} (z_x4 : x4 = 0 ∨ x4 = 1)  (hK : KV K (f_Mod_readModrm_158 σ x2 x3 x4 x5 y0)) : X 158 [.ref 15, .null, .int x2, .int x3, .int x4, .int x5, .null, .null, .null] [.int y0] σ := by
  unfold f_Mod_readModrm_158 at hK
  refine hX.1 169 I_Mod_readModrm_158 ok_Mod_readModrm_158 _ _ _ ?_
  refine And.intro (fun h1 => ?_) (fun h1 => ?_)
  · have hK := ite_p hK h1
    refine hX.fg [2] ?_
    exact b_Mod_readModrm_199 hX z_x4  hK
  · have hK := ite_n hK h1
    refine hX.1 179 I_Mod_readModrm_169 ok_Mod_readModrm_169 _ _ _ ?_
    refine And.intro (fun h2 => ?_) (fun h2 => ?_)
    · have hK := ite_p hK h2
      refine And.intro (fun h3 => ?_) (fun h3 => ?_)
      · have hK := ite_p hK h3
        refine hX.fg [2] ?_
        exact b_Mod_readModrm_179 hX z_x4  hK
      · have hK := ite_n hK h3
        refine hX.1 198 I_Mod_readModrm_186 ok_Mod_readModrm_186 _ _ _ ?_
        refine And.intro (fun h4 => ?_) (fun h4 => ?_)
        · have hK := ite_p hK h4
          refine s_Mod_nextSigned (bnd_g hK fun r5 e5 hK => ?_)
          refine hX.fg [2] ?_
          exact b_Mod_readModrm_199 hX z_x4  hK
        · have hK := ite_n hK h4
          refine hX.1 199 I_Mod_readModrm_198 ok_Mod_readModrm_198 _ _ _ ?_
          refine hX.fg [2] ?_
          exact b_Mod_readModrm_199 hX z_x4  hK
    · have hK := ite_n hK h2
      refine hX.fg [2] ?_
      exact b_Mod_readModrm_179 hX z_x4  hK
def f_Mod_readModrm_122 (σ : Sg) (x2 : Int32) (x3 : Int32) (x4 : Int32) (x5 : Int32) : Sg := (f_Mod_readModrm_158 σ x2 x3 x4 x5 (σ 17 (Int32.toNatClampNeg (6 : Int32))))
abbrev w_Mod_readModrm_122 : List (Nat × Option Nat) := [(15, some 3), (15, some 14), (15, some 15)]
theorem p_Mod_readModrm_122 {P : Sg → Prop} (hP : WP w_Mod_readModrm_122 P) {σ : Sg} {x2 : Int32} {x3 : Int32} {x4 : Int32} {x5 : Int32} (h : P σ) : P (f_Mod_readModrm_122 σ x2 x3 x4 x5) := by
  unfold f_Mod_readModrm_122
  exact p_Mod_readModrm_158 (wsub hP rfl) h
set_option maxRecDepth 100000 in
set_option maxHeartbeats 4000000 in
theorem b_Mod_readModrm_122 {l : Launch} {ad : Nat → Nat} {D : va_G} {cI : ClassId} {K : Option Value → Sg → Prop} {X : Nat → List Value → List Value → Sg → Prop} (hX : Cl l ad D cI mi_Mod_readModrm pt_Mod K X) {σ : Sg} {x2 : Int32} {x3 : Int32} {x4 : Int32} {x5 : Int32} (z_x4 : x4 = 0 ∨ x4 = 1)  (hK : KV K (f_Mod_readModrm_122 σ x2 x3 x4 x5)) : X 122 [.ref 15, .null, .int x2, .int x3, .int x4, .int x5, .null, .null, .null] [] σ := by
  unfold f_Mod_readModrm_122 at hK
  refine hX.1 132 I_Mod_readModrm_122 ok_Mod_readModrm_122 _ _ _ ?_
  refine And.intro (vin (by decide)) ?_
  exact b_Mod_readModrm_158 hX z_x4  hK
def f_Mod_readModrm_147 (σ : Sg) (x2 : Int32) (x3 : Int32) (x4 : Int32) (x5 : Int32) : Sg := (f_Mod_readModrm_158 σ x2 x3 x4 x5 (σ 17 (Int32.toNatClampNeg (7 : Int32))))
abbrev w_Mod_readModrm_147 : List (Nat × Option Nat) := [(15, some 3), (15, some 14), (15, some 15)]
theorem p_Mod_readModrm_147 {P : Sg → Prop} (hP : WP w_Mod_readModrm_147 P) {σ : Sg} {x2 : Int32} {x3 : Int32} {x4 : Int32} {x5 : Int32} (h : P σ) : P (f_Mod_readModrm_147 σ x2 x3 x4 x5) := by
  unfold f_Mod_readModrm_147
  exact p_Mod_readModrm_158 (wsub hP rfl) h
set_option maxRecDepth 100000 in
set_option maxHeartbeats 4000000 in
theorem b_Mod_readModrm_147 {l : Launch} {ad : Nat → Nat} {D : va_G} {cI : ClassId} {K : Option Value → Sg → Prop} {X : Nat → List Value → List Value → Sg → Prop} (hX : Cl l ad D cI mi_Mod_readModrm pt_Mod K X) {σ : Sg} {x2 : Int32} {x3 : Int32} {x4 : Int32} {x5 : Int32} (z_x4 : x4 = 0 ∨ x4 = 1)  (hK : KV K (f_Mod_readModrm_147 σ x2 x3 x4 x5)) : X 147 [.ref 15, .null, .int x2, .int x3, .int x4, .int x5, .null, .null, .null] [] σ := by
  unfold f_Mod_readModrm_147 at hK
  refine hX.1 157 I_Mod_readModrm_147 ok_Mod_readModrm_147 _ _ _ ?_
  refine And.intro (vin (by decide)) ?_
  exact b_Mod_readModrm_158 hX z_x4  hK
def f_Mod_readModrm_106 (σ : Sg) (x2 : Int32) (x3 : Int32) (x4 : Int32) (y0 : Int32) : Sg := (if x3 = (0 : Int32) then (f_Mod_readModrm_122 σ x2 x3 x4 y0) else (if x3 = (2 : Int32) then (f_Mod_readModrm_122 σ x2 x3 x4 y0) else (if x3 = (4 : Int32) then (f_Mod_readModrm_122 σ x2 x3 x4 y0) else (if x3 = (1 : Int32) then (f_Mod_readModrm_147 σ x2 x3 x4 y0) else (if x3 = (3 : Int32) then (f_Mod_readModrm_147 σ x2 x3 x4 y0) else (if x3 = (5 : Int32) then (f_Mod_readModrm_147 σ x2 x3 x4 y0) else (f_Mod_readModrm_158 σ x2 x3 x4 y0 (0 : Int32))))))))
abbrev w_Mod_readModrm_106 : List (Nat × Option Nat) := [(15, some 3), (15, some 14), (15, some 15)]
theorem p_Mod_readModrm_106 {P : Sg → Prop} (hP : WP w_Mod_readModrm_106 P) {σ : Sg} {x2 : Int32} {x3 : Int32} {x4 : Int32} {y0 : Int32} (h : P σ) : P (f_Mod_readModrm_106 σ x2 x3 x4 y0) := by
  unfold f_Mod_readModrm_106
  refine ite_z (fun _ => ?_) (fun _ => ?_)
  · exact p_Mod_readModrm_122 (wsub hP rfl) h
  · refine ite_z (fun _ => ?_) (fun _ => ?_)
    · exact p_Mod_readModrm_122 (wsub hP rfl) h
    · refine ite_z (fun _ => ?_) (fun _ => ?_)
      · exact p_Mod_readModrm_122 (wsub hP rfl) h
      · refine ite_z (fun _ => ?_) (fun _ => ?_)
        · exact p_Mod_readModrm_147 (wsub hP rfl) h
        · refine ite_z (fun _ => ?_) (fun _ => ?_)
          · exact p_Mod_readModrm_147 (wsub hP rfl) h
          · refine ite_z (fun _ => ?_) (fun _ => ?_)
            · exact p_Mod_readModrm_147 (wsub hP rfl) h
            · exact p_Mod_readModrm_158 (wsub hP rfl) h
set_option maxRecDepth 100000 in
set_option maxHeartbeats 4000000 in
theorem b_Mod_readModrm_106 {l : Launch} {ad : Nat → Nat} {D : va_G} {cI : ClassId} {K : Option Value → Sg → Prop} {X : Nat → List Value → List Value → Sg → Prop} (hX : Cl l ad D cI mi_Mod_readModrm pt_Mod K X) {σ : Sg} {x2 : Int32} {x3 : Int32} {x4 : Int32} {y0 : Int32} (z_x4 : x4 = 0 ∨ x4 = 1)  (hK : KV K (f_Mod_readModrm_106 σ x2 x3 x4 y0)) : X 106 [.ref 15, .null, .int x2, .int x3, .int x4, .null, .null, .null, .null] [.int y0] σ := by
  unfold f_Mod_readModrm_106 at hK
  refine hX.1 122 I_Mod_readModrm_106 ok_Mod_readModrm_106 _ _ _ ?_
  refine And.intro (fun h1 => ?_) (fun h1 => ?_)
  · have hK := ite_p hK h1
    exact b_Mod_readModrm_122 hX z_x4  hK
  · have hK := ite_n hK h1
    refine And.intro (fun h2 => ?_) (fun h2 => ?_)
    · have hK := ite_p hK h2
      exact b_Mod_readModrm_122 hX z_x4  hK
    · have hK := ite_n hK h2
      refine And.intro (fun h3 => ?_) (fun h3 => ?_)
      · have hK := ite_p hK h3
        exact b_Mod_readModrm_122 hX z_x4  hK
      · have hK := ite_n hK h3
        refine hX.1 147 I_Mod_readModrm_132 ok_Mod_readModrm_132 _ _ _ ?_
        refine And.intro (fun h4 => ?_) (fun h4 => ?_)
        · have hK := ite_p hK h4
          exact b_Mod_readModrm_147 hX z_x4  hK
        · have hK := ite_n hK h4
          refine And.intro (fun h5 => ?_) (fun h5 => ?_)
          · have hK := ite_p hK h5
            exact b_Mod_readModrm_147 hX z_x4  hK
          · have hK := ite_n hK h5
            refine And.intro (fun h6 => ?_) (fun h6 => ?_)
            · have hK := ite_p hK h6
              exact b_Mod_readModrm_147 hX z_x4  hK
            · have hK := ite_n hK h6
              refine hX.1 158 I_Mod_readModrm_157 ok_Mod_readModrm_157 _ _ _ ?_
              exact b_Mod_readModrm_158 hX z_x4  hK
def f_Mod_readModrm_71 (σ : Sg) (x2 : Int32) (x3 : Int32) (x4 : Int32) : Sg := (f_Mod_readModrm_106 σ x2 x3 x4 (σ 17 (Int32.toNatClampNeg (3 : Int32))))
abbrev w_Mod_readModrm_71 : List (Nat × Option Nat) := [(15, some 3), (15, some 14), (15, some 15)]
theorem p_Mod_readModrm_71 {P : Sg → Prop} (hP : WP w_Mod_readModrm_71 P) {σ : Sg} {x2 : Int32} {x3 : Int32} {x4 : Int32} (h : P σ) : P (f_Mod_readModrm_71 σ x2 x3 x4) := by
  unfold f_Mod_readModrm_71
  exact p_Mod_readModrm_106 (wsub hP rfl) h
set_option maxRecDepth 100000 in
set_option maxHeartbeats 4000000 in
theorem b_Mod_readModrm_71 {l : Launch} {ad : Nat → Nat} {D : va_G} {cI : ClassId} {K : Option Value → Sg → Prop} {X : Nat → List Value → List Value → Sg → Prop} (hX : Cl l ad D cI mi_Mod_readModrm pt_Mod K X) {σ : Sg} {x2 : Int32} {x3 : Int32} {x4 : Int32} (z_x4 : x4 = 0 ∨ x4 = 1)  (hK : KV K (f_Mod_readModrm_71 σ x2 x3 x4)) : X 71 [.ref 15, .null, .int x2, .int x3, .int x4, .null, .null, .null, .null] [] σ := by
  unfold f_Mod_readModrm_71 at hK
  refine hX.1 80 I_Mod_readModrm_71 ok_Mod_readModrm_71 _ _ _ ?_
  refine And.intro (vin (by decide)) ?_
  exact b_Mod_readModrm_106 hX z_x4  hK
def f_Mod_readModrm_96 (σ : Sg) (x2 : Int32) (x3 : Int32) (x4 : Int32) : Sg := (f_Mod_readModrm_106 σ x2 x3 x4 (σ 17 (Int32.toNatClampNeg (5 : Int32))))
abbrev w_Mod_readModrm_96 : List (Nat × Option Nat) := [(15, some 3), (15, some 14), (15, some 15)]
theorem p_Mod_readModrm_96 {P : Sg → Prop} (hP : WP w_Mod_readModrm_96 P) {σ : Sg} {x2 : Int32} {x3 : Int32} {x4 : Int32} (h : P σ) : P (f_Mod_readModrm_96 σ x2 x3 x4) := by
  unfold f_Mod_readModrm_96
  exact p_Mod_readModrm_106 (wsub hP rfl) h
set_option maxRecDepth 100000 in
set_option maxHeartbeats 4000000 in
theorem b_Mod_readModrm_96 {l : Launch} {ad : Nat → Nat} {D : va_G} {cI : ClassId} {K : Option Value → Sg → Prop} {X : Nat → List Value → List Value → Sg → Prop} (hX : Cl l ad D cI mi_Mod_readModrm pt_Mod K X) {σ : Sg} {x2 : Int32} {x3 : Int32} {x4 : Int32} (z_x4 : x4 = 0 ∨ x4 = 1)  (hK : KV K (f_Mod_readModrm_96 σ x2 x3 x4)) : X 96 [.ref 15, .null, .int x2, .int x3, .int x4, .null, .null, .null, .null] [] σ := by
  unfold f_Mod_readModrm_96 at hK
  refine hX.1 105 I_Mod_readModrm_96 ok_Mod_readModrm_96 _ _ _ ?_
  refine And.intro (vin (by decide)) ?_
  exact b_Mod_readModrm_106 hX z_x4  hK
def f_Mod_readModrm_54 (σ : Sg) (x2 : Int32) (x3 : Int32) (y0 : Int32) : Sg := (if x3 = (0 : Int32) then (f_Mod_readModrm_71 σ x2 x3 y0) else (if x3 = (1 : Int32) then (f_Mod_readModrm_71 σ x2 x3 y0) else (if x3 = (7 : Int32) then (f_Mod_readModrm_71 σ x2 x3 y0) else (if x3 = (2 : Int32) then (f_Mod_readModrm_96 σ x2 x3 y0) else (if x3 = (3 : Int32) then (f_Mod_readModrm_96 σ x2 x3 y0) else (if x3 = (6 : Int32) then (f_Mod_readModrm_96 σ x2 x3 y0) else (f_Mod_readModrm_106 σ x2 x3 y0 (0 : Int32))))))))
abbrev w_Mod_readModrm_54 : List (Nat × Option Nat) := [(15, some 3), (15, some 14), (15, some 15)]
theorem p_Mod_readModrm_54 {P : Sg → Prop} (hP : WP w_Mod_readModrm_54 P) {σ : Sg} {x2 : Int32} {x3 : Int32} {y0 : Int32} (h : P σ) : P (f_Mod_readModrm_54 σ x2 x3 y0) := by
  unfold f_Mod_readModrm_54
  refine ite_z (fun _ => ?_) (fun _ => ?_)
  · exact p_Mod_readModrm_71 (wsub hP rfl) h
  · refine ite_z (fun _ => ?_) (fun _ => ?_)
    · exact p_Mod_readModrm_71 (wsub hP rfl) h
    · refine ite_z (fun _ => ?_) (fun _ => ?_)
      · exact p_Mod_readModrm_71 (wsub hP rfl) h
      · refine ite_z (fun _ => ?_) (fun _ => ?_)
        · exact p_Mod_readModrm_96 (wsub hP rfl) h
        · refine ite_z (fun _ => ?_) (fun _ => ?_)
          · exact p_Mod_readModrm_96 (wsub hP rfl) h
          · refine ite_z (fun _ => ?_) (fun _ => ?_)
            · exact p_Mod_readModrm_96 (wsub hP rfl) h
            · exact p_Mod_readModrm_106 (wsub hP rfl) h
set_option maxRecDepth 100000 in
set_option maxHeartbeats 4000000 in
theorem b_Mod_readModrm_54 {l : Launch} {ad : Nat → Nat} {D : va_G} {cI : ClassId} {K : Option Value → Sg → Prop} {X : Nat → List Value → List Value → Sg → Prop} (hX : Cl l ad D cI mi_Mod_readModrm pt_Mod K X) {σ : Sg} {x2 : Int32} {x3 : Int32} {y0 : Int32} (z_y0 : y0 = 0 ∨ y0 = 1)  (hK : KV K (f_Mod_readModrm_54 σ x2 x3 y0)) : X 54 [.ref 15, .null, .int x2, .int x3, .null, .null, .null, .null, .null] [.int y0] σ := by
  unfold f_Mod_readModrm_54 at hK
  refine hX.1 71 I_Mod_readModrm_54 ok_Mod_readModrm_54 _ _ _ ?_
  refine And.intro (fun h1 => ?_) (fun h1 => ?_)
  · have hK := ite_p hK h1
    exact b_Mod_readModrm_71 hX z_y0  hK
  · have hK := ite_n hK h1
    refine And.intro (fun h2 => ?_) (fun h2 => ?_)
    · have hK := ite_p hK h2
      exact b_Mod_readModrm_71 hX z_y0  hK
    · have hK := ite_n hK h2
      refine And.intro (fun h3 => ?_) (fun h3 => ?_)
      · have hK := ite_p hK h3
        exact b_Mod_readModrm_71 hX z_y0  hK
      · have hK := ite_n hK h3
        refine hX.1 96 I_Mod_readModrm_80 ok_Mod_readModrm_80 _ _ _ ?_
        refine And.intro (fun h4 => ?_) (fun h4 => ?_)
        · have hK := ite_p hK h4
          exact b_Mod_readModrm_96 hX z_y0  hK
        · have hK := ite_n hK h4
          refine And.intro (fun h5 => ?_) (fun h5 => ?_)
          · have hK := ite_p hK h5
            exact b_Mod_readModrm_96 hX z_y0  hK
          · have hK := ite_n hK h5
            refine And.intro (fun h6 => ?_) (fun h6 => ?_)
            · have hK := ite_p hK h6
              exact b_Mod_readModrm_96 hX z_y0  hK
            · have hK := ite_n hK h6
              refine hX.1 106 I_Mod_readModrm_105 ok_Mod_readModrm_105 _ _ _ ?_
              exact b_Mod_readModrm_106 hX z_y0  hK
def f_Mod_readModrm_53 (σ : Sg) (x2 : Int32) (x3 : Int32) : Sg := (f_Mod_readModrm_54 σ x2 x3 (0 : Int32))
abbrev w_Mod_readModrm_53 : List (Nat × Option Nat) := [(15, some 3), (15, some 14), (15, some 15)]
theorem p_Mod_readModrm_53 {P : Sg → Prop} (hP : WP w_Mod_readModrm_53 P) {σ : Sg} {x2 : Int32} {x3 : Int32} (h : P σ) : P (f_Mod_readModrm_53 σ x2 x3) := by
  unfold f_Mod_readModrm_53
  exact p_Mod_readModrm_54 (wsub hP rfl) h
set_option maxRecDepth 100000 in
set_option maxHeartbeats 4000000 in
theorem b_Mod_readModrm_53 {l : Launch} {ad : Nat → Nat} {D : va_G} {cI : ClassId} {K : Option Value → Sg → Prop} {X : Nat → List Value → List Value → Sg → Prop} (hX : Cl l ad D cI mi_Mod_readModrm pt_Mod K X) {σ : Sg} {x2 : Int32} {x3 : Int32}   (hK : KV K (f_Mod_readModrm_53 σ x2 x3)) : X 53 [.ref 15, .null, .int x2, .int x3, .null, .null, .null, .null, .null] [] σ := by
  unfold f_Mod_readModrm_53 at hK
  refine hX.1 54 I_Mod_readModrm_53 ok_Mod_readModrm_53 _ _ _ ?_
  exact b_Mod_readModrm_54 hX (Or.inl rfl)  hK
def f_Mod_readModrm_36 (σ : Sg) (x2 : Int32) (x3 : Int32) (y0 : Int32) : Sg := (bnd (up2 σ 15 13 y0) fun s1 => (if x2 = (0 : Int32) then (if x3 = (6 : Int32) then (f_Mod_readModrm_54 s1 x2 x3 (1 : Int32)) else (f_Mod_readModrm_53 s1 x2 x3)) else (f_Mod_readModrm_53 s1 x2 x3)))
abbrev w_Mod_readModrm_36 : List (Nat × Option Nat) := [(15, some 3), (15, some 13), (15, some 14), (15, some 15)]
theorem p_Mod_readModrm_36 {P : Sg → Prop} (hP : WP w_Mod_readModrm_36 P) {σ : Sg} {x2 : Int32} {x3 : Int32} {y0 : Int32} (h : P σ) : P (f_Mod_readModrm_36 σ x2 x3 y0) := by
  unfold f_Mod_readModrm_36
  refine bnd_zz (Z := P) (hP _ _ _ _ (Or.inr (by decide)) h) fun s1 e1 q1 => ?_
  refine ite_z (fun _ => ?_) (fun _ => ?_)
  · refine ite_z (fun _ => ?_) (fun _ => ?_)
    · exact p_Mod_readModrm_54 (wsub hP rfl) q1
    · exact p_Mod_readModrm_53 (wsub hP rfl) q1
  · exact p_Mod_readModrm_53 (wsub hP rfl) q1
set_option maxRecDepth 100000 in
set_option maxHeartbeats 4000000 in
theorem b_Mod_readModrm_36 {l : Launch} {ad : Nat → Nat} {D : va_G} {cI : ClassId} {K : Option Value → Sg → Prop} {X : Nat → List Value → List Value → Sg → Prop} (hX : Cl l ad D cI mi_Mod_readModrm pt_Mod K X) {σ : Sg} {x2 : Int32} {x3 : Int32} {y0 : Int32}   (hK : KV K (f_Mod_readModrm_36 σ x2 x3 y0)) : X 36 [.ref 15, .null, .int x2, .int x3, .null, .null, .null, .null, .null] [.int y0, .ref 15] σ := by
  unfold f_Mod_readModrm_36 at hK
  refine hX.1 53 I_Mod_readModrm_36 ok_Mod_readModrm_36 _ _ _ ?_
  refine And.intro trivial (SG_g hK fun s1 e1 hK => ?_)
  refine And.intro (fun h2 => ?_) (fun h2 => ?_)
  · have hK := ite_p hK h2
    refine And.intro (fun h3 => ?_) (fun h3 => ?_)
    · have hK := ite_p hK h3
      exact b_Mod_readModrm_54 hX (Or.inr rfl)  hK
    · have hK := ite_n hK h3
      exact b_Mod_readModrm_53 hX  hK
  · have hK := ite_n hK h2
    exact b_Mod_readModrm_53 hX  hK
def f_Mod_readModrm (σ : Sg)  : Sg := (bnd (f_Mod_next σ) fun r1 => bnd (up2 r1.2 15 12 ((r1.1 >>> ((3 : Int32) &&& 31 : Int32)) &&& (7 : Int32))) fun s2 => (if (r1.1 >>> ((6 : Int32) &&& 31 : Int32)) = (3 : Int32) then (f_Mod_readModrm_36 s2 (r1.1 >>> ((6 : Int32) &&& 31 : Int32)) (r1.1 &&& (7 : Int32)) (r1.1 &&& (7 : Int32))) else (f_Mod_readModrm_36 s2 (r1.1 >>> ((6 : Int32) &&& 31 : Int32)) (r1.1 &&& (7 : Int32)) (-1 : Int32))))
abbrev w_Mod_readModrm : List (Nat × Option Nat) := [(15, some 3), (15, some 12), (15, some 13), (15, some 14), (15, some 15)]
theorem p_Mod_readModrm {P : Sg → Prop} (hP : WP w_Mod_readModrm P) {σ : Sg}  (h : P σ) : P (f_Mod_readModrm σ ) := by
  unfold f_Mod_readModrm
  refine bnd_zz (Z := PP P) (p_Mod_next (wsub hP rfl) h) fun r1 e1 q1 => ?_
  refine bnd_zz (Z := P) (hP _ _ _ _ (Or.inr (by decide)) q1) fun s2 e2 q2 => ?_
  refine ite_z (fun _ => ?_) (fun _ => ?_)
  · exact p_Mod_readModrm_36 (wsub hP rfl) q2
  · exact p_Mod_readModrm_36 (wsub hP rfl) q2
set_option maxRecDepth 100000 in
set_option maxHeartbeats 4000000 in
theorem s_Mod_readModrm {l : Launch} {ad : Nat → Nat} {D : va_G} {cI : ClassId} {σ : Sg}  {K : Option Value → Sg → Prop}   (hK : KV K (f_Mod_readModrm σ )) : MetJ l ad D cI mi_Mod_readModrm [.ref 15] σ K := by
  refine met_of mi_Mod_readModrm pt_Mod pt_Mod_in rfl pl_Mod rfl (Nat.le_of_ble_eq_true rfl) fun X hX => ?_
  have hX : Cl l ad D cI mi_Mod_readModrm pt_Mod K X := hX
  show X 0 [.ref 15, .null, .null, .null, .null, .null, .null, .null, .null] [] σ
  unfold f_Mod_readModrm at hK
  refine hX.1 35 I_Mod_readModrm_0 ok_Mod_readModrm_0 _ _ _ ?_
  refine s_Mod_next (bnd_g hK fun r1 e1 hK => ?_)
  refine And.intro trivial (SG_g hK fun s2 e2 hK => ?_)
  refine And.intro (fun h3 => ?_) (fun h3 => ?_)
  · have hK := ite_p hK h3
    refine hX.fg [1] ?_
    exact b_Mod_readModrm_36 hX  hK
  · have hK := ite_n hK h3
    refine hX.1 36 I_Mod_readModrm_35 ok_Mod_readModrm_35 _ _ _ ?_
    refine hX.fg [1] ?_
    exact b_Mod_readModrm_36 hX  hK
theorem g_244 {σ : Sg} {x7 x8 y0 : Int32} (h : OV σ) : EG (f_Mod_readModrm_244 σ x7 x8 y0) := by
  unfold f_Mod_readModrm_244
  refine bnd_zz (Z := OV) (OVw (W := [(15, some 14)]) rfl _ _ _ _ (Or.inr (by decide)) h) fun s1 e1 h1 => ?_
  refine ite_z (fun h2 => ite_z (fun _ => ?_) (fun _ => ?_)) (fun h2 => ?_)
  · refine bnd_z fun s4 e4 => ?_
    rw [← e4]
    exact (vin (by decide) : vp_in (3 : Int32) 4)
  · refine bnd_z fun s4 e4 => ?_
    rw [← e4]
    exact (vin (by decide) : vp_in (2 : Int32) 4)
  · refine bnd_z fun s4 e4 => ?_
    rw [← e4]
    exact OV_in h1 h2
theorem g_227 {σ : Sg} {x4 : Int32} {x5 : Int32} {x6 : Int32} {x7 : Int32} {y0 : Int32} (h : OV σ) : EG (f_Mod_readModrm_227 σ x4 x5 x6 x7 y0) := by
  unfold f_Mod_readModrm_227
  refine ite_z (fun _ => ?_) (fun _ => ?_)
  · exact g_244 h
  · exact g_244 h
theorem g_222 {σ : Sg} {x4 : Int32} {x5 : Int32} {x6 : Int32} {x7 : Int32} (h : OV σ) : EG (f_Mod_readModrm_222 σ x4 x5 x6 x7) := by
  unfold f_Mod_readModrm_222
  exact g_227 h
theorem g_226 {σ : Sg} {x4 : Int32} {x5 : Int32} {x6 : Int32} {x7 : Int32} (h : OV σ) : EG (f_Mod_readModrm_226 σ x4 x5 x6 x7) := by
  unfold f_Mod_readModrm_226
  exact g_227 h
theorem g_199 {σ : Sg} {x3 : Int32} {x4 : Int32} {x5 : Int32} {x6 : Int32} {y0 : Int32} (h : OV σ) : EG (f_Mod_readModrm_199 σ x3 x4 x5 x6 y0) := by
  unfold f_Mod_readModrm_199
  refine ite_z (fun _ => ?_) (fun _ => ?_)
  · refine ite_z (fun _ => ?_) (fun _ => ?_)
    · exact g_222 h
    · refine ite_z (fun _ => ?_) (fun _ => ?_)
      · exact g_222 h
      · refine ite_z (fun _ => ?_) (fun _ => ?_)
        · exact g_222 h
        · exact g_226 h
  · exact g_226 h
theorem g_179 {σ : Sg} {x3 : Int32} {x4 : Int32} {x5 : Int32} {x6 : Int32} (h : OV σ) : EG (f_Mod_readModrm_179 σ x3 x4 x5 x6) := by
  unfold f_Mod_readModrm_179
  refine bnd_zz (Z := PP OV) (p_Mod_nextWord (P := OV) (OVw rfl) h) fun r1 e1 q1 => ?_
  exact g_199 q1
theorem g_158 {σ : Sg} {x2 : Int32} {x3 : Int32} {x4 : Int32} {x5 : Int32} {y0 : Int32} (h : OV σ) : EG (f_Mod_readModrm_158 σ x2 x3 x4 x5 y0) := by
  unfold f_Mod_readModrm_158
  refine ite_z (fun _ => ?_) (fun _ => ?_)
  · exact g_199 h
  · refine ite_z (fun _ => ?_) (fun _ => ?_)
    · refine ite_z (fun _ => ?_) (fun _ => ?_)
      · exact g_179 h
      · refine ite_z (fun _ => ?_) (fun _ => ?_)
        · refine bnd_zz (Z := PP OV) (p_Mod_nextSigned (P := OV) (OVw rfl) h) fun r5 e5 q5 => ?_
          exact g_199 q5
        · exact g_199 h
    · exact g_179 h
theorem g_122 {σ : Sg} {x2 : Int32} {x3 : Int32} {x4 : Int32} {x5 : Int32} (h : OV σ) : EG (f_Mod_readModrm_122 σ x2 x3 x4 x5) := by
  unfold f_Mod_readModrm_122
  exact g_158 h
theorem g_147 {σ : Sg} {x2 : Int32} {x3 : Int32} {x4 : Int32} {x5 : Int32} (h : OV σ) : EG (f_Mod_readModrm_147 σ x2 x3 x4 x5) := by
  unfold f_Mod_readModrm_147
  exact g_158 h
theorem g_106 {σ : Sg} {x2 : Int32} {x3 : Int32} {x4 : Int32} {y0 : Int32} (h : OV σ) : EG (f_Mod_readModrm_106 σ x2 x3 x4 y0) := by
  unfold f_Mod_readModrm_106
  refine ite_z (fun _ => ?_) (fun _ => ?_)
  · exact g_122 h
  · refine ite_z (fun _ => ?_) (fun _ => ?_)
    · exact g_122 h
    · refine ite_z (fun _ => ?_) (fun _ => ?_)
      · exact g_122 h
      · refine ite_z (fun _ => ?_) (fun _ => ?_)
        · exact g_147 h
        · refine ite_z (fun _ => ?_) (fun _ => ?_)
          · exact g_147 h
          · refine ite_z (fun _ => ?_) (fun _ => ?_)
            · exact g_147 h
            · exact g_158 h
theorem g_71 {σ : Sg} {x2 : Int32} {x3 : Int32} {x4 : Int32} (h : OV σ) : EG (f_Mod_readModrm_71 σ x2 x3 x4) := by
  unfold f_Mod_readModrm_71
  exact g_106 h
theorem g_96 {σ : Sg} {x2 : Int32} {x3 : Int32} {x4 : Int32} (h : OV σ) : EG (f_Mod_readModrm_96 σ x2 x3 x4) := by
  unfold f_Mod_readModrm_96
  exact g_106 h
theorem g_54 {σ : Sg} {x2 : Int32} {x3 : Int32} {y0 : Int32} (h : OV σ) : EG (f_Mod_readModrm_54 σ x2 x3 y0) := by
  unfold f_Mod_readModrm_54
  refine ite_z (fun _ => ?_) (fun _ => ?_)
  · exact g_71 h
  · refine ite_z (fun _ => ?_) (fun _ => ?_)
    · exact g_71 h
    · refine ite_z (fun _ => ?_) (fun _ => ?_)
      · exact g_71 h
      · refine ite_z (fun _ => ?_) (fun _ => ?_)
        · exact g_96 h
        · refine ite_z (fun _ => ?_) (fun _ => ?_)
          · exact g_96 h
          · refine ite_z (fun _ => ?_) (fun _ => ?_)
            · exact g_96 h
            · exact g_106 h
theorem g_53 {σ : Sg} {x2 : Int32} {x3 : Int32} (h : OV σ) : EG (f_Mod_readModrm_53 σ x2 x3) := by
  unfold f_Mod_readModrm_53
  exact g_54 h
theorem ek_36 {σ : Sg} {x2 x3 y0 : Int32} (h : OV σ) (hy : vp_in y0 8 ∨ y0 < 0) : EK (f_Mod_readModrm_36 σ x2 x3 y0) := by
  unfold f_Mod_readModrm_36
  refine bnd_z fun s1 e1 => ?_
  have h1 : OV s1 := by rw [← e1]; exact OVw (W := [(15, some 13)]) rfl _ _ _ _ (Or.inr (by decide)) h
  have hy : vp_in (s1 15 13) 8 ∨ s1 15 13 < 0 := by rw [← e1]; exact hy
  have k54 : ∀ z, EK (f_Mod_readModrm_54 s1 x2 x3 z) := fun z => by
    rcases hy with hy | hy
    · exact Or.inl (p_Mod_readModrm_54 (P := fun s => vp_in (s 15 13) 8) (WP_at (R := fun z => vp_in z 8) rfl) hy)
    · exact Or.inr ⟨p_Mod_readModrm_54 (P := fun s => s 15 13 < 0) (WP_at (R := fun z => z < 0) rfl) hy, g_54 h1⟩
  exact ite_z (fun _ => ite_z (fun _ => k54 _) (fun _ => k54 _)) (fun _ => k54 _)
theorem rm_EK {σ : Sg} (h : OV σ) : EK (f_Mod_readModrm σ) := by
  unfold f_Mod_readModrm
  refine bnd_zz (Z := PP OV) (p_Mod_next (P := OV) (OVw rfl) h) fun r1 e1 h1 => ?_
  refine bnd_zz (Z := OV) (OVw (W := [(15, some 12)]) rfl _ _ _ _ (Or.inr (by decide)) h1) fun s2 e2 h2 => ?_
  exact ite_z (fun _ => ek_36 h2 (Or.inl (pk_andIn _ 3 rfl (by decide)))) (fun _ => ek_36 h2 (Or.inr (by decide)))
theorem rm_MK {σ : Sg} : MK (f_Mod_readModrm σ) := by
  unfold f_Mod_readModrm
  refine bnd_z fun r1 e1 => ?_
  refine bnd_z fun s2 e2 => ?_
  have h2 : MK s2 := by rw [← e2]; exact (pk_andIn _ 3 rfl (by decide) : vp_in ((r1.1 >>> ((3 : Int32) &&& 31)) &&& 7) 8)
  exact ite_z (fun _ => p_Mod_readModrm_36 (P := MK) (MKw rfl) h2) (fun _ => p_Mod_readModrm_36 (P := MK) (MKw rfl) h2)
