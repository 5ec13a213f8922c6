def I_Pro_push_0 : List IT := [(0, .aload_n 0, 1, 0, 0, []), (1, .getfield 13, 3, 0, 0, []), (4, .getfield 166, 3, 0, 0, []), (7, .iconst 4, 1, 4, 0, []), (8, .iaload, 1, 0, 0, []), (9, .iconst 2, 1, 2, 0, []), (10, .isub, 1, 0, 0, []), (11, .ldc 155, 2, 65535, 0, []), (13, .iand, 1, 0, 0, []), (14, .istore_n 2, 1, 0, 0, []), (15, .aload_n 0, 1, 0, 0, []), (16, .getfield 13, 3, 0, 0, []), (19, .getfield 166, 3, 0, 0, []), (22, .iconst 4, 1, 4, 0, []), (23, .iload_n 2, 1, 0, 0, []), (24, .iastore, 1, 0, 0, []), (25, .aload_n 0, 1, 0, 0, []), (26, .getfield 7, 3, 0, 0, []), (29, .aload_n 0, 1, 0, 0, []), (30, .getfield 13, 3, 0, 0, []), (33, .getfield 156, 3, 0, 0, []), (36, .iconst 2, 1, 2, 0, []), (37, .iaload, 1, 0, 0, []), (38, .iload_n 2, 1, 0, 0, []), (39, .iconst 1, 1, 1, 0, []), (40, .iload_n 1, 1, 0, 0, []), (41, .invokevirtual 206, 3, 0, 0, []), (44, .return_, 1, 0, 0, [])]
theorem ok_Pro_push_0 : blkOK b_Pro_push pt_Pro 45 I_Pro_push_0 = true := by decide +kernel
def f_Pro_push (σ : Sg) (a1 : Int32) : Sg := (bnd (up2 σ 4 (Int32.toNatClampNeg (4 : Int32)) (((σ 4 (Int32.toNatClampNeg (4 : Int32))) - (2 : Int32)) &&& (65535 : Int32))) fun s1 => bnd (f_Mem_store s1 (s1 5 (Int32.toNatClampNeg (2 : Int32))) (((σ 4 (Int32.toNatClampNeg (4 : Int32))) - (2 : Int32)) &&& (65535 : Int32)) (1 : Int32) a1) fun r2 => r2)
abbrev w_Pro_push : List (Nat × Option Nat) := [(2, none), (4, none)]
theorem p_Pro_push {P : Sg → Prop} (hP : WP w_Pro_push P) {σ : Sg} {a1 : Int32} (h : P σ) : P (f_Pro_push σ a1) := by
  unfold f_Pro_push
  refine bnd_zz (Z := P) (hP _ _ _ _ (Or.inl (by decide)) h) fun s1 e1 q1 => ?_
  refine bnd_zz (Z := P) (p_Mem_store (wsub hP rfl) q1) fun r2 e2 q2 => ?_
  exact q2
set_option maxRecDepth 100000 in
set_option maxHeartbeats 4000000 in
theorem s_Pro_push {l : Launch} {ad : Nat → Nat} {D : va_G} {cI : ClassId} {σ : Sg} {a1 : Int32} {K : Option Value → Sg → Prop}   (hK : KV K (f_Pro_push σ a1)) : MetJ l ad D cI mi_Pro_push [.ref 12, .int a1] σ K := by
  refine met_of mi_Pro_push pt_Pro pt_Pro_in rfl pl_Pro rfl (Nat.le_of_ble_eq_true rfl) fun X hX => ?_
  have hX : Cl l ad D cI mi_Pro_push pt_Pro K X := hX
  show X 0 [.ref 12, .int a1, .null] [] σ
  unfold f_Pro_push at hK
  refine hX.1 45 I_Pro_push_0 ok_Pro_push_0 _ _ _ ?_
  refine And.intro (vin (by decide)) ?_
  refine And.intro (vin (by decide)) (SG_g hK fun s1 e1 hK => ?_)
  refine And.intro (vin (by decide)) ?_
  refine s_Mem_store (bnd_g hK fun r2 e2 hK => ?_)
  exact hK
def I_Pro_interrupt_0 : List IT := [(0, .aload_n 0, 1, 0, 0, []), (1, .aload_n 0, 1, 0, 0, []), (2, .getfield 17, 3, 0, 0, []), (5, .getfield 216, 3, 0, 0, []), (8, .invokevirtual 160, 3, 0, 0, []), (11, .aload_n 0, 1, 0, 0, []), (12, .aload_n 0, 1, 0, 0, []), (13, .getfield 13, 3, 0, 0, []), (16, .getfield 156, 3, 0, 0, []), (19, .iconst 1, 1, 1, 0, []), (20, .iaload, 1, 0, 0, []), (21, .invokevirtual 160, 3, 0, 0, []), (24, .aload_n 0, 1, 0, 0, []), (25, .aload_n 0, 1, 0, 0, []), (26, .getfield 13, 3, 0, 0, []), (29, .getfield 78, 3, 0, 0, []), (32, .invokevirtual 160, 3, 0, 0, []), (35, .aload_n 0, 1, 0, 0, []), (36, .getfield 17, 3, 0, 0, []), (39, .sipush 512, 3, 512, 0, []), (42, .iconst 0, 1, 0, 0, []), (43, .invokevirtual 247, 3, 0, 0, []), (46, .iconst 4, 1, 4, 0, []), (47, .iload_n 1, 1, 0, 0, []), (48, .bipush 15, 2, 15, 0, []), (50, .iand, 1, 0, 0, []), (51, .imul, 1, 0, 0, []), (52, .istore_n 2, 1, 0, 0, []), (53, .aload_n 0, 1, 0, 0, []), (54, .getfield 13, 3, 0, 0, []), (57, .aload_n 0, 1, 0, 0, []), (58, .getfield 7, 3, 0, 0, []), (61, .iconst 0, 1, 0, 0, []), (62, .iload_n 2, 1, 0, 0, []), (63, .iconst 1, 1, 1, 0, []), (64, .invokevirtual 200, 3, 0, 0, []), (67, .putfield 78, 3, 0, 0, []), (70, .aload_n 0, 1, 0, 0, []), (71, .getfield 13, 3, 0, 0, []), (74, .getfield 156, 3, 0, 0, []), (77, .iconst 1, 1, 1, 0, []), (78, .aload_n 0, 1, 0, 0, []), (79, .getfield 7, 3, 0, 0, []), (82, .iconst 0, 1, 0, 0, []), (83, .iload_n 2, 1, 0, 0, []), (84, .iconst 2, 1, 2, 0, []), (85, .iadd, 1, 0, 0, []), (86, .iconst 1, 1, 1, 0, []), (87, .invokevirtual 200, 3, 0, 0, []), (90, .iastore, 1, 0, 0, []), (91, .aload_n 0, 1, 0, 0, []), (92, .dup, 1, 0, 0, []), (93, .getfield 252, 3, 0, 0, []), (96, .iconst 1, 1, 1, 0, []), (97, .iadd, 1, 0, 0, []), (98, .putfield 252, 3, 0, 0, []), (101, .return_, 1, 0, 0, [])]
theorem ok_Pro_interrupt_0 : blkOK b_Pro_interrupt pt_Pro 102 I_Pro_interrupt_0 = true := by decide +kernel
def f_Pro_interrupt (σ : Sg) (a1 : Int32) : Sg := (bnd (f_Pro_push σ (σ 6 0)) fun r1 => bnd (f_Pro_push r1 (r1 5 (Int32.toNatClampNeg (1 : Int32)))) fun r2 => bnd (f_Pro_push r2 (r2 3 2)) fun r3 => bnd (f_Fla_set r3 (512 : Int32) (0 : Int32)) fun r4 => bnd (f_Mem_fetch r4 (0 : Int32) ((4 : Int32) * (a1 &&& (15 : Int32))) (1 : Int32)) fun r5 => bnd (up2 r5.2 3 2 r5.1) fun s6 => bnd (f_Mem_fetch s6 (0 : Int32) (((4 : Int32) * (a1 &&& (15 : Int32))) + (2 : Int32)) (1 : Int32)) fun r7 => bnd (up2 r7.2 5 (Int32.toNatClampNeg (1 : Int32)) r7.1) fun s8 => bnd (up2 s8 12 7 ((s8 12 7) + (1 : Int32))) fun s9 => s9)
abbrev w_Pro_interrupt : List (Nat × Option Nat) := [(2, none), (3, some 2), (4, none), (5, none), (6, some 0), (12, some 7)]
theorem p_Pro_interrupt {P : Sg → Prop} (hP : WP w_Pro_interrupt P) {σ : Sg} {a1 : Int32} (h : P σ) : P (f_Pro_interrupt σ a1) := by
  unfold f_Pro_interrupt
  refine bnd_zz (Z := P) (p_Pro_push (wsub hP rfl) h) fun r1 e1 q1 => ?_
  refine bnd_zz (Z := P) (p_Pro_push (wsub hP rfl) q1) fun r2 e2 q2 => ?_
  refine bnd_zz (Z := P) (p_Pro_push (wsub hP rfl) q2) fun r3 e3 q3 => ?_
  refine bnd_zz (Z := P) (p_Fla_set (wsub hP rfl) q3) fun r4 e4 q4 => ?_
  refine bnd_zz (Z := PP P) (p_Mem_fetch (wsub hP rfl) q4) fun r5 e5 q5 => ?_
  refine bnd_zz (Z := P) (hP _ _ _ _ (Or.inr (by decide)) q5) fun s6 e6 q6 => ?_
  refine bnd_zz (Z := PP P) (p_Mem_fetch (wsub hP rfl) q6) fun r7 e7 q7 => ?_
  refine bnd_zz (Z := P) (hP _ _ _ _ (Or.inl (by decide)) q7) fun s8 e8 q8 => ?_
  refine bnd_zz (Z := P) (hP _ _ _ _ (Or.inr (by decide)) q8) fun s9 e9 q9 => ?_
  exact q9
set_option maxRecDepth 100000 in
set_option maxHeartbeats 4000000 in
theorem s_Pro_interrupt {l : Launch} {ad : Nat → Nat} {D : va_G} {cI : ClassId} {σ : Sg} {a1 : Int32} {K : Option Value → Sg → Prop}   (hK : KV K (f_Pro_interrupt σ a1)) : MetJ l ad D cI mi_Pro_interrupt [.ref 12, .int a1] σ K := by
  refine met_of mi_Pro_interrupt pt_Pro pt_Pro_in rfl pl_Pro rfl (Nat.le_of_ble_eq_true rfl) fun X hX => ?_
  have hX : Cl l ad D cI mi_Pro_interrupt pt_Pro K X := hX
  show X 0 [.ref 12, .int a1, .null] [] σ
  unfold f_Pro_interrupt at hK
  refine hX.1 102 I_Pro_interrupt_0 ok_Pro_interrupt_0 _ _ _ ?_
  refine s_Pro_push (bnd_g hK fun r1 e1 hK => ?_)
  refine And.intro (vin (by decide)) ?_
  refine s_Pro_push (bnd_g hK fun r2 e2 hK => ?_)
  refine s_Pro_push (bnd_g hK fun r3 e3 hK => ?_)
  refine s_Fla_set (bnd_g hK fun r4 e4 hK => ?_)
  refine s_Mem_fetch (bnd_g hK fun r5 e5 hK => ?_)
  refine And.intro trivial (SG_g hK fun s6 e6 hK => ?_)
  refine s_Mem_fetch (bnd_g hK fun r7 e7 hK => ?_)
  refine And.intro (vin (by decide)) (SG_g hK fun s8 e8 hK => ?_)
  refine And.intro trivial (SG_g hK fun s9 e9 hK => ?_)
  exact hK
def I_Pro_combine_0 : List IT := [(0, .iload_n 1, 1, 0, 0, []), (1, .iconst 3, 1, 3, 0, []), (2, .ishr, 1, 0, 0, []), (3, .istore_n 2, 1, 0, 0, []), (4, .iload_n 1, 1, 0, 0, []), (5, .iconst 1, 1, 1, 0, []), (6, .iand, 1, 0, 0, []), (7, .iconst 1, 1, 1, 0, []), (8, .if_icmp .ne 7, 3, 0, 15, []), (11, .iconst 1, 1, 1, 0, []), (12, .goto 4, 3, 0, 16, [])]
theorem ok_Pro_combine_0 : blkOK b_Pro_combine pt_Pro 15 I_Pro_combine_0 = true := by decide +kernel
def I_Pro_combine_15 : List IT := [(15, .iconst 0, 1, 0, 0, [])]
theorem ok_Pro_combine_15 : blkOK b_Pro_combine pt_Pro 16 I_Pro_combine_15 = true := by decide +kernel
def I_Pro_combine_16 : List IT := [(16, .istore_n 3, 1, 0, 0, []), (17, .iload_n 1, 1, 0, 0, []), (18, .iconst 4, 1, 4, 0, []), (19, .iand, 1, 0, 0, []), (20, .ifCond .eq 44, 3, 0, 64, []), (23, .aload_n 0, 1, 0, 0, []), (24, .getfield 34, 3, 0, 0, []), (27, .iload_n 3, 1, 0, 0, []), (28, .invokevirtual 126, 3, 0, 0, []), (31, .istore 4, 2, 0, 0, []), (33, .aload_n 0, 1, 0, 0, []), (34, .getfield 13, 3, 0, 0, []), (37, .iconst 0, 1, 0, 0, []), (38, .iload_n 3, 1, 0, 0, []), (39, .aload_n 0, 1, 0, 0, []), (40, .getfield 17, 3, 0, 0, []), (43, .iload_n 2, 1, 0, 0, []), (44, .aload_n 0, 1, 0, 0, []), (45, .getfield 13, 3, 0, 0, []), (48, .iconst 0, 1, 0, 0, []), (49, .iload_n 3, 1, 0, 0, []), (50, .invokevirtual 130, 3, 0, 0, []), (53, .iload 4, 2, 0, 0, []), (55, .iload_n 3, 1, 0, 0, []), (56, .invokevirtual 134, 3, 0, 0, []), (59, .invokevirtual 137, 3, 0, 0, []), (62, .iconst 1, 1, 1, 0, []), (63, .ireturn, 1, 0, 0, [])]
theorem ok_Pro_combine_16 : blkOK b_Pro_combine pt_Pro 64 I_Pro_combine_16 = true := by decide +kernel
def I_Pro_combine_64 : List IT := [(64, .aload_n 0, 1, 0, 0, []), (65, .getfield 34, 3, 0, 0, []), (68, .iload_n 3, 1, 0, 0, []), (69, .invokevirtual 141, 3, 0, 0, []), (72, .aload_n 0, 1, 0, 0, []), (73, .getfield 34, 3, 0, 0, []), (76, .invokevirtual 145, 3, 0, 0, []), (79, .istore 4, 2, 0, 0, []), (81, .aload_n 0, 1, 0, 0, []), (82, .getfield 13, 3, 0, 0, []), (85, .aload_n 0, 1, 0, 0, []), (86, .getfield 34, 3, 0, 0, []), (89, .getfield 147, 3, 0, 0, []), (92, .iload_n 3, 1, 0, 0, []), (93, .invokevirtual 130, 3, 0, 0, []), (96, .istore 5, 2, 0, 0, []), (98, .iload_n 1, 1, 0, 0, []), (99, .iconst 2, 1, 2, 0, []), (100, .iand, 1, 0, 0, []), (101, .ifCond .ne 26, 3, 0, 127, []), (104, .aload_n 0, 1, 0, 0, []), (105, .getfield 34, 3, 0, 0, []), (108, .aload_n 0, 1, 0, 0, []), (109, .getfield 17, 3, 0, 0, []), (112, .iload_n 2, 1, 0, 0, []), (113, .iload 4, 2, 0, 0, []), (115, .iload 5, 2, 0, 0, []), (117, .iload_n 3, 1, 0, 0, []), (118, .invokevirtual 134, 3, 0, 0, []), (121, .invokevirtual 150, 3, 0, 0, []), (124, .goto 31, 3, 0, 155, [])]
theorem ok_Pro_combine_64 : blkOK b_Pro_combine pt_Pro 127 I_Pro_combine_64 = true := by decide +kernel
def I_Pro_combine_127 : List IT := [(127, .aload_n 0, 1, 0, 0, []), (128, .getfield 13, 3, 0, 0, []), (131, .aload_n 0, 1, 0, 0, []), (132, .getfield 34, 3, 0, 0, []), (135, .getfield 147, 3, 0, 0, []), (138, .iload_n 3, 1, 0, 0, []), (139, .aload_n 0, 1, 0, 0, []), (140, .getfield 17, 3, 0, 0, []), (143, .iload_n 2, 1, 0, 0, []), (144, .iload 5, 2, 0, 0, []), (146, .iload 4, 2, 0, 0, []), (148, .iload_n 3, 1, 0, 0, []), (149, .invokevirtual 134, 3, 0, 0, []), (152, .invokevirtual 137, 3, 0, 0, [])]
theorem ok_Pro_combine_127 : blkOK b_Pro_combine pt_Pro 155 I_Pro_combine_127 = true := by decide +kernel
def I_Pro_combine_155 : List IT := [(155, .iconst 1, 1, 1, 0, []), (156, .ireturn, 1, 0, 0, [])]
theorem ok_Pro_combine_155 : blkOK b_Pro_combine pt_Pro 157 I_Pro_combine_155 = true := by decide +kernel
def f_Pro_combine_16 (σ : Sg) (x1 : Int32) (x2 : Int32) (y0 : Int32) : Int32 × Sg := (if (x1 &&& (4 : Int32)) = (0 : Int32) then (bnd (f_Dec_readModrm σ y0) fun r2 => bnd (f_Dec_value r2) fun r3 => bnd (f_Reg_value r3.2 (r3.2 14 5) y0) fun r4 => (if (x1 &&& (2 : Int32)) = (0 : Int32) then (bnd (f_Fla_combine r4.2 x2 r3.1 r4.1 y0) fun r6 => bnd (f_Dec_change r6.2 r6.1) fun r7 => ((1 : Int32), r7)) else (bnd (f_Fla_combine r4.2 x2 r4.1 r3.1 y0) fun r8 => bnd (f_Reg_change r8.2 (r4.2 14 5) y0 r8.1) fun r9 => ((1 : Int32), r9)))) else (bnd (f_Dec_nextOf σ y0) fun r10 => bnd (f_Reg_value r10.2 (0 : Int32) y0) fun r11 => bnd (f_Fla_combine r11.2 x2 r11.1 r10.1 y0) fun r12 => bnd (f_Reg_change r12.2 (0 : Int32) y0 r12.1) fun r13 => ((1 : Int32), r13)))
theorem z_Pro_combine_16 {σ : Sg} {x1 : Int32} {x2 : Int32} {y0 : Int32} (z_y0 : y0 = 0 ∨ y0 = 1)  : (f_Pro_combine_16 σ x1 x2 y0).1 = 0 ∨ (f_Pro_combine_16 σ x1 x2 y0).1 = 1 := by
  show Zb (f_Pro_combine_16 σ x1 x2 y0)
  unfold f_Pro_combine_16
  refine ite_z (fun h1 => ?_) (fun h1 => ?_)
  · refine bnd_z fun r2 e2 => ?_
    refine bnd_z fun r3 e3 => ?_
    refine bnd_z fun r4 e4 => ?_
    refine ite_z (fun h5 => ?_) (fun h5 => ?_)
    · refine bnd_z fun r6 e6 => ?_
      refine bnd_z fun r7 e7 => ?_
      exact (Or.inr rfl)
    · refine bnd_z fun r8 e8 => ?_
      refine bnd_z fun r9 e9 => ?_
      exact (Or.inr rfl)
  · refine bnd_z fun r10 e10 => ?_
    refine bnd_z fun r11 e11 => ?_
    refine bnd_z fun r12 e12 => ?_
    refine bnd_z fun r13 e13 => ?_
    exact (Or.inr rfl)
abbrev w_Pro_combine_16 : List (Nat × Option Nat) := [(2, none), (3, some 2), (4, none), (6, some 0), (14, some 5), (14, some 6), (14, some 7), (14, some 9), (14, some 10), (14, some 11)]
theorem p_Pro_combine_16 {P : Sg → Prop} (hP : WP w_Pro_combine_16 P) {σ : Sg} {x1 : Int32} {x2 : Int32} {y0 : Int32} (h : P σ) : PP P (f_Pro_combine_16 σ x1 x2 y0) := by
  unfold f_Pro_combine_16
  refine ite_z (fun _ => ?_) (fun _ => ?_)
  · refine bnd_zz (Z := P) (p_Dec_readModrm (wsub hP rfl) h) fun r2 e2 q2 => ?_
    refine bnd_zz (Z := PP P) (p_Dec_value (wsub hP rfl) q2) fun r3 e3 q3 => ?_
    refine bnd_zz (Z := PP P) (p_Reg_value (wsub hP rfl) q3) fun r4 e4 q4 => ?_
    refine ite_z (fun _ => ?_) (fun _ => ?_)
    · refine bnd_zz (Z := PP P) (p_Fla_combine (wsub hP rfl) q4) fun r6 e6 q6 => ?_
      refine bnd_zz (Z := P) (p_Dec_change (wsub hP rfl) q6) fun r7 e7 q7 => ?_
      exact q7
    · refine bnd_zz (Z := PP P) (p_Fla_combine (wsub hP rfl) q4) fun r8 e8 q8 => ?_
      refine bnd_zz (Z := P) (p_Reg_change (wsub hP rfl) q8) fun r9 e9 q9 => ?_
      exact q9
  · refine bnd_zz (Z := PP P) (p_Dec_nextOf (wsub hP rfl) h) fun r10 e10 q10 => ?_
    refine bnd_zz (Z := PP P) (p_Reg_value (wsub hP rfl) q10) fun r11 e11 q11 => ?_
    refine bnd_zz (Z := PP P) (p_Fla_combine (wsub hP rfl) q11) fun r12 e12 q12 => ?_
    refine bnd_zz (Z := P) (p_Reg_change (wsub hP rfl) q12) fun r13 e13 q13 => ?_
    exact q13
set_option maxRecDepth 100000 in
set_option maxHeartbeats 4000000 in
theorem b_Pro_combine_16 {l : Launch} {ad : Nat → Nat} {D : va_G} {cI : ClassId} {K : Option Value → Sg → Prop} {X : Nat → List Value → List Value → Sg → Prop} (hX : Cl l ad D cI mi_Pro_combine pt_Pro K X) {σ : Sg} {x1 : Int32} {x2 : Int32} {y0 : Int32} (z_y0 : y0 = 0 ∨ y0 = 1)  (hK : KI K (f_Pro_combine_16 σ x1 x2 y0)) : X 16 [.ref 12, .int x1, .int x2, .null, .null, .null] [.int y0] σ := by
  unfold f_Pro_combine_16 at hK
  refine hX.1 64 I_Pro_combine_16 ok_Pro_combine_16 _ _ _ ?_
  refine And.intro (fun h1 => ?_) (fun h1 => ?_)
  · have hK := ite_p hK h1
    refine hX.1 127 I_Pro_combine_64 ok_Pro_combine_64 _ _ _ ?_
    refine s_Dec_readModrm z_y0 (bnd_g hK fun r2 e2 hK => ?_)
    refine s_Dec_value (bnd_g hK fun r3 e3 hK => ?_)
    refine s_Reg_value (bnd_g hK fun r4 e4 hK => ?_)
    refine And.intro (fun h5 => ?_) (fun h5 => ?_)
    · have hK := ite_p hK h5
      refine s_Fla_combine (bnd_g hK fun r6 e6 hK => ?_)
      refine s_Dec_change (bnd_g hK fun r7 e7 hK => ?_)
      refine hX.1 157 I_Pro_combine_155 ok_Pro_combine_155 _ _ _ ?_
      exact And.intro (Or.inr rfl) hK
    · have hK := ite_n hK h5
      refine hX.1 155 I_Pro_combine_127 ok_Pro_combine_127 _ _ _ ?_
      refine s_Fla_combine (bnd_g hK fun r8 e8 hK => ?_)
      refine s_Reg_change (bnd_g hK fun r9 e9 hK => ?_)
      refine hX.1 157 I_Pro_combine_155 ok_Pro_combine_155 _ _ _ ?_
      exact And.intro (Or.inr rfl) hK
  · have hK := ite_n hK h1
    refine s_Dec_nextOf (bnd_g hK fun r10 e10 hK => ?_)
    refine s_Reg_value (bnd_g hK fun r11 e11 hK => ?_)
    refine s_Fla_combine (bnd_g hK fun r12 e12 hK => ?_)
    refine s_Reg_change (bnd_g hK fun r13 e13 hK => ?_)
    exact And.intro (Or.inr rfl) hK
def f_Pro_combine (σ : Sg) (a1 : Int32) : Int32 × Sg := (if (a1 &&& (1 : Int32)) = (1 : Int32) then (f_Pro_combine_16 σ a1 (a1 >>> ((3 : Int32) &&& 31 : Int32)) (1 : Int32)) else (f_Pro_combine_16 σ a1 (a1 >>> ((3 : Int32) &&& 31 : Int32)) (0 : Int32)))
theorem z_Pro_combine {σ : Sg} {a1 : Int32}   : (f_Pro_combine σ a1).1 = 0 ∨ (f_Pro_combine σ a1).1 = 1 := by
  show Zb (f_Pro_combine σ a1)
  unfold f_Pro_combine
  refine ite_z (fun h1 => ?_) (fun h1 => ?_)
  · exact z_Pro_combine_16 (Or.inr rfl)
  · exact z_Pro_combine_16 (Or.inl rfl)
abbrev w_Pro_combine : List (Nat × Option Nat) := [(2, none), (3, some 2), (4, none), (6, some 0), (14, some 5), (14, some 6), (14, some 7), (14, some 9), (14, some 10), (14, some 11)]
theorem p_Pro_combine {P : Sg → Prop} (hP : WP w_Pro_combine P) {σ : Sg} {a1 : Int32} (h : P σ) : PP P (f_Pro_combine σ a1) := by
  unfold f_Pro_combine
  refine ite_z (fun _ => ?_) (fun _ => ?_)
  · exact p_Pro_combine_16 (wsub hP rfl) h
  · exact p_Pro_combine_16 (wsub hP rfl) h
set_option maxRecDepth 100000 in
set_option maxHeartbeats 4000000 in
theorem s_Pro_combine {l : Launch} {ad : Nat → Nat} {D : va_G} {cI : ClassId} {σ : Sg} {a1 : Int32} {K : Option Value → Sg → Prop}   (hK : KI K (f_Pro_combine σ a1)) : MetJ l ad D cI mi_Pro_combine [.ref 12, .int a1] σ K := by
  refine met_of mi_Pro_combine pt_Pro pt_Pro_in rfl pl_Pro rfl (Nat.le_of_ble_eq_true rfl) fun X hX => ?_
  have hX : Cl l ad D cI mi_Pro_combine pt_Pro K X := hX
  show X 0 [.ref 12, .int a1, .null, .null, .null, .null] [] σ
  unfold f_Pro_combine at hK
  refine hX.1 15 I_Pro_combine_0 ok_Pro_combine_0 _ _ _ ?_
  refine And.intro (fun h1 => ?_) (fun h1 => ?_)
  · have hK := ite_p hK h1
    exact b_Pro_combine_16 hX (Or.inr rfl) hK
  · have hK := ite_n hK h1
    refine hX.1 16 I_Pro_combine_15 ok_Pro_combine_15 _ _ _ ?_
    exact b_Pro_combine_16 hX (Or.inl rfl) hK
def I_Pro_pop_0 : List IT := [(0, .aload_n 0, 1, 0, 0, []), (1, .getfield 13, 3, 0, 0, []), (4, .getfield 166, 3, 0, 0, []), (7, .iconst 4, 1, 4, 0, []), (8, .iaload, 1, 0, 0, []), (9, .istore_n 1, 1, 0, 0, []), (10, .aload_n 0, 1, 0, 0, []), (11, .getfield 13, 3, 0, 0, []), (14, .getfield 166, 3, 0, 0, []), (17, .iconst 4, 1, 4, 0, []), (18, .iload_n 1, 1, 0, 0, []), (19, .iconst 2, 1, 2, 0, []), (20, .iadd, 1, 0, 0, []), (21, .ldc 155, 2, 65535, 0, []), (23, .iand, 1, 0, 0, []), (24, .iastore, 1, 0, 0, []), (25, .aload_n 0, 1, 0, 0, []), (26, .getfield 7, 3, 0, 0, []), (29, .aload_n 0, 1, 0, 0, []), (30, .getfield 13, 3, 0, 0, []), (33, .getfield 156, 3, 0, 0, []), (36, .iconst 2, 1, 2, 0, []), (37, .iaload, 1, 0, 0, []), (38, .iload_n 1, 1, 0, 0, []), (39, .iconst 1, 1, 1, 0, []), (40, .invokevirtual 200, 3, 0, 0, []), (43, .ireturn, 1, 0, 0, [])]
theorem ok_Pro_pop_0 : blkOK b_Pro_pop pt_Pro 44 I_Pro_pop_0 = true := by decide +kernel
def f_Pro_pop (σ : Sg)  : Int32 × Sg := (bnd (up2 σ 4 (Int32.toNatClampNeg (4 : Int32)) (((σ 4 (Int32.toNatClampNeg (4 : Int32))) + (2 : Int32)) &&& (65535 : Int32))) fun s1 => bnd (f_Mem_fetch s1 (s1 5 (Int32.toNatClampNeg (2 : Int32))) (σ 4 (Int32.toNatClampNeg (4 : Int32))) (1 : Int32)) fun r2 => (r2.1, r2.2))
abbrev w_Pro_pop : List (Nat × Option Nat) := [(4, none)]
theorem p_Pro_pop {P : Sg → Prop} (hP : WP w_Pro_pop P) {σ : Sg}  (h : P σ) : PP P (f_Pro_pop σ ) := by
  unfold f_Pro_pop
  refine bnd_zz (Z := P) (hP _ _ _ _ (Or.inl (by decide)) h) fun s1 e1 q1 => ?_
  refine bnd_zz (Z := PP P) (p_Mem_fetch (wsub hP rfl) q1) fun r2 e2 q2 => ?_
  exact q2
set_option maxRecDepth 100000 in
set_option maxHeartbeats 4000000 in
theorem s_Pro_pop {l : Launch} {ad : Nat → Nat} {D : va_G} {cI : ClassId} {σ : Sg}  {K : Option Value → Sg → Prop}   (hK : KI K (f_Pro_pop σ )) : MetJ l ad D cI mi_Pro_pop [.ref 12] σ K := by
  refine met_of mi_Pro_pop pt_Pro pt_Pro_in rfl pl_Pro rfl (Nat.le_of_ble_eq_true rfl) fun X hX => ?_
  have hX : Cl l ad D cI mi_Pro_pop pt_Pro K X := hX
  show X 0 [.ref 12, .null] [] σ
  unfold f_Pro_pop at hK
  refine hX.1 44 I_Pro_pop_0 ok_Pro_pop_0 _ _ _ ?_
  refine And.intro (vin (by decide)) ?_
  refine And.intro (vin (by decide)) (SG_g hK fun s1 e1 hK => ?_)
  refine And.intro (vin (by decide)) ?_
  refine s_Mem_fetch (bnd_g hK fun r2 e2 hK => ?_)
  exact hK
def I_Pro_segmentOnStack_0 : List IT := [(0, .iload_n 1, 1, 0, 0, []), (1, .iconst 3, 1, 3, 0, []), (2, .ishr, 1, 0, 0, []), (3, .istore_n 2, 1, 0, 0, []), (4, .iload_n 2, 1, 0, 0, []), (5, .iconst 3, 1, 3, 0, []), (6, .if_icmp .le 5, 3, 0, 11, []), (9, .iconst 0, 1, 0, 0, []), (10, .ireturn, 1, 0, 0, [])]
theorem ok_Pro_segmentOnStack_0 : blkOK b_Pro_segmentOnStack pt_Pro 11 I_Pro_segmentOnStack_0 = true := by decide +kernel
def I_Pro_segmentOnStack_11 : List IT := [(11, .iload_n 1, 1, 0, 0, []), (12, .iconst 1, 1, 1, 0, []), (13, .iand, 1, 0, 0, []), (14, .ifCond .ne 18, 3, 0, 32, []), (17, .aload_n 0, 1, 0, 0, []), (18, .aload_n 0, 1, 0, 0, []), (19, .getfield 13, 3, 0, 0, []), (22, .getfield 156, 3, 0, 0, []), (25, .iload_n 2, 1, 0, 0, []), (26, .iaload, 1, 0, 0, []), (27, .invokevirtual 160, 3, 0, 0, []), (30, .iconst 1, 1, 1, 0, []), (31, .ireturn, 1, 0, 0, [])]
theorem ok_Pro_segmentOnStack_11 : blkOK b_Pro_segmentOnStack pt_Pro 32 I_Pro_segmentOnStack_11 = true := by decide +kernel
def I_Pro_segmentOnStack_32 : List IT := [(32, .iload_n 2, 1, 0, 0, []), (33, .iconst 1, 1, 1, 0, []), (34, .if_icmp .ne 5, 3, 0, 39, []), (37, .iconst 0, 1, 0, 0, []), (38, .ireturn, 1, 0, 0, [])]
theorem ok_Pro_segmentOnStack_32 : blkOK b_Pro_segmentOnStack pt_Pro 39 I_Pro_segmentOnStack_32 = true := by decide +kernel
def I_Pro_segmentOnStack_39 : List IT := [(39, .aload_n 0, 1, 0, 0, []), (40, .getfield 13, 3, 0, 0, []), (43, .getfield 156, 3, 0, 0, []), (46, .iload_n 2, 1, 0, 0, []), (47, .aload_n 0, 1, 0, 0, []), (48, .invokevirtual 163, 3, 0, 0, []), (51, .iastore, 1, 0, 0, []), (52, .aload_n 0, 1, 0, 0, []), (53, .iload_n 2, 1, 0, 0, []), (54, .iconst 2, 1, 2, 0, []), (55, .if_icmp .ne 7, 3, 0, 62, []), (58, .iconst 1, 1, 1, 0, []), (59, .goto 4, 3, 0, 63, [])]
theorem ok_Pro_segmentOnStack_39 : blkOK b_Pro_segmentOnStack pt_Pro 62 I_Pro_segmentOnStack_39 = true := by decide +kernel
def I_Pro_segmentOnStack_62 : List IT := [(62, .iconst 0, 1, 0, 0, [])]
theorem ok_Pro_segmentOnStack_62 : blkOK b_Pro_segmentOnStack pt_Pro 63 I_Pro_segmentOnStack_62 = true := by decide +kernel
def I_Pro_segmentOnStack_63 : List IT := [(63, .putfield 44, 3, 0, 0, []), (66, .iconst 1, 1, 1, 0, []), (67, .ireturn, 1, 0, 0, [])]
theorem ok_Pro_segmentOnStack_63 : blkOK b_Pro_segmentOnStack pt_Pro 68 I_Pro_segmentOnStack_63 = true := by decide +kernel
def f_Pro_segmentOnStack (σ : Sg) (a1 : Int32) : Int32 × Sg := (if (a1 >>> ((3 : Int32) &&& 31 : Int32)) ≤ (3 : Int32) then (if (a1 &&& (1 : Int32)) = (0 : Int32) then (bnd (f_Pro_push σ (σ 5 (Int32.toNatClampNeg (a1 >>> ((3 : Int32) &&& 31 : Int32))))) fun r3 => ((1 : Int32), r3)) else (if (a1 >>> ((3 : Int32) &&& 31 : Int32)) = (1 : Int32) then ((0 : Int32), σ) else (bnd (f_Pro_pop σ) fun r5 => bnd (up2 r5.2 5 (Int32.toNatClampNeg (a1 >>> ((3 : Int32) &&& 31 : Int32))) r5.1) fun s6 => (if (a1 >>> ((3 : Int32) &&& 31 : Int32)) = (2 : Int32) then (bnd (up2 s6 12 8 (1 : Int32)) fun s8 => ((1 : Int32), s8)) else (bnd (up2 s6 12 8 (0 : Int32)) fun s9 => ((1 : Int32), s9)))))) else ((0 : Int32), σ))
theorem z_Pro_segmentOnStack {σ : Sg} {a1 : Int32}  (hc : ¬ a1 < 0) : (f_Pro_segmentOnStack σ a1).1 = 0 ∨ (f_Pro_segmentOnStack σ a1).1 = 1 := by
  show Zb (f_Pro_segmentOnStack σ a1)
  unfold f_Pro_segmentOnStack
  refine ite_z (fun h1 => ?_) (fun h1 => ?_)
  · refine ite_z (fun h2 => ?_) (fun h2 => ?_)
    · refine bnd_z fun r3 e3 => ?_
      exact (Or.inr rfl)
    · refine ite_z (fun h4 => ?_) (fun h4 => ?_)
      · exact (Or.inl rfl)
      · refine bnd_z fun r5 e5 => ?_
        refine bnd_z fun s6 e6 => ?_
        refine ite_z (fun h7 => ?_) (fun h7 => ?_)
        · refine bnd_z fun s8 e8 => ?_
          exact (Or.inr rfl)
        · refine bnd_z fun s9 e9 => ?_
          exact (Or.inr rfl)
  · exact (Or.inl rfl)
abbrev w_Pro_segmentOnStack : List (Nat × Option Nat) := [(2, none), (4, none), (5, none), (12, some 8)]
theorem p_Pro_segmentOnStack {P : Sg → Prop} (hP : WP w_Pro_segmentOnStack P) {σ : Sg} {a1 : Int32} (h : P σ) : PP P (f_Pro_segmentOnStack σ a1) := by
  unfold f_Pro_segmentOnStack
  refine ite_z (fun _ => ?_) (fun _ => ?_)
  · refine ite_z (fun _ => ?_) (fun _ => ?_)
    · refine bnd_zz (Z := P) (p_Pro_push (wsub hP rfl) h) fun r3 e3 q3 => ?_
      exact q3
    · refine ite_z (fun _ => ?_) (fun _ => ?_)
      · exact h
      · refine bnd_zz (Z := PP P) (p_Pro_pop (wsub hP rfl) h) fun r5 e5 q5 => ?_
        refine bnd_zz (Z := P) (hP _ _ _ _ (Or.inl (by decide)) q5) fun s6 e6 q6 => ?_
        refine ite_z (fun _ => ?_) (fun _ => ?_)
        · refine bnd_zz (Z := P) (hP _ _ _ _ (Or.inr (by decide)) q6) fun s8 e8 q8 => ?_
          exact q8
        · refine bnd_zz (Z := P) (hP _ _ _ _ (Or.inr (by decide)) q6) fun s9 e9 q9 => ?_
          exact q9
  · exact h
set_option maxRecDepth 100000 in
set_option maxHeartbeats 4000000 in
theorem s_Pro_segmentOnStack {l : Launch} {ad : Nat → Nat} {D : va_G} {cI : ClassId} {σ : Sg} {a1 : Int32} {K : Option Value → Sg → Prop}  (hc : ¬ a1 < 0) (hK : KI K (f_Pro_segmentOnStack σ a1)) : MetJ l ad D cI mi_Pro_segmentOnStack [.ref 12, .int a1] σ K := by
  refine met_of mi_Pro_segmentOnStack pt_Pro pt_Pro_in rfl pl_Pro rfl (Nat.le_of_ble_eq_true rfl) fun X hX => ?_
  have hX : Cl l ad D cI mi_Pro_segmentOnStack pt_Pro K X := hX
  show X 0 [.ref 12, .int a1, .null] [] σ
  unfold f_Pro_segmentOnStack at hK
  refine hX.1 11 I_Pro_segmentOnStack_0 ok_Pro_segmentOnStack_0 _ _ _ ?_
  refine And.intro (fun h1 => ?_) (fun h1 => ?_)
  · have hK := ite_p hK h1
    refine hX.1 32 I_Pro_segmentOnStack_11 ok_Pro_segmentOnStack_11 _ _ _ ?_
    refine And.intro (fun h2 => ?_) (fun h2 => ?_)
    · have hK := ite_p hK h2
      refine And.intro (vin_sh (m := 3) rfl rfl hc h1) ?_
      refine s_Pro_push (bnd_g hK fun r3 e3 hK => ?_)
      exact And.intro (Or.inr rfl) hK
    · have hK := ite_n hK h2
      refine hX.1 39 I_Pro_segmentOnStack_32 ok_Pro_segmentOnStack_32 _ _ _ ?_
      refine And.intro (fun h4 => ?_) (fun h4 => ?_)
      · have hK := ite_p hK h4
        exact And.intro (Or.inl rfl) hK
      · have hK := ite_n hK h4
        refine hX.1 62 I_Pro_segmentOnStack_39 ok_Pro_segmentOnStack_39 _ _ _ ?_
        refine s_Pro_pop (bnd_g hK fun r5 e5 hK => ?_)
        refine And.intro (vin_sh (m := 3) rfl rfl hc h1) (SG_g hK fun s6 e6 hK => ?_)
        refine And.intro (fun h7 => ?_) (fun h7 => ?_)
        · have hK := ite_p hK h7
          refine hX.1 68 I_Pro_segmentOnStack_63 ok_Pro_segmentOnStack_63 _ _ _ ?_
          refine And.intro (Or.inr rfl) (SG_g hK fun s8 e8 hK => ?_)
          exact And.intro (Or.inr rfl) hK
        · have hK := ite_n hK h7
          refine hX.1 63 I_Pro_segmentOnStack_62 ok_Pro_segmentOnStack_62 _ _ _ ?_
          refine hX.1 68 I_Pro_segmentOnStack_63 ok_Pro_segmentOnStack_63 _ _ _ ?_
          refine And.intro (Or.inl rfl) (SG_g hK fun s9 e9 hK => ?_)
          exact And.intro (Or.inr rfl) hK
  · have hK := ite_n hK h1
    exact And.intro (Or.inl rfl) hK
def I_Pro_countRegister_0 : List IT := [(0, .iload_n 1, 1, 0, 0, []), (1, .bipush 7, 2, 7, 0, []), (3, .iand, 1, 0, 0, []), (4, .istore_n 2, 1, 0, 0, []), (5, .aload_n 0, 1, 0, 0, []), (6, .getfield 13, 3, 0, 0, []), (9, .getfield 166, 3, 0, 0, []), (12, .iload_n 2, 1, 0, 0, []), (13, .iaload, 1, 0, 0, []), (14, .istore_n 3, 1, 0, 0, []), (15, .aload_n 0, 1, 0, 0, []), (16, .getfield 13, 3, 0, 0, []), (19, .getfield 166, 3, 0, 0, []), (22, .iload_n 2, 1, 0, 0, []), (23, .iload_n 1, 1, 0, 0, []), (24, .bipush 72, 2, 72, 0, []), (26, .if_icmp .ge 15, 3, 0, 41, []), (29, .aload_n 0, 1, 0, 0, []), (30, .getfield 17, 3, 0, 0, []), (33, .iload_n 3, 1, 0, 0, []), (34, .iconst 1, 1, 1, 0, []), (35, .invokevirtual 169, 3, 0, 0, []), (38, .goto 12, 3, 0, 50, [])]
theorem ok_Pro_countRegister_0 : blkOK b_Pro_countRegister pt_Pro 41 I_Pro_countRegister_0 = true := by decide +kernel
def I_Pro_countRegister_41 : List IT := [(41, .aload_n 0, 1, 0, 0, []), (42, .getfield 17, 3, 0, 0, []), (45, .iload_n 3, 1, 0, 0, []), (46, .iconst 1, 1, 1, 0, []), (47, .invokevirtual 172, 3, 0, 0, [])]
theorem ok_Pro_countRegister_41 : blkOK b_Pro_countRegister pt_Pro 50 I_Pro_countRegister_41 = true := by decide +kernel
def I_Pro_countRegister_50 : List IT := [(50, .iastore, 1, 0, 0, []), (51, .iconst 1, 1, 1, 0, []), (52, .ireturn, 1, 0, 0, [])]
theorem ok_Pro_countRegister_50 : blkOK b_Pro_countRegister pt_Pro 53 I_Pro_countRegister_50 = true := by decide +kernel
def f_Pro_countRegister (σ : Sg) (a1 : Int32) : Int32 × Sg := (if (72 : Int32) ≤ a1 then (bnd (f_Fla_oneLess σ (σ 4 (Int32.toNatClampNeg (a1 &&& (7 : Int32)))) (1 : Int32)) fun r2 => (bnd (up2 r2.2 4 (Int32.toNatClampNeg (a1 &&& (7 : Int32))) r2.1) fun s3 => ((1 : Int32), s3))) else (bnd (f_Fla_oneMore σ (σ 4 (Int32.toNatClampNeg (a1 &&& (7 : Int32)))) (1 : Int32)) fun r4 => (bnd (up2 r4.2 4 (Int32.toNatClampNeg (a1 &&& (7 : Int32))) r4.1) fun s5 => ((1 : Int32), s5))))
theorem z_Pro_countRegister {σ : Sg} {a1 : Int32}   : (f_Pro_countRegister σ a1).1 = 0 ∨ (f_Pro_countRegister σ a1).1 = 1 := by
  show Zb (f_Pro_countRegister σ a1)
  unfold f_Pro_countRegister
  refine ite_z (fun h1 => ?_) (fun h1 => ?_)
  · refine bnd_z fun r2 e2 => ?_
    refine bnd_z fun s3 e3 => ?_
    exact (Or.inr rfl)
  · refine bnd_z fun r4 e4 => ?_
    refine bnd_z fun s5 e5 => ?_
    exact (Or.inr rfl)
abbrev w_Pro_countRegister : List (Nat × Option Nat) := [(4, none), (6, some 0)]
theorem p_Pro_countRegister {P : Sg → Prop} (hP : WP w_Pro_countRegister P) {σ : Sg} {a1 : Int32} (h : P σ) : PP P (f_Pro_countRegister σ a1) := by
  unfold f_Pro_countRegister
  refine ite_z (fun _ => ?_) (fun _ => ?_)
  · refine bnd_zz (Z := PP P) (p_Fla_oneLess (wsub hP rfl) h) fun r2 e2 q2 => ?_
    refine bnd_zz (Z := P) (hP _ _ _ _ (Or.inl (by decide)) q2) fun s3 e3 q3 => ?_
    exact q3
  · refine bnd_zz (Z := PP P) (p_Fla_oneMore (wsub hP rfl) h) fun r4 e4 q4 => ?_
    refine bnd_zz (Z := P) (hP _ _ _ _ (Or.inl (by decide)) q4) fun s5 e5 q5 => ?_
    exact q5
set_option maxRecDepth 100000 in
set_option maxHeartbeats 4000000 in
theorem s_Pro_countRegister {l : Launch} {ad : Nat → Nat} {D : va_G} {cI : ClassId} {σ : Sg} {a1 : Int32} {K : Option Value → Sg → Prop}   (hK : KI K (f_Pro_countRegister σ a1)) : MetJ l ad D cI mi_Pro_countRegister [.ref 12, .int a1] σ K := by
  refine met_of mi_Pro_countRegister pt_Pro pt_Pro_in rfl pl_Pro rfl (Nat.le_of_ble_eq_true rfl) fun X hX => ?_
  have hX : Cl l ad D cI mi_Pro_countRegister pt_Pro K X := hX
  show X 0 [.ref 12, .int a1, .null, .null] [] σ
  unfold f_Pro_countRegister at hK
  refine hX.1 41 I_Pro_countRegister_0 ok_Pro_countRegister_0 _ _ _ ?_
  refine And.intro (pk_andIn _ 3 rfl (by decide)) ?_
  refine And.intro (fun h1 => ?_) (fun h1 => ?_)
  · have hK := ite_p hK h1
    refine hX.1 50 I_Pro_countRegister_41 ok_Pro_countRegister_41 _ _ _ ?_
    refine s_Fla_oneLess (bnd_g hK fun r2 e2 hK => ?_)
    refine hX.1 53 I_Pro_countRegister_50 ok_Pro_countRegister_50 _ _ _ ?_
    refine And.intro (pk_andIn _ 3 rfl (by decide)) (SG_g hK fun s3 e3 hK => ?_)
    exact And.intro (Or.inr rfl) hK
  · have hK := ite_n hK h1
    refine s_Fla_oneMore (bnd_g hK fun r4 e4 hK => ?_)
    refine hX.1 53 I_Pro_countRegister_50 ok_Pro_countRegister_50 _ _ _ ?_
    refine And.intro (pk_andIn _ 3 rfl (by decide)) (SG_g hK fun s5 e5 hK => ?_)
    exact And.intro (Or.inr rfl) hK
