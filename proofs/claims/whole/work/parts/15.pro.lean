def I_Pro_push_0 : List IT := [(0, .aload_n 0, 1, 0, 0, []), (1, .getfield 13, 3, 0, 0, []), (4, .getfield 166, 3, 0, 0, []), (7, .iconst 4, 1, 4, 0, []), (8, .iaload, 1, 0, 0, []), (9, .iconst 2, 1, 2, 0, []), (10, .isub, 1, 0, 0, []), (11, .ldc 155, 2, 65535, 0, []), (13, .iand, 1, 0, 0, []), (14, .istore_n 2, 1, 0, 0, []), (15, .aload_n 0, 1, 0, 0, []), (16, .getfield 13, 3, 0, 0, []), (19, .getfield 166, 3, 0, 0, []), (22, .iconst 4, 1, 4, 0, []), (23, .iload_n 2, 1, 0, 0, []), (24, .iastore, 1, 0, 0, []), (25, .aload_n 0, 1, 0, 0, []), (26, .getfield 7, 3, 0, 0, []), (29, .aload_n 0, 1, 0, 0, []), (30, .getfield 13, 3, 0, 0, []), (33, .getfield 156, 3, 0, 0, []), (36, .iconst 2, 1, 2, 0, []), (37, .iaload, 1, 0, 0, []), (38, .iload_n 2, 1, 0, 0, []), (39, .iconst 1, 1, 1, 0, []), (40, .iload_n 1, 1, 0, 0, []), (41, .invokevirtual 206, 3, 0, 0, []), (44, .return_, 1, 0, 0, [])]
theorem ok_Pro_push_0 : blkOK b_Pro_push pt_Pro 45 I_Pro_push_0 = true := by decide +kernel
def f_Pro_push (σ : Sg) (a1 : Int32) : Sg := (bnd (up2 σ 4 (Int32.toNatClampNeg (4 : Int32)) (((σ 4 (Int32.toNatClampNeg (4 : Int32))) - (2 : Int32)) &&& (65535 : Int32))) fun s1 => bnd (f_Mem_store s1 (s1 5 (Int32.toNatClampNeg (2 : Int32))) (((σ 4 (Int32.toNatClampNeg (4 : Int32))) - (2 : Int32)) &&& (65535 : Int32)) (1 : Int32) a1) fun r2 => r2)
set_option maxRecDepth 100000 in
set_option maxHeartbeats 4000000 in
theorem s_Pro_push {l : Launch} {ad : Nat → Nat} {D : va_G} {cI : ClassId} {σ : Sg} {a1 : Int32} {K : Option Value → Sg → Prop}   (hK : KV K (f_Pro_push σ a1)) : MetJ l ad D cI mi_Pro_push [.ref 12, .int a1] σ K := by
  refine met_of mi_Pro_push pt_Pro pt_Pro_in rfl pl_Pro rfl (Nat.le_of_ble_eq_true rfl) fun X hX => ?_
  have hX : Cl l ad D cI mi_Pro_push pt_Pro K X := hX
  show X 0 [.ref 12, .int a1, .null] [] σ
  unfold f_Pro_push at hK
  refine hX.1 45 I_Pro_push_0 ok_Pro_push_0 _ _ _ ?_
  refine And.intro (vin (by decide)) ?_
  refine And.intro (vin (by decide)) (SG_g hK fun s1 e1 hK => ?_)
  refine And.intro (vin (by decide)) ?_
  refine s_Mem_store (bnd_g hK fun r2 e2 hK => ?_)
  exact hK
def I_Pro_interrupt_0 : List IT := [(0, .aload_n 0, 1, 0, 0, []), (1, .aload_n 0, 1, 0, 0, []), (2, .getfield 17, 3, 0, 0, []), (5, .getfield 216, 3, 0, 0, []), (8, .invokevirtual 160, 3, 0, 0, []), (11, .aload_n 0, 1, 0, 0, []), (12, .aload_n 0, 1, 0, 0, []), (13, .getfield 13, 3, 0, 0, []), (16, .getfield 156, 3, 0, 0, []), (19, .iconst 1, 1, 1, 0, []), (20, .iaload, 1, 0, 0, []), (21, .invokevirtual 160, 3, 0, 0, []), (24, .aload_n 0, 1, 0, 0, []), (25, .aload_n 0, 1, 0, 0, []), (26, .getfield 13, 3, 0, 0, []), (29, .getfield 78, 3, 0, 0, []), (32, .invokevirtual 160, 3, 0, 0, []), (35, .aload_n 0, 1, 0, 0, []), (36, .getfield 17, 3, 0, 0, []), (39, .sipush 512, 3, 512, 0, []), (42, .iconst 0, 1, 0, 0, []), (43, .invokevirtual 247, 3, 0, 0, []), (46, .iconst 4, 1, 4, 0, []), (47, .iload_n 1, 1, 0, 0, []), (48, .bipush 15, 2, 15, 0, []), (50, .iand, 1, 0, 0, []), (51, .imul, 1, 0, 0, []), (52, .istore_n 2, 1, 0, 0, []), (53, .aload_n 0, 1, 0, 0, []), (54, .getfield 13, 3, 0, 0, []), (57, .aload_n 0, 1, 0, 0, []), (58, .getfield 7, 3, 0, 0, []), (61, .iconst 0, 1, 0, 0, []), (62, .iload_n 2, 1, 0, 0, []), (63, .iconst 1, 1, 1, 0, []), (64, .invokevirtual 200, 3, 0, 0, []), (67, .putfield 78, 3, 0, 0, []), (70, .aload_n 0, 1, 0, 0, []), (71, .getfield 13, 3, 0, 0, []), (74, .getfield 156, 3, 0, 0, []), (77, .iconst 1, 1, 1, 0, []), (78, .aload_n 0, 1, 0, 0, []), (79, .getfield 7, 3, 0, 0, []), (82, .iconst 0, 1, 0, 0, []), (83, .iload_n 2, 1, 0, 0, []), (84, .iconst 2, 1, 2, 0, []), (85, .iadd, 1, 0, 0, []), (86, .iconst 1, 1, 1, 0, []), (87, .invokevirtual 200, 3, 0, 0, []), (90, .iastore, 1, 0, 0, []), (91, .aload_n 0, 1, 0, 0, []), (92, .dup, 1, 0, 0, []), (93, .getfield 252, 3, 0, 0, []), (96, .iconst 1, 1, 1, 0, []), (97, .iadd, 1, 0, 0, []), (98, .putfield 252, 3, 0, 0, []), (101, .return_, 1, 0, 0, [])]
theorem ok_Pro_interrupt_0 : blkOK b_Pro_interrupt pt_Pro 102 I_Pro_interrupt_0 = true := by decide +kernel
def f_Pro_interrupt (σ : Sg) (a1 : Int32) : Sg := (bnd (f_Pro_push σ (σ 6 0)) fun r1 => bnd (f_Pro_push r1 (r1 5 (Int32.toNatClampNeg (1 : Int32)))) fun r2 => bnd (f_Pro_push r2 (r2 3 2)) fun r3 => bnd (f_Fla_set r3 (512 : Int32) (0 : Int32)) fun r4 => bnd (f_Mem_fetch r4 (0 : Int32) ((4 : Int32) * (a1 &&& (15 : Int32))) (1 : Int32)) fun r5 => bnd (up2 r5.2 3 2 r5.1) fun s6 => bnd (f_Mem_fetch s6 (0 : Int32) (((4 : Int32) * (a1 &&& (15 : Int32))) + (2 : Int32)) (1 : Int32)) fun r7 => bnd (up2 r7.2 5 (Int32.toNatClampNeg (1 : Int32)) r7.1) fun s8 => bnd (up2 s8 12 7 ((s8 12 7) + (1 : Int32))) fun s9 => s9)
set_option maxRecDepth 100000 in
set_option maxHeartbeats 4000000 in
theorem s_Pro_interrupt {l : Launch} {ad : Nat → Nat} {D : va_G} {cI : ClassId} {σ : Sg} {a1 : Int32} {K : Option Value → Sg → Prop}   (hK : KV K (f_Pro_interrupt σ a1)) : MetJ l ad D cI mi_Pro_interrupt [.ref 12, .int a1] σ K := by
  refine met_of mi_Pro_interrupt pt_Pro pt_Pro_in rfl pl_Pro rfl (Nat.le_of_ble_eq_true rfl) fun X hX => ?_
  have hX : Cl l ad D cI mi_Pro_interrupt pt_Pro K X := hX
  show X 0 [.ref 12, .int a1, .null] [] σ
  unfold f_Pro_interrupt at hK
  refine hX.1 102 I_Pro_interrupt_0 ok_Pro_interrupt_0 _ _ _ ?_
  refine s_Pro_push (bnd_g hK fun r1 e1 hK => ?_)
  refine And.intro (vin (by decide)) ?_
  refine s_Pro_push (bnd_g hK fun r2 e2 hK => ?_)
  refine s_Pro_push (bnd_g hK fun r3 e3 hK => ?_)
  refine s_Fla_set (bnd_g hK fun r4 e4 hK => ?_)
  refine s_Mem_fetch (bnd_g hK fun r5 e5 hK => ?_)
  refine And.intro trivial (SG_g hK fun s6 e6 hK => ?_)
  refine s_Mem_fetch (bnd_g hK fun r7 e7 hK => ?_)
  refine And.intro (vin (by decide)) (SG_g hK fun s8 e8 hK => ?_)
  refine And.intro trivial (SG_g hK fun s9 e9 hK => ?_)
  exact hK
def I_Pro_combine_0 : List IT := [(0, .iload_n 1, 1, 0, 0, []), (1, .iconst 3, 1, 3, 0, []), (2, .ishr, 1, 0, 0, []), (3, .istore_n 2, 1, 0, 0, []), (4, .iload_n 1, 1, 0, 0, []), (5, .iconst 1, 1, 1, 0, []), (6, .iand, 1, 0, 0, []), (7, .iconst 1, 1, 1, 0, []), (8, .if_icmp .ne 7, 3, 0, 15, []), (11, .iconst 1, 1, 1, 0, []), (12, .goto 4, 3, 0, 16, [])]
theorem ok_Pro_combine_0 : blkOK b_Pro_combine pt_Pro 15 I_Pro_combine_0 = true := by decide +kernel
def I_Pro_combine_15 : List IT := [(15, .iconst 0, 1, 0, 0, [])]
theorem ok_Pro_combine_15 : blkOK b_Pro_combine pt_Pro 16 I_Pro_combine_15 = true := by decide +kernel
def I_Pro_combine_16 : List IT := [(16, .istore_n 3, 1, 0, 0, []), (17, .iload_n 1, 1, 0, 0, []), (18, .iconst 4, 1, 4, 0, []), (19, .iand, 1, 0, 0, []), (20, .ifCond .eq 44, 3, 0, 64, []), (23, .aload_n 0, 1, 0, 0, []), (24, .getfield 34, 3, 0, 0, []), (27, .iload_n 3, 1, 0, 0, []), (28, .invokevirtual 126, 3, 0, 0, []), (31, .istore 4, 2, 0, 0, []), (33, .aload_n 0, 1, 0, 0, []), (34, .getfield 13, 3, 0, 0, []), (37, .iconst 0, 1, 0, 0, []), (38, .iload_n 3, 1, 0, 0, []), (39, .aload_n 0, 1, 0, 0, []), (40, .getfield 17, 3, 0, 0, []), (43, .iload_n 2, 1, 0, 0, []), (44, .aload_n 0, 1, 0, 0, []), (45, .getfield 13, 3, 0, 0, []), (48, .iconst 0, 1, 0, 0, []), (49, .iload_n 3, 1, 0, 0, []), (50, .invokevirtual 130, 3, 0, 0, []), (53, .iload 4, 2, 0, 0, []), (55, .iload_n 3, 1, 0, 0, []), (56, .invokevirtual 134, 3, 0, 0, []), (59, .invokevirtual 137, 3, 0, 0, []), (62, .iconst 1, 1, 1, 0, []), (63, .ireturn, 1, 0, 0, [])]
theorem ok_Pro_combine_16 : blkOK b_Pro_combine pt_Pro 64 I_Pro_combine_16 = true := by decide +kernel
def I_Pro_combine_64 : List IT := [(64, .aload_n 0, 1, 0, 0, []), (65, .getfield 34, 3, 0, 0, []), (68, .iload_n 3, 1, 0, 0, []), (69, .invokevirtual 141, 3, 0, 0, []), (72, .aload_n 0, 1, 0, 0, []), (73, .getfield 34, 3, 0, 0, []), (76, .invokevirtual 145, 3, 0, 0, []), (79, .istore 4, 2, 0, 0, []), (81, .aload_n 0, 1, 0, 0, []), (82, .getfield 13, 3, 0, 0, []), (85, .aload_n 0, 1, 0, 0, []), (86, .getfield 34, 3, 0, 0, []), (89, .getfield 147, 3, 0, 0, []), (92, .iload_n 3, 1, 0, 0, []), (93, .invokevirtual 130, 3, 0, 0, []), (96, .istore 5, 2, 0, 0, []), (98, .iload_n 1, 1, 0, 0, []), (99, .iconst 2, 1, 2, 0, []), (100, .iand, 1, 0, 0, []), (101, .ifCond .ne 26, 3, 0, 127, []), (104, .aload_n 0, 1, 0, 0, []), (105, .getfield 34, 3, 0, 0, []), (108, .aload_n 0, 1, 0, 0, []), (109, .getfield 17, 3, 0, 0, []), (112, .iload_n 2, 1, 0, 0, []), (113, .iload 4, 2, 0, 0, []), (115, .iload 5, 2, 0, 0, []), (117, .iload_n 3, 1, 0, 0, []), (118, .invokevirtual 134, 3, 0, 0, []), (121, .invokevirtual 150, 3, 0, 0, []), (124, .goto 31, 3, 0, 155, [])]
theorem ok_Pro_combine_64 : blkOK b_Pro_combine pt_Pro 127 I_Pro_combine_64 = true := by decide +kernel
def I_Pro_combine_127 : List IT := [(127, .aload_n 0, 1, 0, 0, []), (128, .getfield 13, 3, 0, 0, []), (131, .aload_n 0, 1, 0, 0, []), (132, .getfield 34, 3, 0, 0, []), (135, .getfield 147, 3, 0, 0, []), (138, .iload_n 3, 1, 0, 0, []), (139, .aload_n 0, 1, 0, 0, []), (140, .getfield 17, 3, 0, 0, []), (143, .iload_n 2, 1, 0, 0, []), (144, .iload 5, 2, 0, 0, []), (146, .iload 4, 2, 0, 0, []), (148, .iload_n 3, 1, 0, 0, []), (149, .invokevirtual 134, 3, 0, 0, []), (152, .invokevirtual 137, 3, 0, 0, [])]
theorem ok_Pro_combine_127 : blkOK b_Pro_combine pt_Pro 155 I_Pro_combine_127 = true := by decide +kernel
def I_Pro_combine_155 : List IT := [(155, .iconst 1, 1, 1, 0, []), (156, .ireturn, 1, 0, 0, [])]
theorem ok_Pro_combine_155 : blkOK b_Pro_combine pt_Pro 157 I_Pro_combine_155 = true := by decide +kernel
def f_Pro_combine_16 (σ : Sg) (x1 : Int32) (x2 : Int32) (y0 : Int32) : Int32 × Sg := (if (x1 &&& (4 : Int32)) = (0 : Int32) then (bnd (f_Dec_readModrm σ y0) fun r2 => bnd (f_Dec_value r2) fun r3 => bnd (f_Reg_value r3.2 (r3.2 14 5) y0) fun r4 => (if (x1 &&& (2 : Int32)) = (0 : Int32) then (bnd (f_Fla_combine r4.2 x2 r3.1 r4.1 y0) fun r6 => bnd (f_Dec_change r6.2 r6.1) fun r7 => ((1 : Int32), r7)) else (bnd (f_Fla_combine r4.2 x2 r4.1 r3.1 y0) fun r8 => bnd (f_Reg_change r8.2 (r4.2 14 5) y0 r8.1) fun r9 => ((1 : Int32), r9)))) else (bnd (f_Dec_nextOf σ y0) fun r10 => bnd (f_Reg_value r10.2 (0 : Int32) y0) fun r11 => bnd (f_Fla_combine r11.2 x2 r11.1 r10.1 y0) fun r12 => bnd (f_Reg_change r12.2 (0 : Int32) y0 r12.1) fun r13 => ((1 : Int32), r13)))
theorem z_Pro_combine_16 {σ : Sg} {x1 : Int32} {x2 : Int32} {y0 : Int32} (z_y0 : y0 = 0 ∨ y0 = 1) : (f_Pro_combine_16 σ x1 x2 y0).1 = 0 ∨ (f_Pro_combine_16 σ x1 x2 y0).1 = 1 := by
  show Zb (f_Pro_combine_16 σ x1 x2 y0)
  unfold f_Pro_combine_16
  refine ite_z (fun h1 => ?_) (fun h1 => ?_)
  · refine bnd_z fun r2 => ?_
    refine bnd_z fun r3 => ?_
    refine bnd_z fun r4 => ?_
    refine ite_z (fun h5 => ?_) (fun h5 => ?_)
    · refine bnd_z fun r6 => ?_
      refine bnd_z fun r7 => ?_
      exact (Or.inr rfl)
    · refine bnd_z fun r8 => ?_
      refine bnd_z fun r9 => ?_
      exact (Or.inr rfl)
  · refine bnd_z fun r10 => ?_
    refine bnd_z fun r11 => ?_
    refine bnd_z fun r12 => ?_
    refine bnd_z fun r13 => ?_
    exact (Or.inr rfl)
set_option maxRecDepth 100000 in
set_option maxHeartbeats 4000000 in
theorem b_Pro_combine_16 {l : Launch} {ad : Nat → Nat} {D : va_G} {cI : ClassId} {K : Option Value → Sg → Prop} {X : Nat → List Value → List Value → Sg → Prop} (hX : Cl l ad D cI mi_Pro_combine pt_Pro K X) {σ : Sg} {x1 : Int32} {x2 : Int32} {y0 : Int32} (z_y0 : y0 = 0 ∨ y0 = 1)  (hK : KI K (f_Pro_combine_16 σ x1 x2 y0)) : X 16 [.ref 12, .int x1, .int x2, .null, .null, .null] [.int y0] σ := by
  unfold f_Pro_combine_16 at hK
  refine hX.1 64 I_Pro_combine_16 ok_Pro_combine_16 _ _ _ ?_
  refine And.intro (fun h1 => ?_) (fun h1 => ?_)
  · have hK := ite_p hK h1
    refine hX.1 127 I_Pro_combine_64 ok_Pro_combine_64 _ _ _ ?_
    refine s_Dec_readModrm z_y0 (bnd_g hK fun r2 e2 hK => ?_)
    refine s_Dec_value (bnd_g hK fun r3 e3 hK => ?_)
    refine s_Reg_value (bnd_g hK fun r4 e4 hK => ?_)
    refine And.intro (fun h5 => ?_) (fun h5 => ?_)
    · have hK := ite_p hK h5
      refine s_Fla_combine (bnd_g hK fun r6 e6 hK => ?_)
      refine s_Dec_change (bnd_g hK fun r7 e7 hK => ?_)
      refine hX.1 157 I_Pro_combine_155 ok_Pro_combine_155 _ _ _ ?_
      exact And.intro (Or.inr rfl) hK
    · have hK := ite_n hK h5
      refine hX.1 155 I_Pro_combine_127 ok_Pro_combine_127 _ _ _ ?_
      refine s_Fla_combine (bnd_g hK fun r8 e8 hK => ?_)
      refine s_Reg_change (bnd_g hK fun r9 e9 hK => ?_)
      refine hX.1 157 I_Pro_combine_155 ok_Pro_combine_155 _ _ _ ?_
      exact And.intro (Or.inr rfl) hK
  · have hK := ite_n hK h1
    refine s_Dec_nextOf (bnd_g hK fun r10 e10 hK => ?_)
    refine s_Reg_value (bnd_g hK fun r11 e11 hK => ?_)
    refine s_Fla_combine (bnd_g hK fun r12 e12 hK => ?_)
    refine s_Reg_change (bnd_g hK fun r13 e13 hK => ?_)
    exact And.intro (Or.inr rfl) hK
def f_Pro_combine (σ : Sg) (a1 : Int32) : Int32 × Sg := (if (a1 &&& (1 : Int32)) = (1 : Int32) then (f_Pro_combine_16 σ a1 (a1 >>> ((3 : Int32) &&& 31 : Int32)) (1 : Int32)) else (f_Pro_combine_16 σ a1 (a1 >>> ((3 : Int32) &&& 31 : Int32)) (0 : Int32)))
theorem z_Pro_combine {σ : Sg} {a1 : Int32}  : (f_Pro_combine σ a1).1 = 0 ∨ (f_Pro_combine σ a1).1 = 1 := by
  show Zb (f_Pro_combine σ a1)
  unfold f_Pro_combine
  refine ite_z (fun h1 => ?_) (fun h1 => ?_)
  · exact z_Pro_combine_16 (Or.inr rfl)
  · exact z_Pro_combine_16 (Or.inl rfl)
set_option maxRecDepth 100000 in
set_option maxHeartbeats 4000000 in
theorem s_Pro_combine {l : Launch} {ad : Nat → Nat} {D : va_G} {cI : ClassId} {σ : Sg} {a1 : Int32} {K : Option Value → Sg → Prop}   (hK : KI K (f_Pro_combine σ a1)) : MetJ l ad D cI mi_Pro_combine [.ref 12, .int a1] σ K := by
  refine met_of mi_Pro_combine pt_Pro pt_Pro_in rfl pl_Pro rfl (Nat.le_of_ble_eq_true rfl) fun X hX => ?_
  have hX : Cl l ad D cI mi_Pro_combine pt_Pro K X := hX
  show X 0 [.ref 12, .int a1, .null, .null, .null, .null] [] σ
  unfold f_Pro_combine at hK
  refine hX.1 15 I_Pro_combine_0 ok_Pro_combine_0 _ _ _ ?_
  refine And.intro (fun h1 => ?_) (fun h1 => ?_)
  · have hK := ite_p hK h1
    exact b_Pro_combine_16 hX (Or.inr rfl) hK
  · have hK := ite_n hK h1
    refine hX.1 16 I_Pro_combine_15 ok_Pro_combine_15 _ _ _ ?_
    exact b_Pro_combine_16 hX (Or.inl rfl) hK
def I_Pro_pop_0 : List IT := [(0, .aload_n 0, 1, 0, 0, []), (1, .getfield 13, 3, 0, 0, []), (4, .getfield 166, 3, 0, 0, []), (7, .iconst 4, 1, 4, 0, []), (8, .iaload, 1, 0, 0, []), (9, .istore_n 1, 1, 0, 0, []), (10, .aload_n 0, 1, 0, 0, []), (11, .getfield 13, 3, 0, 0, []), (14, .getfield 166, 3, 0, 0, []), (17, .iconst 4, 1, 4, 0, []), (18, .iload_n 1, 1, 0, 0, []), (19, .iconst 2, 1, 2, 0, []), (20, .iadd, 1, 0, 0, []), (21, .ldc 155, 2, 65535, 0, []), (23, .iand, 1, 0, 0, []), (24, .iastore, 1, 0, 0, []), (25, .aload_n 0, 1, 0, 0, []), (26, .getfield 7, 3, 0, 0, []), (29, .aload_n 0, 1, 0, 0, []), (30, .getfield 13, 3, 0, 0, []), (33, .getfield 156, 3, 0, 0, []), (36, .iconst 2, 1, 2, 0, []), (37, .iaload, 1, 0, 0, []), (38, .iload_n 1, 1, 0, 0, []), (39, .iconst 1, 1, 1, 0, []), (40, .invokevirtual 200, 3, 0, 0, []), (43, .ireturn, 1, 0, 0, [])]
theorem ok_Pro_pop_0 : blkOK b_Pro_pop pt_Pro 44 I_Pro_pop_0 = true := by decide +kernel
def f_Pro_pop (σ : Sg)  : Int32 × Sg := (bnd (up2 σ 4 (Int32.toNatClampNeg (4 : Int32)) (((σ 4 (Int32.toNatClampNeg (4 : Int32))) + (2 : Int32)) &&& (65535 : Int32))) fun s1 => bnd (f_Mem_fetch s1 (s1 5 (Int32.toNatClampNeg (2 : Int32))) (σ 4 (Int32.toNatClampNeg (4 : Int32))) (1 : Int32)) fun r2 => (r2.1, r2.2))
set_option maxRecDepth 100000 in
set_option maxHeartbeats 4000000 in
theorem s_Pro_pop {l : Launch} {ad : Nat → Nat} {D : va_G} {cI : ClassId} {σ : Sg}  {K : Option Value → Sg → Prop}   (hK : KI K (f_Pro_pop σ )) : MetJ l ad D cI mi_Pro_pop [.ref 12] σ K := by
  refine met_of mi_Pro_pop pt_Pro pt_Pro_in rfl pl_Pro rfl (Nat.le_of_ble_eq_true rfl) fun X hX => ?_
  have hX : Cl l ad D cI mi_Pro_pop pt_Pro K X := hX
  show X 0 [.ref 12, .null] [] σ
  unfold f_Pro_pop at hK
  refine hX.1 44 I_Pro_pop_0 ok_Pro_pop_0 _ _ _ ?_
  refine And.intro (vin (by decide)) ?_
  refine And.intro (vin (by decide)) (SG_g hK fun s1 e1 hK => ?_)
  refine And.intro (vin (by decide)) ?_
  refine s_Mem_fetch (bnd_g hK fun r2 e2 hK => ?_)
  exact hK
def I_Pro_segmentOnStack_0 : List IT := [(0, .iload_n 1, 1, 0, 0, []), (1, .iconst 3, 1, 3, 0, []), (2, .ishr, 1, 0, 0, []), (3, .istore_n 2, 1, 0, 0, []), (4, .iload_n 2, 1, 0, 0, []), (5, .iconst 3, 1, 3, 0, []), (6, .if_icmp .le 5, 3, 0, 11, []), (9, .iconst 0, 1, 0, 0, []), (10, .ireturn, 1, 0, 0, [])]
theorem ok_Pro_segmentOnStack_0 : blkOK b_Pro_segmentOnStack pt_Pro 11 I_Pro_segmentOnStack_0 = true := by decide +kernel
def I_Pro_segmentOnStack_11 : List IT := [(11, .iload_n 1, 1, 0, 0, []), (12, .iconst 1, 1, 1, 0, []), (13, .iand, 1, 0, 0, []), (14, .ifCond .ne 18, 3, 0, 32, []), (17, .aload_n 0, 1, 0, 0, []), (18, .aload_n 0, 1, 0, 0, []), (19, .getfield 13, 3, 0, 0, []), (22, .getfield 156, 3, 0, 0, []), (25, .iload_n 2, 1, 0, 0, []), (26, .iaload, 1, 0, 0, []), (27, .invokevirtual 160, 3, 0, 0, []), (30, .iconst 1, 1, 1, 0, []), (31, .ireturn, 1, 0, 0, [])]
theorem ok_Pro_segmentOnStack_11 : blkOK b_Pro_segmentOnStack pt_Pro 32 I_Pro_segmentOnStack_11 = true := by decide +kernel
def I_Pro_segmentOnStack_32 : List IT := [(32, .iload_n 2, 1, 0, 0, []), (33, .iconst 1, 1, 1, 0, []), (34, .if_icmp .ne 5, 3, 0, 39, []), (37, .iconst 0, 1, 0, 0, []), (38, .ireturn, 1, 0, 0, [])]
theorem ok_Pro_segmentOnStack_32 : blkOK b_Pro_segmentOnStack pt_Pro 39 I_Pro_segmentOnStack_32 = true := by decide +kernel
def I_Pro_segmentOnStack_39 : List IT := [(39, .aload_n 0, 1, 0, 0, []), (40, .getfield 13, 3, 0, 0, []), (43, .getfield 156, 3, 0, 0, []), (46, .iload_n 2, 1, 0, 0, []), (47, .aload_n 0, 1, 0, 0, []), (48, .invokevirtual 163, 3, 0, 0, []), (51, .iastore, 1, 0, 0, []), (52, .aload_n 0, 1, 0, 0, []), (53, .iload_n 2, 1, 0, 0, []), (54, .iconst 2, 1, 2, 0, []), (55, .if_icmp .ne 7, 3, 0, 62, []), (58, .iconst 1, 1, 1, 0, []), (59, .goto 4, 3, 0, 63, [])]
theorem ok_Pro_segmentOnStack_39 : blkOK b_Pro_segmentOnStack pt_Pro 62 I_Pro_segmentOnStack_39 = true := by decide +kernel
def I_Pro_segmentOnStack_62 : List IT := [(62, .iconst 0, 1, 0, 0, [])]
theorem ok_Pro_segmentOnStack_62 : blkOK b_Pro_segmentOnStack pt_Pro 63 I_Pro_segmentOnStack_62 = true := by decide +kernel
def I_Pro_segmentOnStack_63 : List IT := [(63, .putfield 44, 3, 0, 0, []), (66, .iconst 1, 1, 1, 0, []), (67, .ireturn, 1, 0, 0, [])]
theorem ok_Pro_segmentOnStack_63 : blkOK b_Pro_segmentOnStack pt_Pro 68 I_Pro_segmentOnStack_63 = true := by decide +kernel
def f_Pro_segmentOnStack (σ : Sg) (a1 : Int32) : Int32 × Sg := (if (a1 >>> ((3 : Int32) &&& 31 : Int32)) ≤ (3 : Int32) then (if (a1 &&& (1 : Int32)) = (0 : Int32) then (bnd (f_Pro_push σ (σ 5 (Int32.toNatClampNeg (a1 >>> ((3 : Int32) &&& 31 : Int32))))) fun r3 => ((1 : Int32), r3)) else (if (a1 >>> ((3 : Int32) &&& 31 : Int32)) = (1 : Int32) then ((0 : Int32), σ) else (bnd (f_Pro_pop σ) fun r5 => bnd (up2 r5.2 5 (Int32.toNatClampNeg (a1 >>> ((3 : Int32) &&& 31 : Int32))) r5.1) fun s6 => (if (a1 >>> ((3 : Int32) &&& 31 : Int32)) = (2 : Int32) then (bnd (up2 s6 12 8 (1 : Int32)) fun s8 => ((1 : Int32), s8)) else (bnd (up2 s6 12 8 (0 : Int32)) fun s9 => ((1 : Int32), s9)))))) else ((0 : Int32), σ))
theorem z_Pro_segmentOnStack {σ : Sg} {a1 : Int32}  : (f_Pro_segmentOnStack σ a1).1 = 0 ∨ (f_Pro_segmentOnStack σ a1).1 = 1 := by
  show Zb (f_Pro_segmentOnStack σ a1)
  unfold f_Pro_segmentOnStack
  refine ite_z (fun h1 => ?_) (fun h1 => ?_)
  · refine ite_z (fun h2 => ?_) (fun h2 => ?_)
    · refine bnd_z fun r3 => ?_
      exact (Or.inr rfl)
    · refine ite_z (fun h4 => ?_) (fun h4 => ?_)
      · exact (Or.inl rfl)
      · refine bnd_z fun r5 => ?_
        refine bnd_z fun s6 => ?_
        refine ite_z (fun h7 => ?_) (fun h7 => ?_)
        · refine bnd_z fun s8 => ?_
          exact (Or.inr rfl)
        · refine bnd_z fun s9 => ?_
          exact (Or.inr rfl)
  · exact (Or.inl rfl)
set_option maxRecDepth 100000 in
set_option maxHeartbeats 4000000 in
theorem s_Pro_segmentOnStack {l : Launch} {ad : Nat → Nat} {D : va_G} {cI : ClassId} {σ : Sg} {a1 : Int32} {K : Option Value → Sg → Prop}   (hK : KI K (f_Pro_segmentOnStack σ a1)) : MetJ l ad D cI mi_Pro_segmentOnStack [.ref 12, .int a1] σ K := by
  refine met_of mi_Pro_segmentOnStack pt_Pro pt_Pro_in rfl pl_Pro rfl (Nat.le_of_ble_eq_true rfl) fun X hX => ?_
  have hX : Cl l ad D cI mi_Pro_segmentOnStack pt_Pro K X := hX
  show X 0 [.ref 12, .int a1, .null] [] σ
  unfold f_Pro_segmentOnStack at hK
  refine hX.1 11 I_Pro_segmentOnStack_0 ok_Pro_segmentOnStack_0 _ _ _ ?_
  refine And.intro (fun h1 => ?_) (fun h1 => ?_)
  · have hK := ite_p hK h1
    refine hX.1 32 I_Pro_segmentOnStack_11 ok_Pro_segmentOnStack_11 _ _ _ ?_
    refine And.intro (fun h2 => ?_) (fun h2 => ?_)
    · have hK := ite_p hK h2
      refine And.intro (by assumption) ?_
      refine s_Pro_push (bnd_g hK fun r3 e3 hK => ?_)
      exact And.intro (Or.inr rfl) hK
    · have hK := ite_n hK h2
      refine hX.1 39 I_Pro_segmentOnStack_32 ok_Pro_segmentOnStack_32 _ _ _ ?_
      refine And.intro (fun h4 => ?_) (fun h4 => ?_)
      · have hK := ite_p hK h4
        exact And.intro (Or.inl rfl) hK
      · have hK := ite_n hK h4
        refine hX.1 62 I_Pro_segmentOnStack_39 ok_Pro_segmentOnStack_39 _ _ _ ?_
        refine s_Pro_pop (bnd_g hK fun r5 e5 hK => ?_)
        refine And.intro (by assumption) (SG_g hK fun s6 e6 hK => ?_)
        refine And.intro (fun h7 => ?_) (fun h7 => ?_)
        · have hK := ite_p hK h7
          refine hX.1 68 I_Pro_segmentOnStack_63 ok_Pro_segmentOnStack_63 _ _ _ ?_
          refine And.intro (Or.inr rfl) (SG_g hK fun s8 e8 hK => ?_)
          exact And.intro (Or.inr rfl) hK
        · have hK := ite_n hK h7
          refine hX.1 63 I_Pro_segmentOnStack_62 ok_Pro_segmentOnStack_62 _ _ _ ?_
          refine hX.1 68 I_Pro_segmentOnStack_63 ok_Pro_segmentOnStack_63 _ _ _ ?_
          refine And.intro (Or.inl rfl) (SG_g hK fun s9 e9 hK => ?_)
          exact And.intro (Or.inr rfl) hK
  · have hK := ite_n hK h1
    exact And.intro (Or.inl rfl) hK
def I_Pro_countRegister_0 : List IT := [(0, .iload_n 1, 1, 0, 0, []), (1, .bipush 7, 2, 7, 0, []), (3, .iand, 1, 0, 0, []), (4, .istore_n 2, 1, 0, 0, []), (5, .aload_n 0, 1, 0, 0, []), (6, .getfield 13, 3, 0, 0, []), (9, .getfield 166, 3, 0, 0, []), (12, .iload_n 2, 1, 0, 0, []), (13, .iaload, 1, 0, 0, []), (14, .istore_n 3, 1, 0, 0, []), (15, .aload_n 0, 1, 0, 0, []), (16, .getfield 13, 3, 0, 0, []), (19, .getfield 166, 3, 0, 0, []), (22, .iload_n 2, 1, 0, 0, []), (23, .iload_n 1, 1, 0, 0, []), (24, .bipush 72, 2, 72, 0, []), (26, .if_icmp .ge 15, 3, 0, 41, []), (29, .aload_n 0, 1, 0, 0, []), (30, .getfield 17, 3, 0, 0, []), (33, .iload_n 3, 1, 0, 0, []), (34, .iconst 1, 1, 1, 0, []), (35, .invokevirtual 169, 3, 0, 0, []), (38, .goto 12, 3, 0, 50, [])]
theorem ok_Pro_countRegister_0 : blkOK b_Pro_countRegister pt_Pro 41 I_Pro_countRegister_0 = true := by decide +kernel
def I_Pro_countRegister_41 : List IT := [(41, .aload_n 0, 1, 0, 0, []), (42, .getfield 17, 3, 0, 0, []), (45, .iload_n 3, 1, 0, 0, []), (46, .iconst 1, 1, 1, 0, []), (47, .invokevirtual 172, 3, 0, 0, [])]
theorem ok_Pro_countRegister_41 : blkOK b_Pro_countRegister pt_Pro 50 I_Pro_countRegister_41 = true := by decide +kernel
def I_Pro_countRegister_50 : List IT := [(50, .iastore, 1, 0, 0, []), (51, .iconst 1, 1, 1, 0, []), (52, .ireturn, 1, 0, 0, [])]
theorem ok_Pro_countRegister_50 : blkOK b_Pro_countRegister pt_Pro 53 I_Pro_countRegister_50 = true := by decide +kernel
def f_Pro_countRegister (σ : Sg) (a1 : Int32) : Int32 × Sg := (if (72 : Int32) ≤ a1 then (bnd (f_Fla_oneLess σ (σ 4 (Int32.toNatClampNeg (a1 &&& (7 : Int32)))) (1 : Int32)) fun r2 => (bnd (up2 r2.2 4 (Int32.toNatClampNeg (a1 &&& (7 : Int32))) r2.1) fun s3 => ((1 : Int32), s3))) else (bnd (f_Fla_oneMore σ (σ 4 (Int32.toNatClampNeg (a1 &&& (7 : Int32)))) (1 : Int32)) fun r4 => (bnd (up2 r4.2 4 (Int32.toNatClampNeg (a1 &&& (7 : Int32))) r4.1) fun s5 => ((1 : Int32), s5))))
theorem z_Pro_countRegister {σ : Sg} {a1 : Int32}  : (f_Pro_countRegister σ a1).1 = 0 ∨ (f_Pro_countRegister σ a1).1 = 1 := by
  show Zb (f_Pro_countRegister σ a1)
  unfold f_Pro_countRegister
  refine ite_z (fun h1 => ?_) (fun h1 => ?_)
  · refine bnd_z fun r2 => ?_
    refine bnd_z fun s3 => ?_
    exact (Or.inr rfl)
  · refine bnd_z fun r4 => ?_
    refine bnd_z fun s5 => ?_
    exact (Or.inr rfl)
set_option maxRecDepth 100000 in
set_option maxHeartbeats 4000000 in
theorem s_Pro_countRegister {l : Launch} {ad : Nat → Nat} {D : va_G} {cI : ClassId} {σ : Sg} {a1 : Int32} {K : Option Value → Sg → Prop}   (hK : KI K (f_Pro_countRegister σ a1)) : MetJ l ad D cI mi_Pro_countRegister [.ref 12, .int a1] σ K := by
  refine met_of mi_Pro_countRegister pt_Pro pt_Pro_in rfl pl_Pro rfl (Nat.le_of_ble_eq_true rfl) fun X hX => ?_
  have hX : Cl l ad D cI mi_Pro_countRegister pt_Pro K X := hX
  show X 0 [.ref 12, .int a1, .null, .null] [] σ
  unfold f_Pro_countRegister at hK
  refine hX.1 41 I_Pro_countRegister_0 ok_Pro_countRegister_0 _ _ _ ?_
  refine And.intro (pk_andIn _ 3 rfl (by decide)) ?_
  refine And.intro (fun h1 => ?_) (fun h1 => ?_)
  · have hK := ite_p hK h1
    refine hX.1 50 I_Pro_countRegister_41 ok_Pro_countRegister_41 _ _ _ ?_
    refine s_Fla_oneLess (bnd_g hK fun r2 e2 hK => ?_)
    refine hX.1 53 I_Pro_countRegister_50 ok_Pro_countRegister_50 _ _ _ ?_
    refine And.intro (pk_andIn _ 3 rfl (by decide)) (SG_g hK fun s3 e3 hK => ?_)
    exact And.intro (Or.inr rfl) hK
  · have hK := ite_n hK h1
    refine s_Fla_oneMore (bnd_g hK fun r4 e4 hK => ?_)
    refine hX.1 53 I_Pro_countRegister_50 ok_Pro_countRegister_50 _ _ _ ?_
    refine And.intro (pk_andIn _ 3 rfl (by decide)) (SG_g hK fun s5 e5 hK => ?_)
    exact And.intro (Or.inr rfl) hK
def I_Pro_registerOnStack_0 : List IT := [(0, .iload_n 1, 1, 0, 0, []), (1, .bipush 7, 2, 7, 0, []), (3, .iand, 1, 0, 0, []), (4, .istore_n 2, 1, 0, 0, []), (5, .iload_n 1, 1, 0, 0, []), (6, .bipush 88, 2, 88, 0, []), (8, .if_icmp .ge 19, 3, 0, 27, []), (11, .aload_n 0, 1, 0, 0, []), (12, .aload_n 0, 1, 0, 0, []), (13, .getfield 13, 3, 0, 0, []), (16, .getfield 166, 3, 0, 0, []), (19, .iload_n 2, 1, 0, 0, []), (20, .iaload, 1, 0, 0, []), (21, .invokevirtual 160, 3, 0, 0, []), (24, .goto 16, 3, 0, 40, [])]
theorem ok_Pro_registerOnStack_0 : blkOK b_Pro_registerOnStack pt_Pro 27 I_Pro_registerOnStack_0 = true := by decide +kernel
def I_Pro_registerOnStack_27 : List IT := [(27, .aload_n 0, 1, 0, 0, []), (28, .getfield 13, 3, 0, 0, []), (31, .getfield 166, 3, 0, 0, []), (34, .iload_n 2, 1, 0, 0, []), (35, .aload_n 0, 1, 0, 0, []), (36, .invokevirtual 163, 3, 0, 0, []), (39, .iastore, 1, 0, 0, [])]
theorem ok_Pro_registerOnStack_27 : blkOK b_Pro_registerOnStack pt_Pro 40 I_Pro_registerOnStack_27 = true := by decide +kernel
def I_Pro_registerOnStack_40 : List IT := [(40, .iconst 1, 1, 1, 0, []), (41, .ireturn, 1, 0, 0, [])]
theorem ok_Pro_registerOnStack_40 : blkOK b_Pro_registerOnStack pt_Pro 42 I_Pro_registerOnStack_40 = true := by decide +kernel
def f_Pro_registerOnStack (σ : Sg) (a1 : Int32) : Int32 × Sg := (if (88 : Int32) ≤ a1 then (bnd (f_Pro_pop σ) fun r2 => bnd (up2 r2.2 4 (Int32.toNatClampNeg (a1 &&& (7 : Int32))) r2.1) fun s3 => ((1 : Int32), s3)) else (bnd (f_Pro_push σ (σ 4 (Int32.toNatClampNeg (a1 &&& (7 : Int32))))) fun r4 => ((1 : Int32), r4)))
theorem z_Pro_registerOnStack {σ : Sg} {a1 : Int32}  : (f_Pro_registerOnStack σ a1).1 = 0 ∨ (f_Pro_registerOnStack σ a1).1 = 1 := by
  show Zb (f_Pro_registerOnStack σ a1)
  unfold f_Pro_registerOnStack
  refine ite_z (fun h1 => ?_) (fun h1 => ?_)
  · refine bnd_z fun r2 => ?_
    refine bnd_z fun s3 => ?_
    exact (Or.inr rfl)
  · refine bnd_z fun r4 => ?_
    exact (Or.inr rfl)
set_option maxRecDepth 100000 in
set_option maxHeartbeats 4000000 in
theorem s_Pro_registerOnStack {l : Launch} {ad : Nat → Nat} {D : va_G} {cI : ClassId} {σ : Sg} {a1 : Int32} {K : Option Value → Sg → Prop}   (hK : KI K (f_Pro_registerOnStack σ a1)) : MetJ l ad D cI mi_Pro_registerOnStack [.ref 12, .int a1] σ K := by
  refine met_of mi_Pro_registerOnStack pt_Pro pt_Pro_in rfl pl_Pro rfl (Nat.le_of_ble_eq_true rfl) fun X hX => ?_
  have hX : Cl l ad D cI mi_Pro_registerOnStack pt_Pro K X := hX
  show X 0 [.ref 12, .int a1, .null] [] σ
  unfold f_Pro_registerOnStack at hK
  refine hX.1 27 I_Pro_registerOnStack_0 ok_Pro_registerOnStack_0 _ _ _ ?_
  refine And.intro (fun h1 => ?_) (fun h1 => ?_)
  · have hK := ite_p hK h1
    refine hX.1 40 I_Pro_registerOnStack_27 ok_Pro_registerOnStack_27 _ _ _ ?_
    refine s_Pro_pop (bnd_g hK fun r2 e2 hK => ?_)
    refine And.intro (pk_andIn _ 3 rfl (by decide)) (SG_g hK fun s3 e3 hK => ?_)
    refine hX.1 42 I_Pro_registerOnStack_40 ok_Pro_registerOnStack_40 _ _ _ ?_
    exact And.intro (Or.inr rfl) hK
  · have hK := ite_n hK h1
    refine And.intro (pk_andIn _ 3 rfl (by decide)) ?_
    refine s_Pro_push (bnd_g hK fun r4 e4 hK => ?_)
    refine hX.1 42 I_Pro_registerOnStack_40 ok_Pro_registerOnStack_40 _ _ _ ?_
    exact And.intro (Or.inr rfl) hK
def I_Pro_holds_0 : List IT := [(0, .aload_n 0, 1, 0, 0, []), (1, .getfield 17, 3, 0, 0, []), (4, .sipush 128, 3, 128, 0, []), (7, .invokevirtual 40, 3, 0, 0, []), (10, .aload_n 0, 1, 0, 0, []), (11, .getfield 17, 3, 0, 0, []), (14, .sipush 2048, 3, 2048, 0, []), (17, .invokevirtual 40, 3, 0, 0, []), (20, .if_icmp .eq 7, 3, 0, 27, []), (23, .iconst 1, 1, 1, 0, []), (24, .goto 4, 3, 0, 28, [])]
theorem ok_Pro_holds_0 : blkOK b_Pro_holds pt_Pro 27 I_Pro_holds_0 = true := by decide +kernel
def I_Pro_holds_27 : List IT := [(27, .iconst 0, 1, 0, 0, [])]
theorem ok_Pro_holds_27 : blkOK b_Pro_holds pt_Pro 28 I_Pro_holds_27 = true := by decide +kernel
def I_Pro_holds_28 : List IT := [(28, .istore_n 2, 1, 0, 0, []), (29, .iload_n 1, 1, 0, 0, []), (30, .tableswitch 95 0 6 #[42, 53, 62, 72, 82, 95, 93], 42, 0, 125, [(0, 72), (1, 83), (2, 92), (3, 102), (4, 112), (5, 125), (6, 123)])]
theorem ok_Pro_holds_28 : blkOK b_Pro_holds pt_Pro 72 I_Pro_holds_28 = true := by decide +kernel
def I_Pro_holds_72 : List IT := [(72, .aload_n 0, 1, 0, 0, []), (73, .getfield 17, 3, 0, 0, []), (76, .sipush 2048, 3, 2048, 0, []), (79, .invokevirtual 40, 3, 0, 0, []), (82, .ireturn, 1, 0, 0, [])]
theorem ok_Pro_holds_72 : blkOK b_Pro_holds pt_Pro 83 I_Pro_holds_72 = true := by decide +kernel
def I_Pro_holds_83 : List IT := [(83, .aload_n 0, 1, 0, 0, []), (84, .getfield 17, 3, 0, 0, []), (87, .iconst 1, 1, 1, 0, []), (88, .invokevirtual 40, 3, 0, 0, []), (91, .ireturn, 1, 0, 0, [])]
theorem ok_Pro_holds_83 : blkOK b_Pro_holds pt_Pro 92 I_Pro_holds_83 = true := by decide +kernel
def I_Pro_holds_92 : List IT := [(92, .aload_n 0, 1, 0, 0, []), (93, .getfield 17, 3, 0, 0, []), (96, .bipush 64, 2, 64, 0, []), (98, .invokevirtual 40, 3, 0, 0, []), (101, .ireturn, 1, 0, 0, [])]
theorem ok_Pro_holds_92 : blkOK b_Pro_holds pt_Pro 102 I_Pro_holds_92 = true := by decide +kernel
def I_Pro_holds_102 : List IT := [(102, .aload_n 0, 1, 0, 0, []), (103, .getfield 17, 3, 0, 0, []), (106, .bipush 65, 2, 65, 0, []), (108, .invokevirtual 40, 3, 0, 0, []), (111, .ireturn, 1, 0, 0, [])]
theorem ok_Pro_holds_102 : blkOK b_Pro_holds pt_Pro 112 I_Pro_holds_102 = true := by decide +kernel
def I_Pro_holds_112 : List IT := [(112, .aload_n 0, 1, 0, 0, []), (113, .getfield 17, 3, 0, 0, []), (116, .sipush 128, 3, 128, 0, []), (119, .invokevirtual 40, 3, 0, 0, []), (122, .ireturn, 1, 0, 0, [])]
theorem ok_Pro_holds_112 : blkOK b_Pro_holds pt_Pro 123 I_Pro_holds_112 = true := by decide +kernel
def I_Pro_holds_123 : List IT := [(123, .iload_n 2, 1, 0, 0, []), (124, .ireturn, 1, 0, 0, [])]
theorem ok_Pro_holds_123 : blkOK b_Pro_holds pt_Pro 125 I_Pro_holds_123 = true := by decide +kernel
def I_Pro_holds_125 : List IT := [(125, .iload_n 2, 1, 0, 0, []), (126, .ifCond .ne 15, 3, 0, 141, []), (129, .aload_n 0, 1, 0, 0, []), (130, .getfield 17, 3, 0, 0, []), (133, .bipush 64, 2, 64, 0, []), (135, .invokevirtual 40, 3, 0, 0, []), (138, .ifCond .eq 7, 3, 0, 145, [])]
theorem ok_Pro_holds_125 : blkOK b_Pro_holds pt_Pro 141 I_Pro_holds_125 = true := by decide +kernel
def I_Pro_holds_141 : List IT := [(141, .iconst 1, 1, 1, 0, []), (142, .goto 4, 3, 0, 146, [])]
theorem ok_Pro_holds_141 : blkOK b_Pro_holds pt_Pro 145 I_Pro_holds_141 = true := by decide +kernel
def I_Pro_holds_145 : List IT := [(145, .iconst 0, 1, 0, 0, [])]
theorem ok_Pro_holds_145 : blkOK b_Pro_holds pt_Pro 146 I_Pro_holds_145 = true := by decide +kernel
def I_Pro_holds_146 : List IT := [(146, .ireturn, 1, 0, 0, [])]
theorem ok_Pro_holds_146 : blkOK b_Pro_holds pt_Pro 147 I_Pro_holds_146 = true := by decide +kernel
def f_Pro_holds_125 (σ : Sg) (x2 : Int32) : Int32 × Sg := (if x2 = (0 : Int32) then (bnd (f_Fla_on σ (64 : Int32)) fun r2 => (if r2.1 = (0 : Int32) then ((0 : Int32), r2.2) else ((1 : Int32), r2.2))) else ((1 : Int32), σ))
theorem z_Pro_holds_125 {σ : Sg} {x2 : Int32} (z_x2 : x2 = 0 ∨ x2 = 1) : (f_Pro_holds_125 σ x2).1 = 0 ∨ (f_Pro_holds_125 σ x2).1 = 1 := by
  show Zb (f_Pro_holds_125 σ x2)
  unfold f_Pro_holds_125
  refine ite_z (fun h1 => ?_) (fun h1 => ?_)
  · refine bnd_zz (Z := Zb) (z_Fla_on) fun r2 z2 => ?_
    refine ite_z (fun h3 => ?_) (fun h3 => ?_)
    · exact (Or.inl rfl)
    · exact (Or.inr rfl)
  · exact (Or.inr rfl)
set_option maxRecDepth 100000 in
set_option maxHeartbeats 4000000 in
theorem b_Pro_holds_125 {l : Launch} {ad : Nat → Nat} {D : va_G} {cI : ClassId} {K : Option Value → Sg → Prop} {X : Nat → List Value → List Value → Sg → Prop} (hX : Cl l ad D cI mi_Pro_holds pt_Pro K X) {σ : Sg} {x2 : Int32} (z_x2 : x2 = 0 ∨ x2 = 1)  (hK : KI K (f_Pro_holds_125 σ x2)) : X 125 [.ref 12, .null, .int x2] [] σ := by
  unfold f_Pro_holds_125 at hK
  refine hX.1 141 I_Pro_holds_125 ok_Pro_holds_125 _ _ _ ?_
  refine And.intro (fun h1 => ?_) (fun h1 => ?_)
  · have hK := ite_p hK h1
    refine s_Fla_on (bnd_g hK fun r2 e2 hK => ?_)
    have z2 : r2.1 = 0 ∨ r2.1 = 1 := by rw [← e2]; exact z_Fla_on
    refine And.intro (fun h3 => ?_) (fun h3 => ?_)
    · have hK := ite_p hK h3
      refine hX.1 146 I_Pro_holds_145 ok_Pro_holds_145 _ _ _ ?_
      refine hX.1 147 I_Pro_holds_146 ok_Pro_holds_146 _ _ _ ?_
      exact And.intro (Or.inl rfl) hK
    · have hK := ite_n hK h3
      refine hX.1 145 I_Pro_holds_141 ok_Pro_holds_141 _ _ _ ?_
      refine hX.1 147 I_Pro_holds_146 ok_Pro_holds_146 _ _ _ ?_
      exact And.intro (Or.inr rfl) hK
  · have hK := ite_n hK h1
    refine hX.1 145 I_Pro_holds_141 ok_Pro_holds_141 _ _ _ ?_
    refine hX.1 147 I_Pro_holds_146 ok_Pro_holds_146 _ _ _ ?_
    exact And.intro (Or.inr rfl) hK
def f_Pro_holds_28 (σ : Sg) (x1 : Int32) (y0 : Int32) : Int32 × Sg := (if x1 = (0 : Int32) then (bnd (f_Fla_on σ (2048 : Int32)) fun r2 => (r2.1, r2.2)) else (if x1 = (1 : Int32) then (bnd (f_Fla_on σ (1 : Int32)) fun r4 => (r4.1, r4.2)) else (if x1 = (2 : Int32) then (bnd (f_Fla_on σ (64 : Int32)) fun r6 => (r6.1, r6.2)) else (if x1 = (3 : Int32) then (bnd (f_Fla_on σ (65 : Int32)) fun r8 => (r8.1, r8.2)) else (if x1 = (4 : Int32) then (bnd (f_Fla_on σ (128 : Int32)) fun r10 => (r10.1, r10.2)) else (if x1 = (5 : Int32) then (f_Pro_holds_125 σ y0) else (if x1 = (6 : Int32) then (y0, σ) else (f_Pro_holds_125 σ y0))))))))
theorem z_Pro_holds_28 {σ : Sg} {x1 : Int32} {y0 : Int32} (z_y0 : y0 = 0 ∨ y0 = 1) : (f_Pro_holds_28 σ x1 y0).1 = 0 ∨ (f_Pro_holds_28 σ x1 y0).1 = 1 := by
  show Zb (f_Pro_holds_28 σ x1 y0)
  unfold f_Pro_holds_28
  refine ite_z (fun h1 => ?_) (fun h1 => ?_)
  · refine bnd_zz (Z := Zb) (z_Fla_on) fun r2 z2 => ?_
    exact z2
  refine ite_z (fun h3 => ?_) (fun h3 => ?_)
  · refine bnd_zz (Z := Zb) (z_Fla_on) fun r4 z4 => ?_
    exact z4
  refine ite_z (fun h5 => ?_) (fun h5 => ?_)
  · refine bnd_zz (Z := Zb) (z_Fla_on) fun r6 z6 => ?_
    exact z6
  refine ite_z (fun h7 => ?_) (fun h7 => ?_)
  · refine bnd_zz (Z := Zb) (z_Fla_on) fun r8 z8 => ?_
    exact z8
  refine ite_z (fun h9 => ?_) (fun h9 => ?_)
  · refine bnd_zz (Z := Zb) (z_Fla_on) fun r10 z10 => ?_
    exact z10
  refine ite_z (fun h11 => ?_) (fun h11 => ?_)
  · exact z_Pro_holds_125 z_y0
  refine ite_z (fun h12 => ?_) (fun h12 => ?_)
  · exact z_y0
  exact z_Pro_holds_125 z_y0
set_option maxRecDepth 100000 in
set_option maxHeartbeats 4000000 in
theorem b_Pro_holds_28 {l : Launch} {ad : Nat → Nat} {D : va_G} {cI : ClassId} {K : Option Value → Sg → Prop} {X : Nat → List Value → List Value → Sg → Prop} (hX : Cl l ad D cI mi_Pro_holds pt_Pro K X) {σ : Sg} {x1 : Int32} {y0 : Int32} (z_y0 : y0 = 0 ∨ y0 = 1)  (hK : KI K (f_Pro_holds_28 σ x1 y0)) : X 28 [.ref 12, .int x1, .null] [.int y0] σ := by
  unfold f_Pro_holds_28 at hK
  refine hX.1 72 I_Pro_holds_28 ok_Pro_holds_28 _ _ _ ?_
  refine And.intro (fun h1 => ?_) (fun h1 => ?_)
  · have hK := ite_p hK h1
    refine hX.1 83 I_Pro_holds_72 ok_Pro_holds_72 _ _ _ ?_
    refine s_Fla_on (bnd_g hK fun r2 e2 hK => ?_)
    have z2 : r2.1 = 0 ∨ r2.1 = 1 := by rw [← e2]; exact z_Fla_on
    exact And.intro z2 hK
  have hK := ite_n hK h1
  refine And.intro (fun h3 => ?_) (fun h3 => ?_)
  · have hK := ite_p hK h3
    refine hX.1 92 I_Pro_holds_83 ok_Pro_holds_83 _ _ _ ?_
    refine s_Fla_on (bnd_g hK fun r4 e4 hK => ?_)
    have z4 : r4.1 = 0 ∨ r4.1 = 1 := by rw [← e4]; exact z_Fla_on
    exact And.intro z4 hK
  have hK := ite_n hK h3
  refine And.intro (fun h5 => ?_) (fun h5 => ?_)
  · have hK := ite_p hK h5
    refine hX.1 102 I_Pro_holds_92 ok_Pro_holds_92 _ _ _ ?_
    refine s_Fla_on (bnd_g hK fun r6 e6 hK => ?_)
    have z6 : r6.1 = 0 ∨ r6.1 = 1 := by rw [← e6]; exact z_Fla_on
    exact And.intro z6 hK
  have hK := ite_n hK h5
  refine And.intro (fun h7 => ?_) (fun h7 => ?_)
  · have hK := ite_p hK h7
    refine hX.1 112 I_Pro_holds_102 ok_Pro_holds_102 _ _ _ ?_
    refine s_Fla_on (bnd_g hK fun r8 e8 hK => ?_)
    have z8 : r8.1 = 0 ∨ r8.1 = 1 := by rw [← e8]; exact z_Fla_on
    exact And.intro z8 hK
  have hK := ite_n hK h7
  refine And.intro (fun h9 => ?_) (fun h9 => ?_)
  · have hK := ite_p hK h9
    refine hX.1 123 I_Pro_holds_112 ok_Pro_holds_112 _ _ _ ?_
    refine s_Fla_on (bnd_g hK fun r10 e10 hK => ?_)
    have z10 : r10.1 = 0 ∨ r10.1 = 1 := by rw [← e10]; exact z_Fla_on
    exact And.intro z10 hK
  have hK := ite_n hK h9
  refine And.intro (fun h11 => ?_) (fun h11 => ?_)
  · have hK := ite_p hK h11
    refine hX.fg [1] ?_
    exact b_Pro_holds_125 hX z_y0 hK
  have hK := ite_n hK h11
  refine And.intro (fun h12 => ?_) (fun h12 => ?_)
  · have hK := ite_p hK h12
    refine hX.1 125 I_Pro_holds_123 ok_Pro_holds_123 _ _ _ ?_
    exact And.intro z_y0 hK
  have hK := ite_n hK h12
  refine hX.fg [1] ?_
  exact b_Pro_holds_125 hX z_y0 hK
def f_Pro_holds (σ : Sg) (a1 : Int32) : Int32 × Sg := (bnd (f_Fla_on σ (128 : Int32)) fun r1 => bnd (f_Fla_on r1.2 (2048 : Int32)) fun r2 => (if r1.1 = r2.1 then (f_Pro_holds_28 r2.2 a1 (0 : Int32)) else (f_Pro_holds_28 r2.2 a1 (1 : Int32))))
theorem z_Pro_holds {σ : Sg} {a1 : Int32}  : (f_Pro_holds σ a1).1 = 0 ∨ (f_Pro_holds σ a1).1 = 1 := by
  show Zb (f_Pro_holds σ a1)
  unfold f_Pro_holds
  refine bnd_zz (Z := Zb) (z_Fla_on) fun r1 z1 => ?_
  refine bnd_zz (Z := Zb) (z_Fla_on) fun r2 z2 => ?_
  refine ite_z (fun h3 => ?_) (fun h3 => ?_)
  · exact z_Pro_holds_28 (Or.inl rfl)
  · exact z_Pro_holds_28 (Or.inr rfl)
set_option maxRecDepth 100000 in
set_option maxHeartbeats 4000000 in
theorem s_Pro_holds {l : Launch} {ad : Nat → Nat} {D : va_G} {cI : ClassId} {σ : Sg} {a1 : Int32} {K : Option Value → Sg → Prop}   (hK : KI K (f_Pro_holds σ a1)) : MetJ l ad D cI mi_Pro_holds [.ref 12, .int a1] σ K := by
  refine met_of mi_Pro_holds pt_Pro pt_Pro_in rfl pl_Pro rfl (Nat.le_of_ble_eq_true rfl) fun X hX => ?_
  have hX : Cl l ad D cI mi_Pro_holds pt_Pro K X := hX
  show X 0 [.ref 12, .int a1, .null] [] σ
  unfold f_Pro_holds at hK
  refine hX.1 27 I_Pro_holds_0 ok_Pro_holds_0 _ _ _ ?_
  refine s_Fla_on (bnd_g hK fun r1 e1 hK => ?_)
  have z1 : r1.1 = 0 ∨ r1.1 = 1 := by rw [← e1]; exact z_Fla_on
  refine s_Fla_on (bnd_g hK fun r2 e2 hK => ?_)
  have z2 : r2.1 = 0 ∨ r2.1 = 1 := by rw [← e2]; exact z_Fla_on
  refine And.intro (fun h3 => ?_) (fun h3 => ?_)
  · have hK := ite_p hK h3
    refine hX.1 28 I_Pro_holds_27 ok_Pro_holds_27 _ _ _ ?_
    exact b_Pro_holds_28 hX (Or.inl rfl) hK
  · have hK := ite_n hK h3
    exact b_Pro_holds_28 hX (Or.inr rfl) hK
def I_Pro_jumpIf_0 : List IT := [(0, .iload_n 1, 1, 0, 0, []), (1, .bipush 10, 2, 10, 0, []), (3, .if_icmp .eq 9, 3, 0, 12, []), (6, .iload_n 1, 1, 0, 0, []), (7, .bipush 11, 2, 11, 0, []), (9, .if_icmp .ne 5, 3, 0, 14, [])]
theorem ok_Pro_jumpIf_0 : blkOK b_Pro_jumpIf pt_Pro 12 I_Pro_jumpIf_0 = true := by decide +kernel
def I_Pro_jumpIf_12 : List IT := [(12, .iconst 0, 1, 0, 0, []), (13, .ireturn, 1, 0, 0, [])]
theorem ok_Pro_jumpIf_12 : blkOK b_Pro_jumpIf pt_Pro 14 I_Pro_jumpIf_12 = true := by decide +kernel
def I_Pro_jumpIf_14 : List IT := [(14, .aload_n 0, 1, 0, 0, []), (15, .getfield 34, 3, 0, 0, []), (18, .invokevirtual 152, 3, 0, 0, []), (21, .istore_n 2, 1, 0, 0, []), (22, .aload_n 0, 1, 0, 0, []), (23, .iload_n 1, 1, 0, 0, []), (24, .iconst 1, 1, 1, 0, []), (25, .ishr, 1, 0, 0, []), (26, .invokevirtual 175, 3, 0, 0, []), (29, .iload_n 1, 1, 0, 0, []), (30, .iconst 1, 1, 1, 0, []), (31, .iand, 1, 0, 0, []), (32, .ifCond .ne 7, 3, 0, 39, []), (35, .iconst 1, 1, 1, 0, []), (36, .goto 4, 3, 0, 40, [])]
theorem ok_Pro_jumpIf_14 : blkOK b_Pro_jumpIf pt_Pro 39 I_Pro_jumpIf_14 = true := by decide +kernel
def I_Pro_jumpIf_39 : List IT := [(39, .iconst 0, 1, 0, 0, [])]
theorem ok_Pro_jumpIf_39 : blkOK b_Pro_jumpIf pt_Pro 40 I_Pro_jumpIf_39 = true := by decide +kernel
def I_Pro_jumpIf_40 : List IT := [(40, .if_icmp .ne 11, 3, 0, 51, []), (43, .aload_n 0, 1, 0, 0, []), (44, .getfield 13, 3, 0, 0, []), (47, .iload_n 2, 1, 0, 0, []), (48, .invokevirtual 178, 3, 0, 0, [])]
theorem ok_Pro_jumpIf_40 : blkOK b_Pro_jumpIf pt_Pro 51 I_Pro_jumpIf_40 = true := by decide +kernel
def I_Pro_jumpIf_51 : List IT := [(51, .iconst 1, 1, 1, 0, []), (52, .ireturn, 1, 0, 0, [])]
theorem ok_Pro_jumpIf_51 : blkOK b_Pro_jumpIf pt_Pro 53 I_Pro_jumpIf_51 = true := by decide +kernel
def f_Pro_jumpIf_40 (σ : Sg) (x2 : Int32) (y0 : Int32) (y1 : Int32) : Int32 × Sg := (if y1 = y0 then (bnd (f_Reg_jump σ x2) fun r2 => ((1 : Int32), r2)) else ((1 : Int32), σ))
theorem z_Pro_jumpIf_40 {σ : Sg} {x2 : Int32} {y0 : Int32} {y1 : Int32} (z_y0 : y0 = 0 ∨ y0 = 1) (z_y1 : y1 = 0 ∨ y1 = 1) : (f_Pro_jumpIf_40 σ x2 y0 y1).1 = 0 ∨ (f_Pro_jumpIf_40 σ x2 y0 y1).1 = 1 := by
  show Zb (f_Pro_jumpIf_40 σ x2 y0 y1)
  unfold f_Pro_jumpIf_40
  refine ite_z (fun h1 => ?_) (fun h1 => ?_)
  · refine bnd_z fun r2 => ?_
    exact (Or.inr rfl)
  · exact (Or.inr rfl)
set_option maxRecDepth 100000 in
set_option maxHeartbeats 4000000 in
theorem b_Pro_jumpIf_40 {l : Launch} {ad : Nat → Nat} {D : va_G} {cI : ClassId} {K : Option Value → Sg → Prop} {X : Nat → List Value → List Value → Sg → Prop} (hX : Cl l ad D cI mi_Pro_jumpIf pt_Pro K X) {σ : Sg} {x2 : Int32} {y0 : Int32} {y1 : Int32} (z_y0 : y0 = 0 ∨ y0 = 1) (z_y1 : y1 = 0 ∨ y1 = 1)  (hK : KI K (f_Pro_jumpIf_40 σ x2 y0 y1)) : X 40 [.ref 12, .null, .int x2] [.int y0, .int y1] σ := by
  unfold f_Pro_jumpIf_40 at hK
  refine hX.1 51 I_Pro_jumpIf_40 ok_Pro_jumpIf_40 _ _ _ ?_
  refine And.intro (fun h1 => ?_) (fun h1 => ?_)
  · have hK := ite_p hK h1
    refine s_Reg_jump (bnd_g hK fun r2 e2 hK => ?_)
    refine hX.1 53 I_Pro_jumpIf_51 ok_Pro_jumpIf_51 _ _ _ ?_
    exact And.intro (Or.inr rfl) hK
  · have hK := ite_n hK h1
    refine hX.1 53 I_Pro_jumpIf_51 ok_Pro_jumpIf_51 _ _ _ ?_
    exact And.intro (Or.inr rfl) hK
def f_Pro_jumpIf (σ : Sg) (a1 : Int32) : Int32 × Sg := (if a1 = (10 : Int32) then ((0 : Int32), σ) else (if a1 = (11 : Int32) then ((0 : Int32), σ) else (bnd (f_Dec_nextSigned σ) fun r3 => bnd (f_Pro_holds r3.2 (a1 >>> ((1 : Int32) &&& 31 : Int32))) fun r4 => (if (a1 &&& (1 : Int32)) = (0 : Int32) then (f_Pro_jumpIf_40 r4.2 r3.1 (1 : Int32) r4.1) else (f_Pro_jumpIf_40 r4.2 r3.1 (0 : Int32) r4.1)))))
theorem z_Pro_jumpIf {σ : Sg} {a1 : Int32}  : (f_Pro_jumpIf σ a1).1 = 0 ∨ (f_Pro_jumpIf σ a1).1 = 1 := by
  show Zb (f_Pro_jumpIf σ a1)
  unfold f_Pro_jumpIf
  refine ite_z (fun h1 => ?_) (fun h1 => ?_)
  · exact (Or.inl rfl)
  · refine ite_z (fun h2 => ?_) (fun h2 => ?_)
    · exact (Or.inl rfl)
    · refine bnd_z fun r3 => ?_
      refine bnd_zz (Z := Zb) (z_Pro_holds) fun r4 z4 => ?_
      refine ite_z (fun h5 => ?_) (fun h5 => ?_)
      · exact z_Pro_jumpIf_40 (Or.inr rfl) z4
      · exact z_Pro_jumpIf_40 (Or.inl rfl) z4
set_option maxRecDepth 100000 in
set_option maxHeartbeats 4000000 in
theorem s_Pro_jumpIf {l : Launch} {ad : Nat → Nat} {D : va_G} {cI : ClassId} {σ : Sg} {a1 : Int32} {K : Option Value → Sg → Prop}   (hK : KI K (f_Pro_jumpIf σ a1)) : MetJ l ad D cI mi_Pro_jumpIf [.ref 12, .int a1] σ K := by
  refine met_of mi_Pro_jumpIf pt_Pro pt_Pro_in rfl pl_Pro rfl (Nat.le_of_ble_eq_true rfl) fun X hX => ?_
  have hX : Cl l ad D cI mi_Pro_jumpIf pt_Pro K X := hX
  show X 0 [.ref 12, .int a1, .null] [] σ
  unfold f_Pro_jumpIf at hK
  refine hX.1 12 I_Pro_jumpIf_0 ok_Pro_jumpIf_0 _ _ _ ?_
  refine And.intro (fun h1 => ?_) (fun h1 => ?_)
  · have hK := ite_p hK h1
    refine hX.1 14 I_Pro_jumpIf_12 ok_Pro_jumpIf_12 _ _ _ ?_
    exact And.intro (Or.inl rfl) hK
  · have hK := ite_n hK h1
    refine And.intro (fun h2 => ?_) (fun h2 => ?_)
    · have hK := ite_p hK h2
      refine hX.1 14 I_Pro_jumpIf_12 ok_Pro_jumpIf_12 _ _ _ ?_
      exact And.intro (Or.inl rfl) hK
    · have hK := ite_n hK h2
      refine hX.1 39 I_Pro_jumpIf_14 ok_Pro_jumpIf_14 _ _ _ ?_
      refine s_Dec_nextSigned (bnd_g hK fun r3 e3 hK => ?_)
      refine s_Pro_holds (bnd_g hK fun r4 e4 hK => ?_)
      have z4 : r4.1 = 0 ∨ r4.1 = 1 := by rw [← e4]; exact z_Pro_holds
      refine And.intro (fun h5 => ?_) (fun h5 => ?_)
      · have hK := ite_p hK h5
        refine hX.fg [1] ?_
        exact b_Pro_jumpIf_40 hX (Or.inr rfl) z4 hK
      · have hK := ite_n hK h5
        refine hX.1 40 I_Pro_jumpIf_39 ok_Pro_jumpIf_39 _ _ _ ?_
        refine hX.fg [1] ?_
        exact b_Pro_jumpIf_40 hX (Or.inl rfl) z4 hK
def I_Pro_combineGiven_0 : List IT := [(0, .iload_n 1, 1, 0, 0, []), (1, .sipush 131, 3, 131, 0, []), (4, .if_icmp .gt 10, 3, 0, 14, []), (7, .iload_n 1, 1, 0, 0, []), (8, .sipush 130, 3, 130, 0, []), (11, .if_icmp .ne 5, 3, 0, 16, [])]
theorem ok_Pro_combineGiven_0 : blkOK b_Pro_combineGiven pt_Pro 14 I_Pro_combineGiven_0 = true := by decide +kernel
def I_Pro_combineGiven_14 : List IT := [(14, .iconst 0, 1, 0, 0, []), (15, .ireturn, 1, 0, 0, [])]
theorem ok_Pro_combineGiven_14 : blkOK b_Pro_combineGiven pt_Pro 16 I_Pro_combineGiven_14 = true := by decide +kernel
def I_Pro_combineGiven_16 : List IT := [(16, .iload_n 1, 1, 0, 0, []), (17, .sipush 128, 3, 128, 0, []), (20, .if_icmp .eq 7, 3, 0, 27, []), (23, .iconst 1, 1, 1, 0, []), (24, .goto 4, 3, 0, 28, [])]
theorem ok_Pro_combineGiven_16 : blkOK b_Pro_combineGiven pt_Pro 27 I_Pro_combineGiven_16 = true := by decide +kernel
def I_Pro_combineGiven_27 : List IT := [(27, .iconst 0, 1, 0, 0, [])]
theorem ok_Pro_combineGiven_27 : blkOK b_Pro_combineGiven pt_Pro 28 I_Pro_combineGiven_27 = true := by decide +kernel
def I_Pro_combineGiven_28 : List IT := [(28, .istore_n 2, 1, 0, 0, []), (29, .aload_n 0, 1, 0, 0, []), (30, .getfield 34, 3, 0, 0, []), (33, .iload_n 2, 1, 0, 0, []), (34, .invokevirtual 141, 3, 0, 0, []), (37, .iload_n 1, 1, 0, 0, []), (38, .sipush 131, 3, 131, 0, []), (41, .if_icmp .ne 16, 3, 0, 57, []), (44, .aload_n 0, 1, 0, 0, []), (45, .getfield 34, 3, 0, 0, []), (48, .invokevirtual 152, 3, 0, 0, []), (51, .ldc 155, 2, 65535, 0, []), (53, .iand, 1, 0, 0, []), (54, .goto 11, 3, 0, 65, [])]
theorem ok_Pro_combineGiven_28 : blkOK b_Pro_combineGiven pt_Pro 57 I_Pro_combineGiven_28 = true := by decide +kernel
def I_Pro_combineGiven_57 : List IT := [(57, .aload_n 0, 1, 0, 0, []), (58, .getfield 34, 3, 0, 0, []), (61, .iload_n 2, 1, 0, 0, []), (62, .invokevirtual 126, 3, 0, 0, [])]
theorem ok_Pro_combineGiven_57 : blkOK b_Pro_combineGiven pt_Pro 65 I_Pro_combineGiven_57 = true := by decide +kernel
def I_Pro_combineGiven_65 : List IT := [(65, .istore_n 3, 1, 0, 0, []), (66, .aload_n 0, 1, 0, 0, []), (67, .getfield 34, 3, 0, 0, []), (70, .aload_n 0, 1, 0, 0, []), (71, .getfield 17, 3, 0, 0, []), (74, .aload_n 0, 1, 0, 0, []), (75, .getfield 34, 3, 0, 0, []), (78, .getfield 147, 3, 0, 0, []), (81, .aload_n 0, 1, 0, 0, []), (82, .getfield 34, 3, 0, 0, []), (85, .invokevirtual 145, 3, 0, 0, []), (88, .iload_n 3, 1, 0, 0, []), (89, .iload_n 2, 1, 0, 0, []), (90, .invokevirtual 134, 3, 0, 0, []), (93, .invokevirtual 150, 3, 0, 0, []), (96, .iconst 1, 1, 1, 0, []), (97, .ireturn, 1, 0, 0, [])]
theorem ok_Pro_combineGiven_65 : blkOK b_Pro_combineGiven pt_Pro 98 I_Pro_combineGiven_65 = true := by decide +kernel
def f_Pro_combineGiven_65 (σ : Sg) (x2 : Int32) (y0 : Int32) : Int32 × Sg := (bnd (f_Dec_value σ) fun r1 => bnd (f_Fla_combine r1.2 (σ 14 5) r1.1 y0 x2) fun r2 => bnd (f_Dec_change r2.2 r2.1) fun r3 => ((1 : Int32), r3))
theorem z_Pro_combineGiven_65 {σ : Sg} {x2 : Int32} {y0 : Int32} (z_x2 : x2 = 0 ∨ x2 = 1) : (f_Pro_combineGiven_65 σ x2 y0).1 = 0 ∨ (f_Pro_combineGiven_65 σ x2 y0).1 = 1 := by
  show Zb (f_Pro_combineGiven_65 σ x2 y0)
  unfold f_Pro_combineGiven_65
  refine bnd_z fun r1 => ?_
  refine bnd_z fun r2 => ?_
  refine bnd_z fun r3 => ?_
  exact (Or.inr rfl)
set_option maxRecDepth 100000 in
set_option maxHeartbeats 4000000 in
theorem b_Pro_combineGiven_65 {l : Launch} {ad : Nat → Nat} {D : va_G} {cI : ClassId} {K : Option Value → Sg → Prop} {X : Nat → List Value → List Value → Sg → Prop} (hX : Cl l ad D cI mi_Pro_combineGiven pt_Pro K X) {σ : Sg} {x2 : Int32} {y0 : Int32} (z_x2 : x2 = 0 ∨ x2 = 1)  (hK : KI K (f_Pro_combineGiven_65 σ x2 y0)) : X 65 [.ref 12, .null, .int x2, .null] [.int y0] σ := by
  unfold f_Pro_combineGiven_65 at hK
  refine hX.1 98 I_Pro_combineGiven_65 ok_Pro_combineGiven_65 _ _ _ ?_
  refine s_Dec_value (bnd_g hK fun r1 e1 hK => ?_)
  refine s_Fla_combine (bnd_g hK fun r2 e2 hK => ?_)
  refine s_Dec_change (bnd_g hK fun r3 e3 hK => ?_)
  exact And.intro (Or.inr rfl) hK
def f_Pro_combineGiven_28 (σ : Sg) (x1 : Int32) (y0 : Int32) : Int32 × Sg := (bnd (f_Dec_readModrm σ y0) fun r1 => (if x1 = (131 : Int32) then (bnd (f_Dec_nextSigned r1) fun r3 => (f_Pro_combineGiven_65 r3.2 y0 (r3.1 &&& (65535 : Int32)))) else (bnd (f_Dec_nextOf r1 y0) fun r4 => (f_Pro_combineGiven_65 r4.2 y0 r4.1))))
theorem z_Pro_combineGiven_28 {σ : Sg} {x1 : Int32} {y0 : Int32} (z_y0 : y0 = 0 ∨ y0 = 1) : (f_Pro_combineGiven_28 σ x1 y0).1 = 0 ∨ (f_Pro_combineGiven_28 σ x1 y0).1 = 1 := by
  show Zb (f_Pro_combineGiven_28 σ x1 y0)
  unfold f_Pro_combineGiven_28
  refine bnd_z fun r1 => ?_
  refine ite_z (fun h2 => ?_) (fun h2 => ?_)
  · refine bnd_z fun r3 => ?_
    exact z_Pro_combineGiven_65 z_y0
  · refine bnd_z fun r4 => ?_
    exact z_Pro_combineGiven_65 z_y0
set_option maxRecDepth 100000 in
set_option maxHeartbeats 4000000 in
theorem b_Pro_combineGiven_28 {l : Launch} {ad : Nat → Nat} {D : va_G} {cI : ClassId} {K : Option Value → Sg → Prop} {X : Nat → List Value → List Value → Sg → Prop} (hX : Cl l ad D cI mi_Pro_combineGiven pt_Pro K X) {σ : Sg} {x1 : Int32} {y0 : Int32} (z_y0 : y0 = 0 ∨ y0 = 1)  (hK : KI K (f_Pro_combineGiven_28 σ x1 y0)) : X 28 [.ref 12, .int x1, .null, .null] [.int y0] σ := by
  unfold f_Pro_combineGiven_28 at hK
  refine hX.1 57 I_Pro_combineGiven_28 ok_Pro_combineGiven_28 _ _ _ ?_
  refine s_Dec_readModrm z_y0 (bnd_g hK fun r1 e1 hK => ?_)
  refine And.intro (fun h2 => ?_) (fun h2 => ?_)
  · have hK := ite_p hK h2
    refine s_Dec_nextSigned (bnd_g hK fun r3 e3 hK => ?_)
    refine hX.fg [1] ?_
    exact b_Pro_combineGiven_65 hX z_y0 hK
  · have hK := ite_n hK h2
    refine hX.1 65 I_Pro_combineGiven_57 ok_Pro_combineGiven_57 _ _ _ ?_
    refine s_Dec_nextOf (bnd_g hK fun r4 e4 hK => ?_)
    refine hX.fg [1] ?_
    exact b_Pro_combineGiven_65 hX z_y0 hK
def f_Pro_combineGiven (σ : Sg) (a1 : Int32) : Int32 × Sg := (if (131 : Int32) < a1 then ((0 : Int32), σ) else (if a1 = (130 : Int32) then ((0 : Int32), σ) else (if a1 = (128 : Int32) then (f_Pro_combineGiven_28 σ a1 (0 : Int32)) else (f_Pro_combineGiven_28 σ a1 (1 : Int32)))))
theorem z_Pro_combineGiven {σ : Sg} {a1 : Int32}  : (f_Pro_combineGiven σ a1).1 = 0 ∨ (f_Pro_combineGiven σ a1).1 = 1 := by
  show Zb (f_Pro_combineGiven σ a1)
  unfold f_Pro_combineGiven
  refine ite_z (fun h1 => ?_) (fun h1 => ?_)
  · exact (Or.inl rfl)
  · refine ite_z (fun h2 => ?_) (fun h2 => ?_)
    · exact (Or.inl rfl)
    · refine ite_z (fun h3 => ?_) (fun h3 => ?_)
      · exact z_Pro_combineGiven_28 (Or.inl rfl)
      · exact z_Pro_combineGiven_28 (Or.inr rfl)
set_option maxRecDepth 100000 in
set_option maxHeartbeats 4000000 in
theorem s_Pro_combineGiven {l : Launch} {ad : Nat → Nat} {D : va_G} {cI : ClassId} {σ : Sg} {a1 : Int32} {K : Option Value → Sg → Prop}   (hK : KI K (f_Pro_combineGiven σ a1)) : MetJ l ad D cI mi_Pro_combineGiven [.ref 12, .int a1] σ K := by
  refine met_of mi_Pro_combineGiven pt_Pro pt_Pro_in rfl pl_Pro rfl (Nat.le_of_ble_eq_true rfl) fun X hX => ?_
  have hX : Cl l ad D cI mi_Pro_combineGiven pt_Pro K X := hX
  show X 0 [.ref 12, .int a1, .null, .null] [] σ
  unfold f_Pro_combineGiven at hK
  refine hX.1 14 I_Pro_combineGiven_0 ok_Pro_combineGiven_0 _ _ _ ?_
  refine And.intro (fun h1 => ?_) (fun h1 => ?_)
  · have hK := ite_p hK h1
    refine hX.1 16 I_Pro_combineGiven_14 ok_Pro_combineGiven_14 _ _ _ ?_
    exact And.intro (Or.inl rfl) hK
  · have hK := ite_n hK h1
    refine And.intro (fun h2 => ?_) (fun h2 => ?_)
    · have hK := ite_p hK h2
      refine hX.1 16 I_Pro_combineGiven_14 ok_Pro_combineGiven_14 _ _ _ ?_
      exact And.intro (Or.inl rfl) hK
    · have hK := ite_n hK h2
      refine hX.1 27 I_Pro_combineGiven_16 ok_Pro_combineGiven_16 _ _ _ ?_
      refine And.intro (fun h3 => ?_) (fun h3 => ?_)
      · have hK := ite_p hK h3
        refine hX.1 28 I_Pro_combineGiven_27 ok_Pro_combineGiven_27 _ _ _ ?_
        exact b_Pro_combineGiven_28 hX (Or.inl rfl) hK
      · have hK := ite_n hK h3
        exact b_Pro_combineGiven_28 hX (Or.inr rfl) hK
def I_Pro_moveSegmentOrOffset_0 : List IT := [(0, .aload_n 0, 1, 0, 0, []), (1, .getfield 34, 3, 0, 0, []), (4, .getfield 147, 3, 0, 0, []), (7, .iconst 3, 1, 3, 0, []), (8, .iand, 1, 0, 0, []), (9, .istore_n 2, 1, 0, 0, []), (10, .iload_n 1, 1, 0, 0, []), (11, .sipush 140, 3, 140, 0, []), (14, .if_icmp .ne 21, 3, 0, 35, []), (17, .aload_n 0, 1, 0, 0, []), (18, .getfield 34, 3, 0, 0, []), (21, .aload_n 0, 1, 0, 0, []), (22, .getfield 13, 3, 0, 0, []), (25, .getfield 156, 3, 0, 0, []), (28, .iload_n 2, 1, 0, 0, []), (29, .iaload, 1, 0, 0, []), (30, .invokevirtual 150, 3, 0, 0, []), (33, .iconst 1, 1, 1, 0, []), (34, .ireturn, 1, 0, 0, [])]
theorem ok_Pro_moveSegmentOrOffset_0 : blkOK b_Pro_moveSegmentOrOffset pt_Pro 35 I_Pro_moveSegmentOrOffset_0 = true := by decide +kernel
def I_Pro_moveSegmentOrOffset_35 : List IT := [(35, .iload_n 1, 1, 0, 0, []), (36, .sipush 141, 3, 141, 0, []), (39, .if_icmp .ne 46, 3, 0, 85, []), (42, .aload_n 0, 1, 0, 0, []), (43, .getfield 34, 3, 0, 0, []), (46, .getfield 184, 3, 0, 0, []), (49, .ifCond .eq 28, 3, 0, 77, []), (52, .aload_n 0, 1, 0, 0, []), (53, .getfield 13, 3, 0, 0, []), (56, .getfield 166, 3, 0, 0, []), (59, .aload_n 0, 1, 0, 0, []), (60, .getfield 34, 3, 0, 0, []), (63, .getfield 147, 3, 0, 0, []), (66, .bipush 7, 2, 7, 0, []), (68, .iand, 1, 0, 0, []), (69, .aload_n 0, 1, 0, 0, []), (70, .getfield 34, 3, 0, 0, []), (73, .getfield 187, 3, 0, 0, []), (76, .iastore, 1, 0, 0, [])]
theorem ok_Pro_moveSegmentOrOffset_35 : blkOK b_Pro_moveSegmentOrOffset pt_Pro 77 I_Pro_moveSegmentOrOffset_35 = true := by decide +kernel
def I_Pro_moveSegmentOrOffset_77 : List IT := [(77, .aload_n 0, 1, 0, 0, []), (78, .getfield 34, 3, 0, 0, []), (81, .getfield 184, 3, 0, 0, []), (84, .ireturn, 1, 0, 0, [])]
theorem ok_Pro_moveSegmentOrOffset_77 : blkOK b_Pro_moveSegmentOrOffset pt_Pro 85 I_Pro_moveSegmentOrOffset_77 = true := by decide +kernel
def I_Pro_moveSegmentOrOffset_85 : List IT := [(85, .iload_n 2, 1, 0, 0, []), (86, .iconst 1, 1, 1, 0, []), (87, .if_icmp .ne 5, 3, 0, 92, []), (90, .iconst 0, 1, 0, 0, []), (91, .ireturn, 1, 0, 0, [])]
theorem ok_Pro_moveSegmentOrOffset_85 : blkOK b_Pro_moveSegmentOrOffset pt_Pro 92 I_Pro_moveSegmentOrOffset_85 = true := by decide +kernel
def I_Pro_moveSegmentOrOffset_92 : List IT := [(92, .aload_n 0, 1, 0, 0, []), (93, .getfield 13, 3, 0, 0, []), (96, .getfield 156, 3, 0, 0, []), (99, .iload_n 2, 1, 0, 0, []), (100, .aload_n 0, 1, 0, 0, []), (101, .getfield 34, 3, 0, 0, []), (104, .invokevirtual 145, 3, 0, 0, []), (107, .iastore, 1, 0, 0, []), (108, .aload_n 0, 1, 0, 0, []), (109, .iload_n 2, 1, 0, 0, []), (110, .iconst 2, 1, 2, 0, []), (111, .if_icmp .ne 7, 3, 0, 118, []), (114, .iconst 1, 1, 1, 0, []), (115, .goto 4, 3, 0, 119, [])]
theorem ok_Pro_moveSegmentOrOffset_92 : blkOK b_Pro_moveSegmentOrOffset pt_Pro 118 I_Pro_moveSegmentOrOffset_92 = true := by decide +kernel
def I_Pro_moveSegmentOrOffset_118 : List IT := [(118, .iconst 0, 1, 0, 0, [])]
theorem ok_Pro_moveSegmentOrOffset_118 : blkOK b_Pro_moveSegmentOrOffset pt_Pro 119 I_Pro_moveSegmentOrOffset_118 = true := by decide +kernel
def I_Pro_moveSegmentOrOffset_119 : List IT := [(119, .putfield 44, 3, 0, 0, []), (122, .iconst 1, 1, 1, 0, []), (123, .ireturn, 1, 0, 0, [])]
theorem ok_Pro_moveSegmentOrOffset_119 : blkOK b_Pro_moveSegmentOrOffset pt_Pro 124 I_Pro_moveSegmentOrOffset_119 = true := by decide +kernel
def f_Pro_moveSegmentOrOffset (σ : Sg) (a1 : Int32) : Int32 × Sg := (if a1 = (140 : Int32) then (bnd (f_Dec_change σ (σ 5 (Int32.toNatClampNeg ((σ 14 5) &&& (3 : Int32))))) fun r2 => ((1 : Int32), r2)) else (if a1 = (141 : Int32) then (if (σ 14 7) = (0 : Int32) then ((σ 14 7), σ) else (bnd (up2 σ 4 (Int32.toNatClampNeg ((σ 14 5) &&& (7 : Int32))) (σ 14 6)) fun s5 => ((s5 14 7), s5))) else (if ((σ 14 5) &&& (3 : Int32)) = (1 : Int32) then ((0 : Int32), σ) else (bnd (f_Dec_value σ) fun r7 => bnd (up2 r7.2 5 (Int32.toNatClampNeg ((σ 14 5) &&& (3 : Int32))) r7.1) fun s8 => (if ((σ 14 5) &&& (3 : Int32)) = (2 : Int32) then (bnd (up2 s8 12 8 (1 : Int32)) fun s10 => ((1 : Int32), s10)) else (bnd (up2 s8 12 8 (0 : Int32)) fun s11 => ((1 : Int32), s11)))))))
theorem z_Pro_moveSegmentOrOffset {σ : Sg} {a1 : Int32}  : (f_Pro_moveSegmentOrOffset σ a1).1 = 0 ∨ (f_Pro_moveSegmentOrOffset σ a1).1 = 1 := by
  show Zb (f_Pro_moveSegmentOrOffset σ a1)
  unfold f_Pro_moveSegmentOrOffset
  refine ite_z (fun h1 => ?_) (fun h1 => ?_)
  · refine bnd_z fun r2 => ?_
    exact (Or.inr rfl)
  · refine ite_z (fun h3 => ?_) (fun h3 => ?_)
    · refine ite_z (fun h4 => ?_) (fun h4 => ?_)
      · exact (by assumption)
      · refine bnd_z fun s5 => ?_
        exact (by assumption)
    · refine ite_z (fun h6 => ?_) (fun h6 => ?_)
      · exact (Or.inl rfl)
      · refine bnd_z fun r7 => ?_
        refine bnd_z fun s8 => ?_
        refine ite_z (fun h9 => ?_) (fun h9 => ?_)
        · refine bnd_z fun s10 => ?_
          exact (Or.inr rfl)
        · refine bnd_z fun s11 => ?_
          exact (Or.inr rfl)
set_option maxRecDepth 100000 in
set_option maxHeartbeats 4000000 in
theorem s_Pro_moveSegmentOrOffset {l : Launch} {ad : Nat → Nat} {D : va_G} {cI : ClassId} {σ : Sg} {a1 : Int32} {K : Option Value → Sg → Prop}   (hK : KI K (f_Pro_moveSegmentOrOffset σ a1)) : MetJ l ad D cI mi_Pro_moveSegmentOrOffset [.ref 12, .int a1] σ K := by
  refine met_of mi_Pro_moveSegmentOrOffset pt_Pro pt_Pro_in rfl pl_Pro rfl (Nat.le_of_ble_eq_true rfl) fun X hX => ?_
  have hX : Cl l ad D cI mi_Pro_moveSegmentOrOffset pt_Pro K X := hX
  show X 0 [.ref 12, .int a1, .null] [] σ
  unfold f_Pro_moveSegmentOrOffset at hK
  refine hX.1 35 I_Pro_moveSegmentOrOffset_0 ok_Pro_moveSegmentOrOffset_0 _ _ _ ?_
  refine And.intro (fun h1 => ?_) (fun h1 => ?_)
  · have hK := ite_p hK h1
    refine And.intro (pk_andIn _ 2 rfl (by decide)) ?_
    refine s_Dec_change (bnd_g hK fun r2 e2 hK => ?_)
    exact And.intro (Or.inr rfl) hK
  · have hK := ite_n hK h1
    refine hX.1 77 I_Pro_moveSegmentOrOffset_35 ok_Pro_moveSegmentOrOffset_35 _ _ _ ?_
    refine And.intro (fun h3 => ?_) (fun h3 => ?_)
    · have hK := ite_p hK h3
      refine And.intro (fun h4 => ?_) (fun h4 => ?_)
      · have hK := ite_p hK h4
        refine hX.1 85 I_Pro_moveSegmentOrOffset_77 ok_Pro_moveSegmentOrOffset_77 _ _ _ ?_
        exact And.intro (by assumption) hK
      · have hK := ite_n hK h4
        refine And.intro (pk_andIn _ 3 rfl (by decide)) (SG_g hK fun s5 e5 hK => ?_)
        refine hX.1 85 I_Pro_moveSegmentOrOffset_77 ok_Pro_moveSegmentOrOffset_77 _ _ _ ?_
        exact And.intro (by assumption) hK
    · have hK := ite_n hK h3
      refine hX.1 92 I_Pro_moveSegmentOrOffset_85 ok_Pro_moveSegmentOrOffset_85 _ _ _ ?_
      refine And.intro (fun h6 => ?_) (fun h6 => ?_)
      · have hK := ite_p hK h6
        exact And.intro (Or.inl rfl) hK
      · have hK := ite_n hK h6
        refine hX.1 118 I_Pro_moveSegmentOrOffset_92 ok_Pro_moveSegmentOrOffset_92 _ _ _ ?_
        refine s_Dec_value (bnd_g hK fun r7 e7 hK => ?_)
        refine And.intro (pk_andIn _ 2 rfl (by decide)) (SG_g hK fun s8 e8 hK => ?_)
        refine And.intro (fun h9 => ?_) (fun h9 => ?_)
        · have hK := ite_p hK h9
          refine hX.1 124 I_Pro_moveSegmentOrOffset_119 ok_Pro_moveSegmentOrOffset_119 _ _ _ ?_
          refine And.intro (Or.inr rfl) (SG_g hK fun s10 e10 hK => ?_)
          exact And.intro (Or.inr rfl) hK
        · have hK := ite_n hK h9
          refine hX.1 119 I_Pro_moveSegmentOrOffset_118 ok_Pro_moveSegmentOrOffset_118 _ _ _ ?_
          refine hX.1 124 I_Pro_moveSegmentOrOffset_119 ok_Pro_moveSegmentOrOffset_119 _ _ _ ?_
          refine And.intro (Or.inl rfl) (SG_g hK fun s11 e11 hK => ?_)
          exact And.intro (Or.inr rfl) hK
def I_Pro_move_0 : List IT := [(0, .iload_n 1, 1, 0, 0, []), (1, .sipush 143, 3, 143, 0, []), (4, .if_icmp .ne 5, 3, 0, 9, []), (7, .iconst 0, 1, 0, 0, []), (8, .ireturn, 1, 0, 0, [])]
theorem ok_Pro_move_0 : blkOK b_Pro_move pt_Pro 9 I_Pro_move_0 = true := by decide +kernel
def I_Pro_move_9 : List IT := [(9, .iload_n 1, 1, 0, 0, []), (10, .sipush 139, 3, 139, 0, []), (13, .if_icmp .gt 10, 3, 0, 23, []), (16, .iload_n 1, 1, 0, 0, []), (17, .iconst 1, 1, 1, 0, []), (18, .iand, 1, 0, 0, []), (19, .iconst 1, 1, 1, 0, []), (20, .if_icmp .ne 7, 3, 0, 27, [])]
theorem ok_Pro_move_9 : blkOK b_Pro_move pt_Pro 23 I_Pro_move_9 = true := by decide +kernel
def I_Pro_move_23 : List IT := [(23, .iconst 1, 1, 1, 0, []), (24, .goto 4, 3, 0, 28, [])]
theorem ok_Pro_move_23 : blkOK b_Pro_move pt_Pro 27 I_Pro_move_23 = true := by decide +kernel
def I_Pro_move_27 : List IT := [(27, .iconst 0, 1, 0, 0, [])]
theorem ok_Pro_move_27 : blkOK b_Pro_move pt_Pro 28 I_Pro_move_27 = true := by decide +kernel
def I_Pro_move_28 : List IT := [(28, .istore_n 2, 1, 0, 0, []), (29, .aload_n 0, 1, 0, 0, []), (30, .getfield 34, 3, 0, 0, []), (33, .iload_n 2, 1, 0, 0, []), (34, .invokevirtual 141, 3, 0, 0, []), (37, .iload_n 1, 1, 0, 0, []), (38, .sipush 140, 3, 140, 0, []), (41, .if_icmp .lt 9, 3, 0, 50, []), (44, .aload_n 0, 1, 0, 0, []), (45, .iload_n 1, 1, 0, 0, []), (46, .invokevirtual 181, 3, 0, 0, []), (49, .ireturn, 1, 0, 0, [])]
theorem ok_Pro_move_28 : blkOK b_Pro_move pt_Pro 50 I_Pro_move_28 = true := by decide +kernel
def I_Pro_move_50 : List IT := [(50, .iload_n 1, 1, 0, 0, []), (51, .sipush 138, 3, 138, 0, []), (54, .if_icmp .ge 28, 3, 0, 82, []), (57, .aload_n 0, 1, 0, 0, []), (58, .getfield 34, 3, 0, 0, []), (61, .aload_n 0, 1, 0, 0, []), (62, .getfield 13, 3, 0, 0, []), (65, .aload_n 0, 1, 0, 0, []), (66, .getfield 34, 3, 0, 0, []), (69, .getfield 147, 3, 0, 0, []), (72, .iload_n 2, 1, 0, 0, []), (73, .invokevirtual 130, 3, 0, 0, []), (76, .invokevirtual 150, 3, 0, 0, []), (79, .goto 25, 3, 0, 104, [])]
theorem ok_Pro_move_50 : blkOK b_Pro_move pt_Pro 82 I_Pro_move_50 = true := by decide +kernel
def I_Pro_move_82 : List IT := [(82, .aload_n 0, 1, 0, 0, []), (83, .getfield 13, 3, 0, 0, []), (86, .aload_n 0, 1, 0, 0, []), (87, .getfield 34, 3, 0, 0, []), (90, .getfield 147, 3, 0, 0, []), (93, .iload_n 2, 1, 0, 0, []), (94, .aload_n 0, 1, 0, 0, []), (95, .getfield 34, 3, 0, 0, []), (98, .invokevirtual 145, 3, 0, 0, []), (101, .invokevirtual 137, 3, 0, 0, [])]
theorem ok_Pro_move_82 : blkOK b_Pro_move pt_Pro 104 I_Pro_move_82 = true := by decide +kernel
def I_Pro_move_104 : List IT := [(104, .iconst 1, 1, 1, 0, []), (105, .ireturn, 1, 0, 0, [])]
theorem ok_Pro_move_104 : blkOK b_Pro_move pt_Pro 106 I_Pro_move_104 = true := by decide +kernel
def f_Pro_move_28 (σ : Sg) (x1 : Int32) (y0 : Int32) : Int32 × Sg := (bnd (f_Dec_readModrm σ y0) fun r1 => (if x1 < (140 : Int32) then (if (138 : Int32) ≤ x1 then (bnd (f_Dec_value r1) fun r4 => bnd (f_Reg_change r4.2 (r1 14 5) y0 r4.1) fun r5 => ((1 : Int32), r5)) else (bnd (f_Reg_value r1 (r1 14 5) y0) fun r6 => bnd (f_Dec_change r6.2 r6.1) fun r7 => ((1 : Int32), r7))) else (bnd (f_Pro_moveSegmentOrOffset r1 x1) fun r8 => (r8.1, r8.2))))
theorem z_Pro_move_28 {σ : Sg} {x1 : Int32} {y0 : Int32} (z_y0 : y0 = 0 ∨ y0 = 1) : (f_Pro_move_28 σ x1 y0).1 = 0 ∨ (f_Pro_move_28 σ x1 y0).1 = 1 := by
  show Zb (f_Pro_move_28 σ x1 y0)
  unfold f_Pro_move_28
  refine bnd_z fun r1 => ?_
  refine ite_z (fun h2 => ?_) (fun h2 => ?_)
  · refine ite_z (fun h3 => ?_) (fun h3 => ?_)
    · refine bnd_z fun r4 => ?_
      refine bnd_z fun r5 => ?_
      exact (Or.inr rfl)
    · refine bnd_z fun r6 => ?_
      refine bnd_z fun r7 => ?_
      exact (Or.inr rfl)
  · refine bnd_zz (Z := Zb) (z_Pro_moveSegmentOrOffset) fun r8 z8 => ?_
    exact z8
set_option maxRecDepth 100000 in
set_option maxHeartbeats 4000000 in
theorem b_Pro_move_28 {l : Launch} {ad : Nat → Nat} {D : va_G} {cI : ClassId} {K : Option Value → Sg → Prop} {X : Nat → List Value → List Value → Sg → Prop} (hX : Cl l ad D cI mi_Pro_move pt_Pro K X) {σ : Sg} {x1 : Int32} {y0 : Int32} (z_y0 : y0 = 0 ∨ y0 = 1)  (hK : KI K (f_Pro_move_28 σ x1 y0)) : X 28 [.ref 12, .int x1, .null] [.int y0] σ := by
  unfold f_Pro_move_28 at hK
  refine hX.1 50 I_Pro_move_28 ok_Pro_move_28 _ _ _ ?_
  refine s_Dec_readModrm z_y0 (bnd_g hK fun r1 e1 hK => ?_)
  refine And.intro (fun h2 => ?_) (fun h2 => ?_)
  · have hK := ite_p hK h2
    refine hX.1 82 I_Pro_move_50 ok_Pro_move_50 _ _ _ ?_
    refine And.intro (fun h3 => ?_) (fun h3 => ?_)
    · have hK := ite_p hK h3
      refine hX.1 104 I_Pro_move_82 ok_Pro_move_82 _ _ _ ?_
      refine s_Dec_value (bnd_g hK fun r4 e4 hK => ?_)
      refine s_Reg_change (bnd_g hK fun r5 e5 hK => ?_)
      refine hX.1 106 I_Pro_move_104 ok_Pro_move_104 _ _ _ ?_
      exact And.intro (Or.inr rfl) hK
    · have hK := ite_n hK h3
      refine s_Reg_value (bnd_g hK fun r6 e6 hK => ?_)
      refine s_Dec_change (bnd_g hK fun r7 e7 hK => ?_)
      refine hX.1 106 I_Pro_move_104 ok_Pro_move_104 _ _ _ ?_
      exact And.intro (Or.inr rfl) hK
  · have hK := ite_n hK h2
    refine s_Pro_moveSegmentOrOffset (bnd_g hK fun r8 e8 hK => ?_)
    have z8 : r8.1 = 0 ∨ r8.1 = 1 := by rw [← e8]; exact z_Pro_moveSegmentOrOffset
    exact And.intro z8 hK
def f_Pro_move_23 (σ : Sg) (x1 : Int32) : Int32 × Sg := (f_Pro_move_28 σ x1 (1 : Int32))
theorem z_Pro_move_23 {σ : Sg} {x1 : Int32}  : (f_Pro_move_23 σ x1).1 = 0 ∨ (f_Pro_move_23 σ x1).1 = 1 := by
  show Zb (f_Pro_move_23 σ x1)
  unfold f_Pro_move_23
  exact z_Pro_move_28 (Or.inr rfl)
set_option maxRecDepth 100000 in
set_option maxHeartbeats 4000000 in
theorem b_Pro_move_23 {l : Launch} {ad : Nat → Nat} {D : va_G} {cI : ClassId} {K : Option Value → Sg → Prop} {X : Nat → List Value → List Value → Sg → Prop} (hX : Cl l ad D cI mi_Pro_move pt_Pro K X) {σ : Sg} {x1 : Int32}   (hK : KI K (f_Pro_move_23 σ x1)) : X 23 [.ref 12, .int x1, .null] [] σ := by
  unfold f_Pro_move_23 at hK
  refine hX.1 27 I_Pro_move_23 ok_Pro_move_23 _ _ _ ?_
  exact b_Pro_move_28 hX (Or.inr rfl) hK
def f_Pro_move (σ : Sg) (a1 : Int32) : Int32 × Sg := (if a1 = (143 : Int32) then ((0 : Int32), σ) else (if (139 : Int32) < a1 then (f_Pro_move_23 σ a1) else (if (a1 &&& (1 : Int32)) = (1 : Int32) then (f_Pro_move_23 σ a1) else (f_Pro_move_28 σ a1 (0 : Int32)))))
theorem z_Pro_move {σ : Sg} {a1 : Int32}  : (f_Pro_move σ a1).1 = 0 ∨ (f_Pro_move σ a1).1 = 1 := by
  show Zb (f_Pro_move σ a1)
  unfold f_Pro_move
  refine ite_z (fun h1 => ?_) (fun h1 => ?_)
  · exact (Or.inl rfl)
  · refine ite_z (fun h2 => ?_) (fun h2 => ?_)
    · exact z_Pro_move_23
    · refine ite_z (fun h3 => ?_) (fun h3 => ?_)
      · exact z_Pro_move_23
      · exact z_Pro_move_28 (Or.inl rfl)
set_option maxRecDepth 100000 in
set_option maxHeartbeats 4000000 in
theorem s_Pro_move {l : Launch} {ad : Nat → Nat} {D : va_G} {cI : ClassId} {σ : Sg} {a1 : Int32} {K : Option Value → Sg → Prop}   (hK : KI K (f_Pro_move σ a1)) : MetJ l ad D cI mi_Pro_move [.ref 12, .int a1] σ K := by
  refine met_of mi_Pro_move pt_Pro pt_Pro_in rfl pl_Pro rfl (Nat.le_of_ble_eq_true rfl) fun X hX => ?_
  have hX : Cl l ad D cI mi_Pro_move pt_Pro K X := hX
  show X 0 [.ref 12, .int a1, .null] [] σ
  unfold f_Pro_move at hK
  refine hX.1 9 I_Pro_move_0 ok_Pro_move_0 _ _ _ ?_
  refine And.intro (fun h1 => ?_) (fun h1 => ?_)
  · have hK := ite_p hK h1
    exact And.intro (Or.inl rfl) hK
  · have hK := ite_n hK h1
    refine hX.1 23 I_Pro_move_9 ok_Pro_move_9 _ _ _ ?_
    refine And.intro (fun h2 => ?_) (fun h2 => ?_)
    · have hK := ite_p hK h2
      exact b_Pro_move_23 hX  hK
    · have hK := ite_n hK h2
      refine And.intro (fun h3 => ?_) (fun h3 => ?_)
      · have hK := ite_p hK h3
        exact b_Pro_move_23 hX  hK
      · have hK := ite_n hK h3
        refine hX.1 28 I_Pro_move_27 ok_Pro_move_27 _ _ _ ?_
        exact b_Pro_move_28 hX (Or.inl rfl) hK
def I_Pro_stringOnce_0 : List IT := [(0, .iload_n 1, 1, 0, 0, []), (1, .iconst 1, 1, 1, 0, []), (2, .iand, 1, 0, 0, []), (3, .iconst 1, 1, 1, 0, []), (4, .if_icmp .ne 7, 3, 0, 11, []), (7, .iconst 1, 1, 1, 0, []), (8, .goto 4, 3, 0, 12, [])]
theorem ok_Pro_stringOnce_0 : blkOK b_Pro_stringOnce pt_Pro 11 I_Pro_stringOnce_0 = true := by decide +kernel
def I_Pro_stringOnce_11 : List IT := [(11, .iconst 0, 1, 0, 0, [])]
theorem ok_Pro_stringOnce_11 : blkOK b_Pro_stringOnce pt_Pro 12 I_Pro_stringOnce_11 = true := by decide +kernel
def I_Pro_stringOnce_12 : List IT := [(12, .istore_n 2, 1, 0, 0, []), (13, .iload_n 1, 1, 0, 0, []), (14, .bipush (-2), 2, (-2), 0, []), (16, .iand, 1, 0, 0, []), (17, .istore_n 3, 1, 0, 0, []), (18, .aload_n 0, 1, 0, 0, []), (19, .getfield 13, 3, 0, 0, []), (22, .getfield 156, 3, 0, 0, []), (25, .iconst 0, 1, 0, 0, []), (26, .iaload, 1, 0, 0, []), (27, .istore 4, 2, 0, 0, []), (29, .aload_n 0, 1, 0, 0, []), (30, .getfield 34, 3, 0, 0, []), (33, .iconst 3, 1, 3, 0, []), (34, .invokevirtual 196, 3, 0, 0, []), (37, .istore 5, 2, 0, 0, []), (39, .aload_n 0, 1, 0, 0, []), (40, .getfield 13, 3, 0, 0, []), (43, .getfield 166, 3, 0, 0, []), (46, .bipush 6, 2, 6, 0, []), (48, .iaload, 1, 0, 0, []), (49, .istore 6, 2, 0, 0, []), (51, .aload_n 0, 1, 0, 0, []), (52, .getfield 13, 3, 0, 0, []), (55, .getfield 166, 3, 0, 0, []), (58, .bipush 7, 2, 7, 0, []), (60, .iaload, 1, 0, 0, []), (61, .istore 7, 2, 0, 0, []), (63, .aload_n 0, 1, 0, 0, []), (64, .getfield 13, 3, 0, 0, []), (67, .iconst 0, 1, 0, 0, []), (68, .iload_n 2, 1, 0, 0, []), (69, .invokevirtual 130, 3, 0, 0, []), (72, .istore 8, 2, 0, 0, []), (74, .iload_n 3, 1, 0, 0, []), (75, .sipush 164, 3, 164, 0, []), (78, .if_icmp .ne 30, 3, 0, 108, []), (81, .aload_n 0, 1, 0, 0, []), (82, .getfield 7, 3, 0, 0, []), (85, .iload 4, 2, 0, 0, []), (87, .iload 7, 2, 0, 0, []), (89, .iload_n 2, 1, 0, 0, []), (90, .aload_n 0, 1, 0, 0, []), (91, .getfield 7, 3, 0, 0, []), (94, .iload 5, 2, 0, 0, []), (96, .iload 6, 2, 0, 0, []), (98, .iload_n 2, 1, 0, 0, []), (99, .invokevirtual 200, 3, 0, 0, []), (102, .invokevirtual 206, 3, 0, 0, []), (105, .goto 82, 3, 0, 187, [])]
theorem ok_Pro_stringOnce_12 : blkOK b_Pro_stringOnce pt_Pro 108 I_Pro_stringOnce_12 = true := by decide +kernel
def I_Pro_stringOnce_108 : List IT := [(108, .iload_n 3, 1, 0, 0, []), (109, .sipush 170, 3, 170, 0, []), (112, .if_icmp .ne 20, 3, 0, 132, []), (115, .aload_n 0, 1, 0, 0, []), (116, .getfield 7, 3, 0, 0, []), (119, .iload 4, 2, 0, 0, []), (121, .iload 7, 2, 0, 0, []), (123, .iload_n 2, 1, 0, 0, []), (124, .iload 8, 2, 0, 0, []), (126, .invokevirtual 206, 3, 0, 0, []), (129, .goto 58, 3, 0, 187, [])]
theorem ok_Pro_stringOnce_108 : blkOK b_Pro_stringOnce pt_Pro 132 I_Pro_stringOnce_108 = true := by decide +kernel
def I_Pro_stringOnce_132 : List IT := [(132, .iload_n 3, 1, 0, 0, []), (133, .sipush 172, 3, 172, 0, []), (136, .if_icmp .ne 27, 3, 0, 163, []), (139, .aload_n 0, 1, 0, 0, []), (140, .getfield 13, 3, 0, 0, []), (143, .iconst 0, 1, 0, 0, []), (144, .iload_n 2, 1, 0, 0, []), (145, .aload_n 0, 1, 0, 0, []), (146, .getfield 7, 3, 0, 0, []), (149, .iload 5, 2, 0, 0, []), (151, .iload 6, 2, 0, 0, []), (153, .iload_n 2, 1, 0, 0, []), (154, .invokevirtual 200, 3, 0, 0, []), (157, .invokevirtual 137, 3, 0, 0, []), (160, .goto 27, 3, 0, 187, [])]
theorem ok_Pro_stringOnce_132 : blkOK b_Pro_stringOnce pt_Pro 163 I_Pro_stringOnce_132 = true := by decide +kernel
def I_Pro_stringOnce_163 : List IT := [(163, .aload_n 0, 1, 0, 0, []), (164, .getfield 17, 3, 0, 0, []), (167, .iload 8, 2, 0, 0, []), (169, .aload_n 0, 1, 0, 0, []), (170, .getfield 7, 3, 0, 0, []), (173, .iload 4, 2, 0, 0, []), (175, .iload 7, 2, 0, 0, []), (177, .iload_n 2, 1, 0, 0, []), (178, .invokevirtual 200, 3, 0, 0, []), (181, .iconst 0, 1, 0, 0, []), (182, .iload_n 2, 1, 0, 0, []), (183, .invokevirtual 210, 3, 0, 0, []), (186, .pop, 1, 0, 0, [])]
theorem ok_Pro_stringOnce_163 : blkOK b_Pro_stringOnce pt_Pro 187 I_Pro_stringOnce_163 = true := by decide +kernel
def I_Pro_stringOnce_187 : List IT := [(187, .iload_n 2, 1, 0, 0, []), (188, .ifCond .eq 7, 3, 0, 195, []), (191, .iconst 2, 1, 2, 0, []), (192, .goto 4, 3, 0, 196, [])]
theorem ok_Pro_stringOnce_187 : blkOK b_Pro_stringOnce pt_Pro 195 I_Pro_stringOnce_187 = true := by decide +kernel
def I_Pro_stringOnce_195 : List IT := [(195, .iconst 1, 1, 1, 0, [])]
theorem ok_Pro_stringOnce_195 : blkOK b_Pro_stringOnce pt_Pro 196 I_Pro_stringOnce_195 = true := by decide +kernel
def I_Pro_stringOnce_196 : List IT := [(196, .aload_n 0, 1, 0, 0, []), (197, .getfield 17, 3, 0, 0, []), (200, .sipush 1024, 3, 1024, 0, []), (203, .invokevirtual 40, 3, 0, 0, []), (206, .ifCond .eq 7, 3, 0, 213, []), (209, .iconst (-1), 1, (-1), 0, []), (210, .goto 4, 3, 0, 214, [])]
theorem ok_Pro_stringOnce_196 : blkOK b_Pro_stringOnce pt_Pro 213 I_Pro_stringOnce_196 = true := by decide +kernel
def I_Pro_stringOnce_213 : List IT := [(213, .iconst 1, 1, 1, 0, [])]
theorem ok_Pro_stringOnce_213 : blkOK b_Pro_stringOnce pt_Pro 214 I_Pro_stringOnce_213 = true := by decide +kernel
def I_Pro_stringOnce_214 : List IT := [(214, .imul, 1, 0, 0, []), (215, .istore 9, 2, 0, 0, []), (217, .iload_n 3, 1, 0, 0, []), (218, .sipush 164, 3, 164, 0, []), (221, .if_icmp .eq 10, 3, 0, 231, []), (224, .iload_n 3, 1, 0, 0, []), (225, .sipush 172, 3, 172, 0, []), (228, .if_icmp .ne 21, 3, 0, 249, [])]
theorem ok_Pro_stringOnce_214 : blkOK b_Pro_stringOnce pt_Pro 231 I_Pro_stringOnce_214 = true := by decide +kernel
def I_Pro_stringOnce_231 : List IT := [(231, .aload_n 0, 1, 0, 0, []), (232, .getfield 13, 3, 0, 0, []), (235, .getfield 166, 3, 0, 0, []), (238, .bipush 6, 2, 6, 0, []), (240, .iload 6, 2, 0, 0, []), (242, .iload 9, 2, 0, 0, []), (244, .iadd, 1, 0, 0, []), (245, .ldc 155, 2, 65535, 0, []), (247, .iand, 1, 0, 0, []), (248, .iastore, 1, 0, 0, [])]
theorem ok_Pro_stringOnce_231 : blkOK b_Pro_stringOnce pt_Pro 249 I_Pro_stringOnce_231 = true := by decide +kernel
def I_Pro_stringOnce_249 : List IT := [(249, .iload_n 3, 1, 0, 0, []), (250, .sipush 172, 3, 172, 0, []), (253, .if_icmp .eq 21, 3, 0, 274, []), (256, .aload_n 0, 1, 0, 0, []), (257, .getfield 13, 3, 0, 0, []), (260, .getfield 166, 3, 0, 0, []), (263, .bipush 7, 2, 7, 0, []), (265, .iload 7, 2, 0, 0, []), (267, .iload 9, 2, 0, 0, []), (269, .iadd, 1, 0, 0, []), (270, .ldc 155, 2, 65535, 0, []), (272, .iand, 1, 0, 0, []), (273, .iastore, 1, 0, 0, [])]
theorem ok_Pro_stringOnce_249 : blkOK b_Pro_stringOnce pt_Pro 274 I_Pro_stringOnce_249 = true := by decide +kernel
def I_Pro_stringOnce_274 : List IT := [(274, .return_, 1, 0, 0, [])]
theorem ok_Pro_stringOnce_274 : blkOK b_Pro_stringOnce pt_Pro 275 I_Pro_stringOnce_274 = true := by decide +kernel
def f_Pro_stringOnce_249 (σ : Sg) (x3 : Int32) (x7 : Int32) (x9 : Int32) : Sg := (if x3 = (172 : Int32) then σ else (bnd (up2 σ 4 (Int32.toNatClampNeg (7 : Int32)) ((x7 + x9) &&& (65535 : Int32))) fun s2 => s2))
set_option maxRecDepth 100000 in
set_option maxHeartbeats 4000000 in
theorem b_Pro_stringOnce_249 {l : Launch} {ad : Nat → Nat} {D : va_G} {cI : ClassId} {K : Option Value → Sg → Prop} {X : Nat → List Value → List Value → Sg → Prop} (hX : Cl l ad D cI mi_Pro_stringOnce pt_Pro K X) {σ : Sg} {x3 : Int32} {x7 : Int32} {x9 : Int32}   (hK : KV K (f_Pro_stringOnce_249 σ x3 x7 x9)) : X 249 [.ref 12, .null, .null, .int x3, .null, .null, .null, .int x7, .null, .int x9] [] σ := by
  unfold f_Pro_stringOnce_249 at hK
  refine hX.1 274 I_Pro_stringOnce_249 ok_Pro_stringOnce_249 _ _ _ ?_
  refine And.intro (fun h1 => ?_) (fun h1 => ?_)
  · have hK := ite_p hK h1
    refine hX.1 275 I_Pro_stringOnce_274 ok_Pro_stringOnce_274 _ _ _ ?_
    exact hK
  · have hK := ite_n hK h1
    refine And.intro (vin (by decide)) (SG_g hK fun s2 e2 hK => ?_)
    refine hX.1 275 I_Pro_stringOnce_274 ok_Pro_stringOnce_274 _ _ _ ?_
    exact hK
def f_Pro_stringOnce_231 (σ : Sg) (x3 : Int32) (x6 : Int32) (x7 : Int32) (x9 : Int32) : Sg := (bnd (up2 σ 4 (Int32.toNatClampNeg (6 : Int32)) ((x6 + x9) &&& (65535 : Int32))) fun s1 => (f_Pro_stringOnce_249 s1 x3 x7 x9))
set_option maxRecDepth 100000 in
set_option maxHeartbeats 4000000 in
theorem b_Pro_stringOnce_231 {l : Launch} {ad : Nat → Nat} {D : va_G} {cI : ClassId} {K : Option Value → Sg → Prop} {X : Nat → List Value → List Value → Sg → Prop} (hX : Cl l ad D cI mi_Pro_stringOnce pt_Pro K X) {σ : Sg} {x3 : Int32} {x6 : Int32} {x7 : Int32} {x9 : Int32}   (hK : KV K (f_Pro_stringOnce_231 σ x3 x6 x7 x9)) : X 231 [.ref 12, .null, .null, .int x3, .null, .null, .int x6, .int x7, .null, .int x9] [] σ := by
  unfold f_Pro_stringOnce_231 at hK
  refine hX.1 249 I_Pro_stringOnce_231 ok_Pro_stringOnce_231 _ _ _ ?_
  refine And.intro (vin (by decide)) (SG_g hK fun s1 e1 hK => ?_)
  refine hX.fg [6] ?_
  exact b_Pro_stringOnce_249 hX  hK
def f_Pro_stringOnce_214 (σ : Sg) (x3 : Int32) (x6 : Int32) (x7 : Int32) (y0 : Int32) (y1 : Int32) : Sg := (if x3 = (164 : Int32) then (f_Pro_stringOnce_231 σ x3 x6 x7 (y1 * y0)) else (if x3 = (172 : Int32) then (f_Pro_stringOnce_231 σ x3 x6 x7 (y1 * y0)) else (f_Pro_stringOnce_249 σ x3 x7 (y1 * y0))))
set_option maxRecDepth 100000 in
set_option maxHeartbeats 4000000 in
theorem b_Pro_stringOnce_214 {l : Launch} {ad : Nat → Nat} {D : va_G} {cI : ClassId} {K : Option Value → Sg → Prop} {X : Nat → List Value → List Value → Sg → Prop} (hX : Cl l ad D cI mi_Pro_stringOnce pt_Pro K X) {σ : Sg} {x3 : Int32} {x6 : Int32} {x7 : Int32} {y0 : Int32} {y1 : Int32}   (hK : KV K (f_Pro_stringOnce_214 σ x3 x6 x7 y0 y1)) : X 214 [.ref 12, .null, .null, .int x3, .null, .null, .int x6, .int x7, .null, .null] [.int y0, .int y1] σ := by
  unfold f_Pro_stringOnce_214 at hK
  refine hX.1 231 I_Pro_stringOnce_214 ok_Pro_stringOnce_214 _ _ _ ?_
  refine And.intro (fun h1 => ?_) (fun h1 => ?_)
  · have hK := ite_p hK h1
    exact b_Pro_stringOnce_231 hX  hK
  · have hK := ite_n hK h1
    refine And.intro (fun h2 => ?_) (fun h2 => ?_)
    · have hK := ite_p hK h2
      exact b_Pro_stringOnce_231 hX  hK
    · have hK := ite_n hK h2
      refine hX.fg [6] ?_
      exact b_Pro_stringOnce_249 hX  hK
def f_Pro_stringOnce_196 (σ : Sg) (x3 : Int32) (x6 : Int32) (x7 : Int32) (y0 : Int32) : Sg := (bnd (f_Fla_on σ (1024 : Int32)) fun r1 => (if r1.1 = (0 : Int32) then (f_Pro_stringOnce_214 r1.2 x3 x6 x7 (1 : Int32) y0) else (f_Pro_stringOnce_214 r1.2 x3 x6 x7 (-1 : Int32) y0)))
set_option maxRecDepth 100000 in
set_option maxHeartbeats 4000000 in
theorem b_Pro_stringOnce_196 {l : Launch} {ad : Nat → Nat} {D : va_G} {cI : ClassId} {K : Option Value → Sg → Prop} {X : Nat → List Value → List Value → Sg → Prop} (hX : Cl l ad D cI mi_Pro_stringOnce pt_Pro K X) {σ : Sg} {x3 : Int32} {x6 : Int32} {x7 : Int32} {y0 : Int32}   (hK : KV K (f_Pro_stringOnce_196 σ x3 x6 x7 y0)) : X 196 [.ref 12, .null, .null, .int x3, .null, .null, .int x6, .int x7, .null, .null] [.int y0] σ := by
  unfold f_Pro_stringOnce_196 at hK
  refine hX.1 213 I_Pro_stringOnce_196 ok_Pro_stringOnce_196 _ _ _ ?_
  refine s_Fla_on (bnd_g hK fun r1 e1 hK => ?_)
  have z1 : r1.1 = 0 ∨ r1.1 = 1 := by rw [← e1]; exact z_Fla_on
  refine And.intro (fun h2 => ?_) (fun h2 => ?_)
  · have hK := ite_p hK h2
    refine hX.1 214 I_Pro_stringOnce_213 ok_Pro_stringOnce_213 _ _ _ ?_
    exact b_Pro_stringOnce_214 hX  hK
  · have hK := ite_n hK h2
    exact b_Pro_stringOnce_214 hX  hK
def f_Pro_stringOnce_187 (σ : Sg) (x2 : Int32) (x3 : Int32) (x6 : Int32) (x7 : Int32) : Sg := (if x2 = (0 : Int32) then (f_Pro_stringOnce_196 σ x3 x6 x7 (1 : Int32)) else (f_Pro_stringOnce_196 σ x3 x6 x7 (2 : Int32)))
set_option maxRecDepth 100000 in
set_option maxHeartbeats 4000000 in
theorem b_Pro_stringOnce_187 {l : Launch} {ad : Nat → Nat} {D : va_G} {cI : ClassId} {K : Option Value → Sg → Prop} {X : Nat → List Value → List Value → Sg → Prop} (hX : Cl l ad D cI mi_Pro_stringOnce pt_Pro K X) {σ : Sg} {x2 : Int32} {x3 : Int32} {x6 : Int32} {x7 : Int32} (z_x2 : x2 = 0 ∨ x2 = 1)  (hK : KV K (f_Pro_stringOnce_187 σ x2 x3 x6 x7)) : X 187 [.ref 12, .null, .int x2, .int x3, .null, .null, .int x6, .int x7, .null, .null] [] σ := by
  unfold f_Pro_stringOnce_187 at hK
  refine hX.1 195 I_Pro_stringOnce_187 ok_Pro_stringOnce_187 _ _ _ ?_
  refine And.intro (fun h1 => ?_) (fun h1 => ?_)
  · have hK := ite_p hK h1
    refine hX.1 196 I_Pro_stringOnce_195 ok_Pro_stringOnce_195 _ _ _ ?_
    refine hX.fg [2] ?_
    exact b_Pro_stringOnce_196 hX  hK
  · have hK := ite_n hK h1
    refine hX.fg [2] ?_
    exact b_Pro_stringOnce_196 hX  hK
def f_Pro_stringOnce_12 (σ : Sg) (x1 : Int32) (y0 : Int32) : Sg := (bnd (f_Dec_segmentOr σ (3 : Int32)) fun r1 => bnd (f_Reg_value r1.2 (0 : Int32) y0) fun r2 => (if (x1 &&& (-2 : Int32)) = (164 : Int32) then (bnd (f_Mem_fetch r2.2 r1.1 (r1.2 4 (Int32.toNatClampNeg (6 : Int32))) y0) fun r4 => bnd (f_Mem_store r4.2 (σ 5 (Int32.toNatClampNeg (0 : Int32))) (r1.2 4 (Int32.toNatClampNeg (7 : Int32))) y0 r4.1) fun r5 => (f_Pro_stringOnce_187 r5 y0 (x1 &&& (-2 : Int32)) (r1.2 4 (Int32.toNatClampNeg (6 : Int32))) (r1.2 4 (Int32.toNatClampNeg (7 : Int32))))) else (if (x1 &&& (-2 : Int32)) = (170 : Int32) then (bnd (f_Mem_store r2.2 (σ 5 (Int32.toNatClampNeg (0 : Int32))) (r1.2 4 (Int32.toNatClampNeg (7 : Int32))) y0 r2.1) fun r7 => (f_Pro_stringOnce_187 r7 y0 (x1 &&& (-2 : Int32)) (r1.2 4 (Int32.toNatClampNeg (6 : Int32))) (r1.2 4 (Int32.toNatClampNeg (7 : Int32))))) else (if (x1 &&& (-2 : Int32)) = (172 : Int32) then (bnd (f_Mem_fetch r2.2 r1.1 (r1.2 4 (Int32.toNatClampNeg (6 : Int32))) y0) fun r9 => bnd (f_Reg_change r9.2 (0 : Int32) y0 r9.1) fun r10 => (f_Pro_stringOnce_187 r10 y0 (x1 &&& (-2 : Int32)) (r1.2 4 (Int32.toNatClampNeg (6 : Int32))) (r1.2 4 (Int32.toNatClampNeg (7 : Int32))))) else (bnd (f_Mem_fetch r2.2 (σ 5 (Int32.toNatClampNeg (0 : Int32))) (r1.2 4 (Int32.toNatClampNeg (7 : Int32))) y0) fun r11 => bnd (f_Fla_difference r11.2 r2.1 r11.1 (0 : Int32) y0) fun r12 => (f_Pro_stringOnce_187 r12.2 y0 (x1 &&& (-2 : Int32)) (r1.2 4 (Int32.toNatClampNeg (6 : Int32))) (r1.2 4 (Int32.toNatClampNeg (7 : Int32)))))))))
set_option maxRecDepth 100000 in
set_option maxHeartbeats 4000000 in
theorem b_Pro_stringOnce_12 {l : Launch} {ad : Nat → Nat} {D : va_G} {cI : ClassId} {K : Option Value → Sg → Prop} {X : Nat → List Value → List Value → Sg → Prop} (hX : Cl l ad D cI mi_Pro_stringOnce pt_Pro K X) {σ : Sg} {x1 : Int32} {y0 : Int32} (z_y0 : y0 = 0 ∨ y0 = 1)  (hK : KV K (f_Pro_stringOnce_12 σ x1 y0)) : X 12 [.ref 12, .int x1, .null, .null, .null, .null, .null, .null, .null, .null] [.int y0] σ := by
  unfold f_Pro_stringOnce_12 at hK
  refine hX.1 108 I_Pro_stringOnce_12 ok_Pro_stringOnce_12 _ _ _ ?_
  refine And.intro (vin (by decide)) ?_
  refine s_Dec_segmentOr (bnd_g hK fun r1 e1 hK => ?_)
  refine And.intro (vin (by decide)) ?_
  refine And.intro (vin (by decide)) ?_
  refine s_Reg_value (bnd_g hK fun r2 e2 hK => ?_)
  refine And.intro (fun h3 => ?_) (fun h3 => ?_)
  · have hK := ite_p hK h3
    refine s_Mem_fetch (bnd_g hK fun r4 e4 hK => ?_)
    refine s_Mem_store (bnd_g hK fun r5 e5 hK => ?_)
    refine hX.fg [1, 4, 5, 8] ?_
    exact b_Pro_stringOnce_187 hX z_y0 hK
  · have hK := ite_n hK h3
    refine hX.1 132 I_Pro_stringOnce_108 ok_Pro_stringOnce_108 _ _ _ ?_
    refine And.intro (fun h6 => ?_) (fun h6 => ?_)
    · have hK := ite_p hK h6
      refine s_Mem_store (bnd_g hK fun r7 e7 hK => ?_)
      refine hX.fg [1, 4, 5, 8] ?_
      exact b_Pro_stringOnce_187 hX z_y0 hK
    · have hK := ite_n hK h6
      refine hX.1 163 I_Pro_stringOnce_132 ok_Pro_stringOnce_132 _ _ _ ?_
      refine And.intro (fun h8 => ?_) (fun h8 => ?_)
      · have hK := ite_p hK h8
        refine s_Mem_fetch (bnd_g hK fun r9 e9 hK => ?_)
        refine s_Reg_change (bnd_g hK fun r10 e10 hK => ?_)
        refine hX.fg [1, 4, 5, 8] ?_
        exact b_Pro_stringOnce_187 hX z_y0 hK
      · have hK := ite_n hK h8
        refine hX.1 187 I_Pro_stringOnce_163 ok_Pro_stringOnce_163 _ _ _ ?_
        refine s_Mem_fetch (bnd_g hK fun r11 e11 hK => ?_)
        refine s_Fla_difference (bnd_g hK fun r12 e12 hK => ?_)
        refine hX.fg [1, 4, 5, 8] ?_
        exact b_Pro_stringOnce_187 hX z_y0 hK
def f_Pro_stringOnce (σ : Sg) (a1 : Int32) : Sg := (if (a1 &&& (1 : Int32)) = (1 : Int32) then (f_Pro_stringOnce_12 σ a1 (1 : Int32)) else (f_Pro_stringOnce_12 σ a1 (0 : Int32)))
set_option maxRecDepth 100000 in
set_option maxHeartbeats 4000000 in
theorem s_Pro_stringOnce {l : Launch} {ad : Nat → Nat} {D : va_G} {cI : ClassId} {σ : Sg} {a1 : Int32} {K : Option Value → Sg → Prop}   (hK : KV K (f_Pro_stringOnce σ a1)) : MetJ l ad D cI mi_Pro_stringOnce [.ref 12, .int a1] σ K := by
  refine met_of mi_Pro_stringOnce pt_Pro pt_Pro_in rfl pl_Pro rfl (Nat.le_of_ble_eq_true rfl) fun X hX => ?_
  have hX : Cl l ad D cI mi_Pro_stringOnce pt_Pro K X := hX
  show X 0 [.ref 12, .int a1, .null, .null, .null, .null, .null, .null, .null, .null] [] σ
  unfold f_Pro_stringOnce at hK
  refine hX.1 11 I_Pro_stringOnce_0 ok_Pro_stringOnce_0 _ _ _ ?_
  refine And.intro (fun h1 => ?_) (fun h1 => ?_)
  · have hK := ite_p hK h1
    exact b_Pro_stringOnce_12 hX (Or.inr rfl) hK
  · have hK := ite_n hK h1
    refine hX.1 12 I_Pro_stringOnce_11 ok_Pro_stringOnce_11 _ _ _ ?_
    exact b_Pro_stringOnce_12 hX (Or.inl rfl) hK
def I_Pro_string_0 : List IT := [(0, .iload_n 1, 1, 0, 0, []), (1, .sipush 164, 3, 164, 0, []), (4, .if_icmp .lt 17, 3, 0, 21, []), (7, .iload_n 1, 1, 0, 0, []), (8, .sipush 165, 3, 165, 0, []), (11, .if_icmp .le 12, 3, 0, 23, []), (14, .iload_n 1, 1, 0, 0, []), (15, .sipush 170, 3, 170, 0, []), (18, .if_icmp .ge 5, 3, 0, 23, [])]
theorem ok_Pro_string_0 : blkOK b_Pro_string pt_Pro 21 I_Pro_string_0 = true := by decide +kernel
def I_Pro_string_21 : List IT := [(21, .iconst 0, 1, 0, 0, []), (22, .ireturn, 1, 0, 0, [])]
theorem ok_Pro_string_21 : blkOK b_Pro_string pt_Pro 23 I_Pro_string_21 = true := by decide +kernel
def I_Pro_string_23 : List IT := [(23, .aload_n 0, 1, 0, 0, []), (24, .getfield 34, 3, 0, 0, []), (27, .getfield 190, 3, 0, 0, []), (30, .ifCond .ne 10, 3, 0, 40, []), (33, .aload_n 0, 1, 0, 0, []), (34, .iload_n 1, 1, 0, 0, []), (35, .invokevirtual 193, 3, 0, 0, []), (38, .iconst 1, 1, 1, 0, []), (39, .ireturn, 1, 0, 0, [])]
theorem ok_Pro_string_23 : blkOK b_Pro_string pt_Pro 40 I_Pro_string_23 = true := by decide +kernel
def I_Pro_string_40 : List IT := [(40, .aload_n 0, 1, 0, 0, []), (41, .getfield 13, 3, 0, 0, []), (44, .getfield 166, 3, 0, 0, []), (47, .iconst 1, 1, 1, 0, []), (48, .iaload, 1, 0, 0, []), (49, .ifCond .ne 5, 3, 0, 54, []), (52, .iconst 1, 1, 1, 0, []), (53, .ireturn, 1, 0, 0, [])]
theorem ok_Pro_string_40 : blkOK b_Pro_string pt_Pro 54 I_Pro_string_40 = true := by decide +kernel
def I_Pro_string_54 : List IT := [(54, .aload_n 0, 1, 0, 0, []), (55, .iload_n 1, 1, 0, 0, []), (56, .invokevirtual 193, 3, 0, 0, []), (59, .aload_n 0, 1, 0, 0, []), (60, .getfield 13, 3, 0, 0, []), (63, .getfield 166, 3, 0, 0, []), (66, .iconst 1, 1, 1, 0, []), (67, .dup2, 1, 0, 0, []), (68, .iaload, 1, 0, 0, []), (69, .iconst 1, 1, 1, 0, []), (70, .isub, 1, 0, 0, []), (71, .iastore, 1, 0, 0, []), (72, .aload_n 0, 1, 0, 0, []), (73, .getfield 34, 3, 0, 0, []), (76, .getfield 190, 3, 0, 0, []), (79, .sipush 243, 3, 243, 0, []), (82, .if_icmp .ne 7, 3, 0, 89, []), (85, .iconst 1, 1, 1, 0, []), (86, .goto 4, 3, 0, 90, [])]
theorem ok_Pro_string_54 : blkOK b_Pro_string pt_Pro 89 I_Pro_string_54 = true := by decide +kernel
def I_Pro_string_89 : List IT := [(89, .iconst 0, 1, 0, 0, [])]
theorem ok_Pro_string_89 : blkOK b_Pro_string pt_Pro 90 I_Pro_string_89 = true := by decide +kernel
def I_Pro_string_90 : List IT := [(90, .istore_n 2, 1, 0, 0, []), (91, .iload_n 1, 1, 0, 0, []), (92, .sipush 174, 3, 174, 0, []), (95, .if_icmp .lt 20, 3, 0, 115, []), (98, .aload_n 0, 1, 0, 0, []), (99, .getfield 17, 3, 0, 0, []), (102, .bipush 64, 2, 64, 0, []), (104, .invokevirtual 40, 3, 0, 0, []), (107, .iload_n 2, 1, 0, 0, []), (108, .if_icmp .eq 7, 3, 0, 115, []), (111, .iconst 1, 1, 1, 0, []), (112, .goto 4, 3, 0, 116, [])]
theorem ok_Pro_string_90 : blkOK b_Pro_string pt_Pro 115 I_Pro_string_90 = true := by decide +kernel
def I_Pro_string_115 : List IT := [(115, .iconst 0, 1, 0, 0, [])]
theorem ok_Pro_string_115 : blkOK b_Pro_string pt_Pro 116 I_Pro_string_115 = true := by decide +kernel
def I_Pro_string_116 : List IT := [(116, .istore_n 3, 1, 0, 0, []), (117, .aload_n 0, 1, 0, 0, []), (118, .getfield 13, 3, 0, 0, []), (121, .getfield 166, 3, 0, 0, []), (124, .iconst 1, 1, 1, 0, []), (125, .iaload, 1, 0, 0, []), (126, .ifCond .eq 21, 3, 0, 147, []), (129, .iload_n 3, 1, 0, 0, []), (130, .ifCond .ne 17, 3, 0, 147, []), (133, .aload_n 0, 1, 0, 0, []), (134, .getfield 13, 3, 0, 0, []), (137, .aload_n 0, 1, 0, 0, []), (138, .getfield 34, 3, 0, 0, []), (141, .getfield 75, 3, 0, 0, []), (144, .putfield 78, 3, 0, 0, [])]
theorem ok_Pro_string_116 : blkOK b_Pro_string pt_Pro 147 I_Pro_string_116 = true := by decide +kernel
def I_Pro_string_147 : List IT := [(147, .iconst 1, 1, 1, 0, []), (148, .ireturn, 1, 0, 0, [])]
theorem ok_Pro_string_147 : blkOK b_Pro_string pt_Pro 149 I_Pro_string_147 = true := by decide +kernel
def f_Pro_string_116 (σ : Sg) (y0 : Int32) : Int32 × Sg := (if (σ 4 (Int32.toNatClampNeg (1 : Int32))) = (0 : Int32) then ((1 : Int32), σ) else (if y0 = (0 : Int32) then (bnd (up2 σ 3 2 (σ 14 2)) fun s3 => ((1 : Int32), s3)) else ((1 : Int32), σ)))
theorem z_Pro_string_116 {σ : Sg} {y0 : Int32} (z_y0 : y0 = 0 ∨ y0 = 1) : (f_Pro_string_116 σ y0).1 = 0 ∨ (f_Pro_string_116 σ y0).1 = 1 := by
  show Zb (f_Pro_string_116 σ y0)
  unfold f_Pro_string_116
  refine ite_z (fun h1 => ?_) (fun h1 => ?_)
  · exact (Or.inr rfl)
  · refine ite_z (fun h2 => ?_) (fun h2 => ?_)
    · refine bnd_z fun s3 => ?_
      exact (Or.inr rfl)
    · exact (Or.inr rfl)
set_option maxRecDepth 100000 in
set_option maxHeartbeats 4000000 in
theorem b_Pro_string_116 {l : Launch} {ad : Nat → Nat} {D : va_G} {cI : ClassId} {K : Option Value → Sg → Prop} {X : Nat → List Value → List Value → Sg → Prop} (hX : Cl l ad D cI mi_Pro_string pt_Pro K X) {σ : Sg} {y0 : Int32} (z_y0 : y0 = 0 ∨ y0 = 1)  (hK : KI K (f_Pro_string_116 σ y0)) : X 116 [.ref 12, .null, .null, .null] [.int y0] σ := by
  unfold f_Pro_string_116 at hK
  refine hX.1 147 I_Pro_string_116 ok_Pro_string_116 _ _ _ ?_
  refine And.intro (vin (by decide)) ?_
  refine And.intro (fun h1 => ?_) (fun h1 => ?_)
  · have hK := ite_p hK h1
    refine hX.1 149 I_Pro_string_147 ok_Pro_string_147 _ _ _ ?_
    exact And.intro (Or.inr rfl) hK
  · have hK := ite_n hK h1
    refine And.intro (fun h2 => ?_) (fun h2 => ?_)
    · have hK := ite_p hK h2
      refine And.intro trivial (SG_g hK fun s3 e3 hK => ?_)
      refine hX.1 149 I_Pro_string_147 ok_Pro_string_147 _ _ _ ?_
      exact And.intro (Or.inr rfl) hK
    · have hK := ite_n hK h2
      refine hX.1 149 I_Pro_string_147 ok_Pro_string_147 _ _ _ ?_
      exact And.intro (Or.inr rfl) hK
def f_Pro_string_115 (σ : Sg)  : Int32 × Sg := (f_Pro_string_116 σ (0 : Int32))
theorem z_Pro_string_115 {σ : Sg}   : (f_Pro_string_115 σ ).1 = 0 ∨ (f_Pro_string_115 σ ).1 = 1 := by
  show Zb (f_Pro_string_115 σ )
  unfold f_Pro_string_115
  exact z_Pro_string_116 (Or.inl rfl)
set_option maxRecDepth 100000 in
set_option maxHeartbeats 4000000 in
theorem b_Pro_string_115 {l : Launch} {ad : Nat → Nat} {D : va_G} {cI : ClassId} {K : Option Value → Sg → Prop} {X : Nat → List Value → List Value → Sg → Prop} (hX : Cl l ad D cI mi_Pro_string pt_Pro K X) {σ : Sg}    (hK : KI K (f_Pro_string_115 σ )) : X 115 [.ref 12, .null, .null, .null] [] σ := by
  unfold f_Pro_string_115 at hK
  refine hX.1 116 I_Pro_string_115 ok_Pro_string_115 _ _ _ ?_
  exact b_Pro_string_116 hX (Or.inl rfl) hK
def f_Pro_string_90 (σ : Sg) (x1 : Int32) (y0 : Int32) : Int32 × Sg := (if x1 < (174 : Int32) then (f_Pro_string_115 σ) else (bnd (f_Fla_on σ (64 : Int32)) fun r2 => (if r2.1 = y0 then (f_Pro_string_115 r2.2) else (f_Pro_string_116 r2.2 (1 : Int32)))))
theorem z_Pro_string_90 {σ : Sg} {x1 : Int32} {y0 : Int32} (z_y0 : y0 = 0 ∨ y0 = 1) : (f_Pro_string_90 σ x1 y0).1 = 0 ∨ (f_Pro_string_90 σ x1 y0).1 = 1 := by
  show Zb (f_Pro_string_90 σ x1 y0)
  unfold f_Pro_string_90
  refine ite_z (fun h1 => ?_) (fun h1 => ?_)
  · exact z_Pro_string_115
  · refine bnd_zz (Z := Zb) (z_Fla_on) fun r2 z2 => ?_
    refine ite_z (fun h3 => ?_) (fun h3 => ?_)
    · exact z_Pro_string_115
    · exact z_Pro_string_116 (Or.inr rfl)
set_option maxRecDepth 100000 in
set_option maxHeartbeats 4000000 in
theorem b_Pro_string_90 {l : Launch} {ad : Nat → Nat} {D : va_G} {cI : ClassId} {K : Option Value → Sg → Prop} {X : Nat → List Value → List Value → Sg → Prop} (hX : Cl l ad D cI mi_Pro_string pt_Pro K X) {σ : Sg} {x1 : Int32} {y0 : Int32} (z_y0 : y0 = 0 ∨ y0 = 1)  (hK : KI K (f_Pro_string_90 σ x1 y0)) : X 90 [.ref 12, .int x1, .null, .null] [.int y0] σ := by
  unfold f_Pro_string_90 at hK
  refine hX.1 115 I_Pro_string_90 ok_Pro_string_90 _ _ _ ?_
  refine And.intro (fun h1 => ?_) (fun h1 => ?_)
  · have hK := ite_p hK h1
    refine hX.fg [1, 2] ?_
    exact b_Pro_string_115 hX  hK
  · have hK := ite_n hK h1
    refine s_Fla_on (bnd_g hK fun r2 e2 hK => ?_)
    have z2 : r2.1 = 0 ∨ r2.1 = 1 := by rw [← e2]; exact z_Fla_on
    refine And.intro (fun h3 => ?_) (fun h3 => ?_)
    · have hK := ite_p hK h3
      refine hX.fg [1, 2] ?_
      exact b_Pro_string_115 hX  hK
    · have hK := ite_n hK h3
      refine hX.fg [1, 2] ?_
      exact b_Pro_string_116 hX (Or.inr rfl) hK
def f_Pro_string_23 (σ : Sg) (x1 : Int32) : Int32 × Sg := (if (σ 14 4) = (0 : Int32) then (bnd (f_Pro_stringOnce σ x1) fun r2 => ((1 : Int32), r2)) else (if (σ 4 (Int32.toNatClampNeg (1 : Int32))) = (0 : Int32) then ((1 : Int32), σ) else (bnd (f_Pro_stringOnce σ x1) fun r4 => bnd (up2 r4 4 (Int32.toNatClampNeg (1 : Int32)) ((r4 4 (Int32.toNatClampNeg (1 : Int32))) - (1 : Int32))) fun s5 => (if (s5 14 4) = (243 : Int32) then (f_Pro_string_90 s5 x1 (1 : Int32)) else (f_Pro_string_90 s5 x1 (0 : Int32))))))
theorem z_Pro_string_23 {σ : Sg} {x1 : Int32}  : (f_Pro_string_23 σ x1).1 = 0 ∨ (f_Pro_string_23 σ x1).1 = 1 := by
  show Zb (f_Pro_string_23 σ x1)
  unfold f_Pro_string_23
  refine ite_z (fun h1 => ?_) (fun h1 => ?_)
  · refine bnd_z fun r2 => ?_
    exact (Or.inr rfl)
  · refine ite_z (fun h3 => ?_) (fun h3 => ?_)
    · exact (Or.inr rfl)
    · refine bnd_z fun r4 => ?_
      refine bnd_z fun s5 => ?_
      refine ite_z (fun h6 => ?_) (fun h6 => ?_)
      · exact z_Pro_string_90 (Or.inr rfl)
      · exact z_Pro_string_90 (Or.inl rfl)
set_option maxRecDepth 100000 in
set_option maxHeartbeats 4000000 in
theorem b_Pro_string_23 {l : Launch} {ad : Nat → Nat} {D : va_G} {cI : ClassId} {K : Option Value → Sg → Prop} {X : Nat → List Value → List Value → Sg → Prop} (hX : Cl l ad D cI mi_Pro_string pt_Pro K X) {σ : Sg} {x1 : Int32}   (hK : KI K (f_Pro_string_23 σ x1)) : X 23 [.ref 12, .int x1, .null, .null] [] σ := by
  unfold f_Pro_string_23 at hK
  refine hX.1 40 I_Pro_string_23 ok_Pro_string_23 _ _ _ ?_
  refine And.intro (fun h1 => ?_) (fun h1 => ?_)
  · have hK := ite_p hK h1
    refine s_Pro_stringOnce (bnd_g hK fun r2 e2 hK => ?_)
    exact And.intro (Or.inr rfl) hK
  · have hK := ite_n hK h1
    refine hX.1 54 I_Pro_string_40 ok_Pro_string_40 _ _ _ ?_
    refine And.intro (vin (by decide)) ?_
    refine And.intro (fun h3 => ?_) (fun h3 => ?_)
    · have hK := ite_p hK h3
      exact And.intro (Or.inr rfl) hK
    · have hK := ite_n hK h3
      refine hX.1 89 I_Pro_string_54 ok_Pro_string_54 _ _ _ ?_
      refine s_Pro_stringOnce (bnd_g hK fun r4 e4 hK => ?_)
      refine And.intro (vin (by decide)) ?_
      refine And.intro (vin (by decide)) (SG_g hK fun s5 e5 hK => ?_)
      refine And.intro (fun h6 => ?_) (fun h6 => ?_)
      · have hK := ite_p hK h6
        exact b_Pro_string_90 hX (Or.inr rfl) hK
      · have hK := ite_n hK h6
        refine hX.1 90 I_Pro_string_89 ok_Pro_string_89 _ _ _ ?_
        exact b_Pro_string_90 hX (Or.inl rfl) hK
def f_Pro_string (σ : Sg) (a1 : Int32) : Int32 × Sg := (if a1 < (164 : Int32) then ((0 : Int32), σ) else (if a1 ≤ (165 : Int32) then (f_Pro_string_23 σ a1) else (if (170 : Int32) ≤ a1 then (f_Pro_string_23 σ a1) else ((0 : Int32), σ))))
theorem z_Pro_string {σ : Sg} {a1 : Int32}  : (f_Pro_string σ a1).1 = 0 ∨ (f_Pro_string σ a1).1 = 1 := by
  show Zb (f_Pro_string σ a1)
  unfold f_Pro_string
  refine ite_z (fun h1 => ?_) (fun h1 => ?_)
  · exact (Or.inl rfl)
  · refine ite_z (fun h2 => ?_) (fun h2 => ?_)
    · exact z_Pro_string_23
    · refine ite_z (fun h3 => ?_) (fun h3 => ?_)
      · exact z_Pro_string_23
      · exact (Or.inl rfl)
set_option maxRecDepth 100000 in
set_option maxHeartbeats 4000000 in
theorem s_Pro_string {l : Launch} {ad : Nat → Nat} {D : va_G} {cI : ClassId} {σ : Sg} {a1 : Int32} {K : Option Value → Sg → Prop}   (hK : KI K (f_Pro_string σ a1)) : MetJ l ad D cI mi_Pro_string [.ref 12, .int a1] σ K := by
  refine met_of mi_Pro_string pt_Pro pt_Pro_in rfl pl_Pro rfl (Nat.le_of_ble_eq_true rfl) fun X hX => ?_
  have hX : Cl l ad D cI mi_Pro_string pt_Pro K X := hX
  show X 0 [.ref 12, .int a1, .null, .null] [] σ
  unfold f_Pro_string at hK
  refine hX.1 21 I_Pro_string_0 ok_Pro_string_0 _ _ _ ?_
  refine And.intro (fun h1 => ?_) (fun h1 => ?_)
  · have hK := ite_p hK h1
    refine hX.1 23 I_Pro_string_21 ok_Pro_string_21 _ _ _ ?_
    exact And.intro (Or.inl rfl) hK
  · have hK := ite_n hK h1
    refine And.intro (fun h2 => ?_) (fun h2 => ?_)
    · have hK := ite_p hK h2
      exact b_Pro_string_23 hX  hK
    · have hK := ite_n hK h2
      refine And.intro (fun h3 => ?_) (fun h3 => ?_)
      · have hK := ite_p hK h3
        exact b_Pro_string_23 hX  hK
      · have hK := ite_n hK h3
        refine hX.1 23 I_Pro_string_21 ok_Pro_string_21 _ _ _ ?_
        exact And.intro (Or.inl rfl) hK
def I_Pro_moveGiven_0 : List IT := [(0, .iload_n 1, 1, 0, 0, []), (1, .sipush 184, 3, 184, 0, []), (4, .if_icmp .lt 7, 3, 0, 11, []), (7, .iconst 1, 1, 1, 0, []), (8, .goto 4, 3, 0, 12, [])]
theorem ok_Pro_moveGiven_0 : blkOK b_Pro_moveGiven pt_Pro 11 I_Pro_moveGiven_0 = true := by decide +kernel
def I_Pro_moveGiven_11 : List IT := [(11, .iconst 0, 1, 0, 0, [])]
theorem ok_Pro_moveGiven_11 : blkOK b_Pro_moveGiven pt_Pro 12 I_Pro_moveGiven_11 = true := by decide +kernel
def I_Pro_moveGiven_12 : List IT := [(12, .istore_n 2, 1, 0, 0, []), (13, .aload_n 0, 1, 0, 0, []), (14, .getfield 13, 3, 0, 0, []), (17, .iload_n 1, 1, 0, 0, []), (18, .bipush 7, 2, 7, 0, []), (20, .iand, 1, 0, 0, []), (21, .iload_n 2, 1, 0, 0, []), (22, .aload_n 0, 1, 0, 0, []), (23, .getfield 34, 3, 0, 0, []), (26, .iload_n 2, 1, 0, 0, []), (27, .invokevirtual 126, 3, 0, 0, []), (30, .invokevirtual 137, 3, 0, 0, []), (33, .iconst 1, 1, 1, 0, []), (34, .ireturn, 1, 0, 0, [])]
theorem ok_Pro_moveGiven_12 : blkOK b_Pro_moveGiven pt_Pro 35 I_Pro_moveGiven_12 = true := by decide +kernel
def f_Pro_moveGiven_12 (σ : Sg) (x1 : Int32) (y0 : Int32) : Int32 × Sg := (bnd (f_Dec_nextOf σ y0) fun r1 => bnd (f_Reg_change r1.2 (x1 &&& (7 : Int32)) y0 r1.1) fun r2 => ((1 : Int32), r2))
theorem z_Pro_moveGiven_12 {σ : Sg} {x1 : Int32} {y0 : Int32} (z_y0 : y0 = 0 ∨ y0 = 1) : (f_Pro_moveGiven_12 σ x1 y0).1 = 0 ∨ (f_Pro_moveGiven_12 σ x1 y0).1 = 1 := by
  show Zb (f_Pro_moveGiven_12 σ x1 y0)
  unfold f_Pro_moveGiven_12
  refine bnd_z fun r1 => ?_
  refine bnd_z fun r2 => ?_
  exact (Or.inr rfl)
set_option maxRecDepth 100000 in
set_option maxHeartbeats 4000000 in
theorem b_Pro_moveGiven_12 {l : Launch} {ad : Nat → Nat} {D : va_G} {cI : ClassId} {K : Option Value → Sg → Prop} {X : Nat → List Value → List Value → Sg → Prop} (hX : Cl l ad D cI mi_Pro_moveGiven pt_Pro K X) {σ : Sg} {x1 : Int32} {y0 : Int32} (z_y0 : y0 = 0 ∨ y0 = 1)  (hK : KI K (f_Pro_moveGiven_12 σ x1 y0)) : X 12 [.ref 12, .int x1, .null] [.int y0] σ := by
  unfold f_Pro_moveGiven_12 at hK
  refine hX.1 35 I_Pro_moveGiven_12 ok_Pro_moveGiven_12 _ _ _ ?_
  refine s_Dec_nextOf (bnd_g hK fun r1 e1 hK => ?_)
  refine s_Reg_change (bnd_g hK fun r2 e2 hK => ?_)
  exact And.intro (Or.inr rfl) hK
def f_Pro_moveGiven (σ : Sg) (a1 : Int32) : Int32 × Sg := (if a1 < (184 : Int32) then (f_Pro_moveGiven_12 σ a1 (0 : Int32)) else (f_Pro_moveGiven_12 σ a1 (1 : Int32)))
theorem z_Pro_moveGiven {σ : Sg} {a1 : Int32}  : (f_Pro_moveGiven σ a1).1 = 0 ∨ (f_Pro_moveGiven σ a1).1 = 1 := by
  show Zb (f_Pro_moveGiven σ a1)
  unfold f_Pro_moveGiven
  refine ite_z (fun h1 => ?_) (fun h1 => ?_)
  · exact z_Pro_moveGiven_12 (Or.inl rfl)
  · exact z_Pro_moveGiven_12 (Or.inr rfl)
set_option maxRecDepth 100000 in
set_option maxHeartbeats 4000000 in
theorem s_Pro_moveGiven {l : Launch} {ad : Nat → Nat} {D : va_G} {cI : ClassId} {σ : Sg} {a1 : Int32} {K : Option Value → Sg → Prop}   (hK : KI K (f_Pro_moveGiven σ a1)) : MetJ l ad D cI mi_Pro_moveGiven [.ref 12, .int a1] σ K := by
  refine met_of mi_Pro_moveGiven pt_Pro pt_Pro_in rfl pl_Pro rfl (Nat.le_of_ble_eq_true rfl) fun X hX => ?_
  have hX : Cl l ad D cI mi_Pro_moveGiven pt_Pro K X := hX
  show X 0 [.ref 12, .int a1, .null] [] σ
  unfold f_Pro_moveGiven at hK
  refine hX.1 11 I_Pro_moveGiven_0 ok_Pro_moveGiven_0 _ _ _ ?_
  refine And.intro (fun h1 => ?_) (fun h1 => ?_)
  · have hK := ite_p hK h1
    refine hX.1 12 I_Pro_moveGiven_11 ok_Pro_moveGiven_11 _ _ _ ?_
    exact b_Pro_moveGiven_12 hX (Or.inl rfl) hK
  · have hK := ite_n hK h1
    exact b_Pro_moveGiven_12 hX (Or.inr rfl) hK
def I_Pro_leave_0 : List IT := [(0, .iload_n 1, 1, 0, 0, []), (1, .sipush 195, 3, 195, 0, []), (4, .if_icmp .ne 17, 3, 0, 21, []), (7, .aload_n 0, 1, 0, 0, []), (8, .getfield 13, 3, 0, 0, []), (11, .aload_n 0, 1, 0, 0, []), (12, .invokevirtual 163, 3, 0, 0, []), (15, .putfield 78, 3, 0, 0, []), (18, .goto 75, 3, 0, 93, [])]
theorem ok_Pro_leave_0 : blkOK b_Pro_leave pt_Pro 21 I_Pro_leave_0 = true := by decide +kernel
def I_Pro_leave_21 : List IT := [(21, .iload_n 1, 1, 0, 0, []), (22, .sipush 205, 3, 205, 0, []), (25, .if_icmp .ne 17, 3, 0, 42, []), (28, .aload_n 0, 1, 0, 0, []), (29, .aload_n 0, 1, 0, 0, []), (30, .getfield 34, 3, 0, 0, []), (33, .invokevirtual 213, 3, 0, 0, []), (36, .invokevirtual 61, 3, 0, 0, []), (39, .goto 54, 3, 0, 93, [])]
theorem ok_Pro_leave_21 : blkOK b_Pro_leave pt_Pro 42 I_Pro_leave_21 = true := by decide +kernel
def I_Pro_leave_42 : List IT := [(42, .iload_n 1, 1, 0, 0, []), (43, .sipush 207, 3, 207, 0, []), (46, .if_icmp .ne 45, 3, 0, 91, []), (49, .aload_n 0, 1, 0, 0, []), (50, .getfield 13, 3, 0, 0, []), (53, .aload_n 0, 1, 0, 0, []), (54, .invokevirtual 163, 3, 0, 0, []), (57, .putfield 78, 3, 0, 0, []), (60, .aload_n 0, 1, 0, 0, []), (61, .getfield 13, 3, 0, 0, []), (64, .getfield 156, 3, 0, 0, []), (67, .iconst 1, 1, 1, 0, []), (68, .aload_n 0, 1, 0, 0, []), (69, .invokevirtual 163, 3, 0, 0, []), (72, .iastore, 1, 0, 0, []), (73, .aload_n 0, 1, 0, 0, []), (74, .getfield 17, 3, 0, 0, []), (77, .aload_n 0, 1, 0, 0, []), (78, .invokevirtual 163, 3, 0, 0, []), (81, .sipush 3777, 3, 3777, 0, []), (84, .iand, 1, 0, 0, []), (85, .putfield 216, 3, 0, 0, []), (88, .goto 5, 3, 0, 93, [])]
theorem ok_Pro_leave_42 : blkOK b_Pro_leave pt_Pro 91 I_Pro_leave_42 = true := by decide +kernel
def I_Pro_leave_91 : List IT := [(91, .iconst 0, 1, 0, 0, []), (92, .ireturn, 1, 0, 0, [])]
theorem ok_Pro_leave_91 : blkOK b_Pro_leave pt_Pro 93 I_Pro_leave_91 = true := by decide +kernel
def I_Pro_leave_93 : List IT := [(93, .iconst 1, 1, 1, 0, []), (94, .ireturn, 1, 0, 0, [])]
theorem ok_Pro_leave_93 : blkOK b_Pro_leave pt_Pro 95 I_Pro_leave_93 = true := by decide +kernel
def f_Pro_leave (σ : Sg) (a1 : Int32) : Int32 × Sg := (if a1 = (195 : Int32) then (bnd (f_Pro_pop σ) fun r2 => bnd (up2 r2.2 3 2 r2.1) fun s3 => ((1 : Int32), s3)) else (if a1 = (205 : Int32) then (bnd (f_Dec_nextByte σ) fun r5 => bnd (f_Pro_interrupt r5.2 r5.1) fun r6 => ((1 : Int32), r6)) else (if a1 = (207 : Int32) then (bnd (f_Pro_pop σ) fun r8 => bnd (up2 r8.2 3 2 r8.1) fun s9 => bnd (f_Pro_pop s9) fun r10 => bnd (up2 r10.2 5 (Int32.toNatClampNeg (1 : Int32)) r10.1) fun s11 => bnd (f_Pro_pop s11) fun r12 => bnd (up2 r12.2 6 0 (r12.1 &&& (3777 : Int32))) fun s13 => ((1 : Int32), s13)) else ((0 : Int32), σ))))
theorem z_Pro_leave {σ : Sg} {a1 : Int32}  : (f_Pro_leave σ a1).1 = 0 ∨ (f_Pro_leave σ a1).1 = 1 := by
  show Zb (f_Pro_leave σ a1)
  unfold f_Pro_leave
  refine ite_z (fun h1 => ?_) (fun h1 => ?_)
  · refine bnd_z fun r2 => ?_
    refine bnd_z fun s3 => ?_
    exact (Or.inr rfl)
  · refine ite_z (fun h4 => ?_) (fun h4 => ?_)
    · refine bnd_z fun r5 => ?_
      refine bnd_z fun r6 => ?_
      exact (Or.inr rfl)
    · refine ite_z (fun h7 => ?_) (fun h7 => ?_)
      · refine bnd_z fun r8 => ?_
        refine bnd_z fun s9 => ?_
        refine bnd_z fun r10 => ?_
        refine bnd_z fun s11 => ?_
        refine bnd_z fun r12 => ?_
        refine bnd_z fun s13 => ?_
        exact (Or.inr rfl)
      · exact (Or.inl rfl)
set_option maxRecDepth 100000 in
set_option maxHeartbeats 4000000 in
theorem s_Pro_leave {l : Launch} {ad : Nat → Nat} {D : va_G} {cI : ClassId} {σ : Sg} {a1 : Int32} {K : Option Value → Sg → Prop}   (hK : KI K (f_Pro_leave σ a1)) : MetJ l ad D cI mi_Pro_leave [.ref 12, .int a1] σ K := by
  refine met_of mi_Pro_leave pt_Pro pt_Pro_in rfl pl_Pro rfl (Nat.le_of_ble_eq_true rfl) fun X hX => ?_
  have hX : Cl l ad D cI mi_Pro_leave pt_Pro K X := hX
  show X 0 [.ref 12, .int a1] [] σ
  unfold f_Pro_leave at hK
  refine hX.1 21 I_Pro_leave_0 ok_Pro_leave_0 _ _ _ ?_
  refine And.intro (fun h1 => ?_) (fun h1 => ?_)
  · have hK := ite_p hK h1
    refine s_Pro_pop (bnd_g hK fun r2 e2 hK => ?_)
    refine And.intro trivial (SG_g hK fun s3 e3 hK => ?_)
    refine hX.1 95 I_Pro_leave_93 ok_Pro_leave_93 _ _ _ ?_
    exact And.intro (Or.inr rfl) hK
  · have hK := ite_n hK h1
    refine hX.1 42 I_Pro_leave_21 ok_Pro_leave_21 _ _ _ ?_
    refine And.intro (fun h4 => ?_) (fun h4 => ?_)
    · have hK := ite_p hK h4
      refine s_Dec_nextByte (bnd_g hK fun r5 e5 hK => ?_)
      refine s_Pro_interrupt (bnd_g hK fun r6 e6 hK => ?_)
      refine hX.1 95 I_Pro_leave_93 ok_Pro_leave_93 _ _ _ ?_
      exact And.intro (Or.inr rfl) hK
    · have hK := ite_n hK h4
      refine hX.1 91 I_Pro_leave_42 ok_Pro_leave_42 _ _ _ ?_
      refine And.intro (fun h7 => ?_) (fun h7 => ?_)
      · have hK := ite_p hK h7
        refine s_Pro_pop (bnd_g hK fun r8 e8 hK => ?_)
        refine And.intro trivial (SG_g hK fun s9 e9 hK => ?_)
        refine s_Pro_pop (bnd_g hK fun r10 e10 hK => ?_)
        refine And.intro (vin (by decide)) (SG_g hK fun s11 e11 hK => ?_)
        refine s_Pro_pop (bnd_g hK fun r12 e12 hK => ?_)
        refine And.intro trivial (SG_g hK fun s13 e13 hK => ?_)
        refine hX.1 95 I_Pro_leave_93 ok_Pro_leave_93 _ _ _ ?_
        exact And.intro (Or.inr rfl) hK
      · have hK := ite_n hK h7
        refine hX.1 93 I_Pro_leave_91 ok_Pro_leave_91 _ _ _ ?_
        exact And.intro (Or.inl rfl) hK
def I_Pro_loop_0 : List IT := [(0, .aload_n 0, 1, 0, 0, []), (1, .getfield 13, 3, 0, 0, []), (4, .getfield 166, 3, 0, 0, []), (7, .iconst 1, 1, 1, 0, []), (8, .iaload, 1, 0, 0, []), (9, .iconst 1, 1, 1, 0, []), (10, .isub, 1, 0, 0, []), (11, .ldc 155, 2, 65535, 0, []), (13, .iand, 1, 0, 0, []), (14, .istore_n 2, 1, 0, 0, []), (15, .aload_n 0, 1, 0, 0, []), (16, .getfield 13, 3, 0, 0, []), (19, .getfield 166, 3, 0, 0, []), (22, .iconst 1, 1, 1, 0, []), (23, .iload_n 2, 1, 0, 0, []), (24, .iastore, 1, 0, 0, []), (25, .iload_n 2, 1, 0, 0, []), (26, .ifCond .eq 11, 3, 0, 37, []), (29, .aload_n 0, 1, 0, 0, []), (30, .getfield 13, 3, 0, 0, []), (33, .iload_n 1, 1, 0, 0, []), (34, .invokevirtual 178, 3, 0, 0, [])]
theorem ok_Pro_loop_0 : blkOK b_Pro_loop pt_Pro 37 I_Pro_loop_0 = true := by decide +kernel
def I_Pro_loop_37 : List IT := [(37, .return_, 1, 0, 0, [])]
theorem ok_Pro_loop_37 : blkOK b_Pro_loop pt_Pro 38 I_Pro_loop_37 = true := by decide +kernel
def f_Pro_loop (σ : Sg) (a1 : Int32) : Sg := (bnd (up2 σ 4 (Int32.toNatClampNeg (1 : Int32)) (((σ 4 (Int32.toNatClampNeg (1 : Int32))) - (1 : Int32)) &&& (65535 : Int32))) fun s1 => (if (((σ 4 (Int32.toNatClampNeg (1 : Int32))) - (1 : Int32)) &&& (65535 : Int32)) = (0 : Int32) then s1 else (bnd (f_Reg_jump s1 a1) fun r3 => r3)))
set_option maxRecDepth 100000 in
set_option maxHeartbeats 4000000 in
theorem s_Pro_loop {l : Launch} {ad : Nat → Nat} {D : va_G} {cI : ClassId} {σ : Sg} {a1 : Int32} {K : Option Value → Sg → Prop}   (hK : KV K (f_Pro_loop σ a1)) : MetJ l ad D cI mi_Pro_loop [.ref 12, .int a1] σ K := by
  refine met_of mi_Pro_loop pt_Pro pt_Pro_in rfl pl_Pro rfl (Nat.le_of_ble_eq_true rfl) fun X hX => ?_
  have hX : Cl l ad D cI mi_Pro_loop pt_Pro K X := hX
  show X 0 [.ref 12, .int a1, .null] [] σ
  unfold f_Pro_loop at hK
  refine hX.1 37 I_Pro_loop_0 ok_Pro_loop_0 _ _ _ ?_
  refine And.intro (vin (by decide)) ?_
  refine And.intro (vin (by decide)) (SG_g hK fun s1 e1 hK => ?_)
  refine And.intro (fun h2 => ?_) (fun h2 => ?_)
  · have hK := ite_p hK h2
    refine hX.1 38 I_Pro_loop_37 ok_Pro_loop_37 _ _ _ ?_
    exact hK
  · have hK := ite_n hK h2
    refine s_Reg_jump (bnd_g hK fun r3 e3 hK => ?_)
    refine hX.1 38 I_Pro_loop_37 ok_Pro_loop_37 _ _ _ ?_
    exact hK
def I_Pro_visit_0 : List IT := [(0, .aload_n 0, 1, 0, 0, []), (1, .aload_n 0, 1, 0, 0, []), (2, .getfield 13, 3, 0, 0, []), (5, .getfield 78, 3, 0, 0, []), (8, .invokevirtual 160, 3, 0, 0, []), (11, .aload_n 0, 1, 0, 0, []), (12, .getfield 13, 3, 0, 0, []), (15, .iload_n 1, 1, 0, 0, []), (16, .invokevirtual 178, 3, 0, 0, []), (19, .return_, 1, 0, 0, [])]
theorem ok_Pro_visit_0 : blkOK b_Pro_visit pt_Pro 20 I_Pro_visit_0 = true := by decide +kernel
def f_Pro_visit (σ : Sg) (a1 : Int32) : Sg := (bnd (f_Pro_push σ (σ 3 2)) fun r1 => bnd (f_Reg_jump r1 a1) fun r2 => r2)
set_option maxRecDepth 100000 in
set_option maxHeartbeats 4000000 in
theorem s_Pro_visit {l : Launch} {ad : Nat → Nat} {D : va_G} {cI : ClassId} {σ : Sg} {a1 : Int32} {K : Option Value → Sg → Prop}   (hK : KV K (f_Pro_visit σ a1)) : MetJ l ad D cI mi_Pro_visit [.ref 12, .int a1] σ K := by
  refine met_of mi_Pro_visit pt_Pro pt_Pro_in rfl pl_Pro rfl (Nat.le_of_ble_eq_true rfl) fun X hX => ?_
  have hX : Cl l ad D cI mi_Pro_visit pt_Pro K X := hX
  show X 0 [.ref 12, .int a1] [] σ
  unfold f_Pro_visit at hK
  refine hX.1 20 I_Pro_visit_0 ok_Pro_visit_0 _ _ _ ?_
  refine s_Pro_push (bnd_g hK fun r1 e1 hK => ?_)
  refine s_Reg_jump (bnd_g hK fun r2 e2 hK => ?_)
  exact hK
def I_Pro_jumpOrPort_0 : List IT := [(0, .iload_n 1, 1, 0, 0, []), (1, .tableswitch 163 226 235 #[55, 163, 68, 163, 93, 163, 118, 131, 163, 147], 55, 0, 164, [(226, 56), (227, 164), (228, 69), (229, 164), (230, 94), (231, 164), (232, 119), (233, 132), (234, 164), (235, 148)])]
theorem ok_Pro_jumpOrPort_0 : blkOK b_Pro_jumpOrPort pt_Pro 56 I_Pro_jumpOrPort_0 = true := by decide +kernel
def I_Pro_jumpOrPort_56 : List IT := [(56, .aload_n 0, 1, 0, 0, []), (57, .aload_n 0, 1, 0, 0, []), (58, .getfield 34, 3, 0, 0, []), (61, .invokevirtual 152, 3, 0, 0, []), (64, .invokevirtual 219, 3, 0, 0, []), (67, .iconst 1, 1, 1, 0, []), (68, .ireturn, 1, 0, 0, [])]
theorem ok_Pro_jumpOrPort_56 : blkOK b_Pro_jumpOrPort pt_Pro 69 I_Pro_jumpOrPort_56 = true := by decide +kernel
def I_Pro_jumpOrPort_69 : List IT := [(69, .aload_n 0, 1, 0, 0, []), (70, .getfield 13, 3, 0, 0, []), (73, .iconst 0, 1, 0, 0, []), (74, .iconst 0, 1, 0, 0, []), (75, .aload_n 0, 1, 0, 0, []), (76, .getfield 25, 3, 0, 0, []), (79, .aload_n 0, 1, 0, 0, []), (80, .getfield 34, 3, 0, 0, []), (83, .invokevirtual 213, 3, 0, 0, []), (86, .invokevirtual 222, 3, 0, 0, []), (89, .invokevirtual 137, 3, 0, 0, []), (92, .iconst 1, 1, 1, 0, []), (93, .ireturn, 1, 0, 0, [])]
theorem ok_Pro_jumpOrPort_69 : blkOK b_Pro_jumpOrPort pt_Pro 94 I_Pro_jumpOrPort_69 = true := by decide +kernel
def I_Pro_jumpOrPort_94 : List IT := [(94, .aload_n 0, 1, 0, 0, []), (95, .getfield 25, 3, 0, 0, []), (98, .aload_n 0, 1, 0, 0, []), (99, .getfield 34, 3, 0, 0, []), (102, .invokevirtual 213, 3, 0, 0, []), (105, .aload_n 0, 1, 0, 0, []), (106, .getfield 13, 3, 0, 0, []), (109, .iconst 0, 1, 0, 0, []), (110, .iconst 0, 1, 0, 0, []), (111, .invokevirtual 130, 3, 0, 0, []), (114, .invokevirtual 227, 3, 0, 0, []), (117, .iconst 1, 1, 1, 0, []), (118, .ireturn, 1, 0, 0, [])]
theorem ok_Pro_jumpOrPort_94 : blkOK b_Pro_jumpOrPort pt_Pro 119 I_Pro_jumpOrPort_94 = true := by decide +kernel
def I_Pro_jumpOrPort_119 : List IT := [(119, .aload_n 0, 1, 0, 0, []), (120, .aload_n 0, 1, 0, 0, []), (121, .getfield 34, 3, 0, 0, []), (124, .invokevirtual 231, 3, 0, 0, []), (127, .invokevirtual 234, 3, 0, 0, []), (130, .iconst 1, 1, 1, 0, []), (131, .ireturn, 1, 0, 0, [])]
theorem ok_Pro_jumpOrPort_119 : blkOK b_Pro_jumpOrPort pt_Pro 132 I_Pro_jumpOrPort_119 = true := by decide +kernel
def I_Pro_jumpOrPort_132 : List IT := [(132, .aload_n 0, 1, 0, 0, []), (133, .getfield 13, 3, 0, 0, []), (136, .aload_n 0, 1, 0, 0, []), (137, .getfield 34, 3, 0, 0, []), (140, .invokevirtual 231, 3, 0, 0, []), (143, .invokevirtual 178, 3, 0, 0, []), (146, .iconst 1, 1, 1, 0, []), (147, .ireturn, 1, 0, 0, [])]
theorem ok_Pro_jumpOrPort_132 : blkOK b_Pro_jumpOrPort pt_Pro 148 I_Pro_jumpOrPort_132 = true := by decide +kernel
def I_Pro_jumpOrPort_148 : List IT := [(148, .aload_n 0, 1, 0, 0, []), (149, .getfield 13, 3, 0, 0, []), (152, .aload_n 0, 1, 0, 0, []), (153, .getfield 34, 3, 0, 0, []), (156, .invokevirtual 152, 3, 0, 0, []), (159, .invokevirtual 178, 3, 0, 0, []), (162, .iconst 1, 1, 1, 0, []), (163, .ireturn, 1, 0, 0, [])]
theorem ok_Pro_jumpOrPort_148 : blkOK b_Pro_jumpOrPort pt_Pro 164 I_Pro_jumpOrPort_148 = true := by decide +kernel
def I_Pro_jumpOrPort_164 : List IT := [(164, .iconst 0, 1, 0, 0, []), (165, .ireturn, 1, 0, 0, [])]
theorem ok_Pro_jumpOrPort_164 : blkOK b_Pro_jumpOrPort pt_Pro 166 I_Pro_jumpOrPort_164 = true := by decide +kernel
def f_Pro_jumpOrPort (σ : Sg) (a1 : Int32) : Int32 × Sg := (if a1 = (226 : Int32) then (bnd (f_Dec_nextSigned σ) fun r2 => bnd (f_Pro_loop r2.2 r2.1) fun r3 => ((1 : Int32), r3)) else (if a1 = (227 : Int32) then ((0 : Int32), σ) else (if a1 = (228 : Int32) then (bnd (f_Dec_nextByte σ) fun r6 => bnd (f_Por_answer r6.2 r6.1) fun r7 => bnd (f_Reg_change r7.2 (0 : Int32) (0 : Int32) r7.1) fun r8 => ((1 : Int32), r8)) else (if a1 = (229 : Int32) then ((0 : Int32), σ) else (if a1 = (230 : Int32) then (bnd (f_Dec_nextByte σ) fun r11 => bnd (f_Reg_value r11.2 (0 : Int32) (0 : Int32)) fun r12 => bnd (f_Por_get r12.2 r11.1 r12.1) fun r13 => ((1 : Int32), r13)) else (if a1 = (231 : Int32) then ((0 : Int32), σ) else (if a1 = (232 : Int32) then (bnd (f_Dec_nextWord σ) fun r16 => bnd (f_Pro_visit r16.2 r16.1) fun r17 => ((1 : Int32), r17)) else (if a1 = (233 : Int32) then (bnd (f_Dec_nextWord σ) fun r19 => bnd (f_Reg_jump r19.2 r19.1) fun r20 => ((1 : Int32), r20)) else (if a1 = (234 : Int32) then ((0 : Int32), σ) else (if a1 = (235 : Int32) then (bnd (f_Dec_nextSigned σ) fun r23 => bnd (f_Reg_jump r23.2 r23.1) fun r24 => ((1 : Int32), r24)) else ((0 : Int32), σ)))))))))))
theorem z_Pro_jumpOrPort {σ : Sg} {a1 : Int32}  : (f_Pro_jumpOrPort σ a1).1 = 0 ∨ (f_Pro_jumpOrPort σ a1).1 = 1 := by
  show Zb (f_Pro_jumpOrPort σ a1)
  unfold f_Pro_jumpOrPort
  refine ite_z (fun h1 => ?_) (fun h1 => ?_)
  · refine bnd_z fun r2 => ?_
    refine bnd_z fun r3 => ?_
    exact (Or.inr rfl)
  refine ite_z (fun h4 => ?_) (fun h4 => ?_)
  · exact (Or.inl rfl)
  refine ite_z (fun h5 => ?_) (fun h5 => ?_)
  · refine bnd_z fun r6 => ?_
    refine bnd_z fun r7 => ?_
    refine bnd_z fun r8 => ?_
    exact (Or.inr rfl)
  refine ite_z (fun h9 => ?_) (fun h9 => ?_)
  · exact (Or.inl rfl)
  refine ite_z (fun h10 => ?_) (fun h10 => ?_)
  · refine bnd_z fun r11 => ?_
    refine bnd_z fun r12 => ?_
    refine bnd_z fun r13 => ?_
    exact (Or.inr rfl)
  refine ite_z (fun h14 => ?_) (fun h14 => ?_)
  · exact (Or.inl rfl)
  refine ite_z (fun h15 => ?_) (fun h15 => ?_)
  · refine bnd_z fun r16 => ?_
    refine bnd_z fun r17 => ?_
    exact (Or.inr rfl)
  refine ite_z (fun h18 => ?_) (fun h18 => ?_)
  · refine bnd_z fun r19 => ?_
    refine bnd_z fun r20 => ?_
    exact (Or.inr rfl)
  refine ite_z (fun h21 => ?_) (fun h21 => ?_)
  · exact (Or.inl rfl)
  refine ite_z (fun h22 => ?_) (fun h22 => ?_)
  · refine bnd_z fun r23 => ?_
    refine bnd_z fun r24 => ?_
    exact (Or.inr rfl)
  exact (Or.inl rfl)
set_option maxRecDepth 100000 in
set_option maxHeartbeats 4000000 in
theorem s_Pro_jumpOrPort {l : Launch} {ad : Nat → Nat} {D : va_G} {cI : ClassId} {σ : Sg} {a1 : Int32} {K : Option Value → Sg → Prop}   (hK : KI K (f_Pro_jumpOrPort σ a1)) : MetJ l ad D cI mi_Pro_jumpOrPort [.ref 12, .int a1] σ K := by
  refine met_of mi_Pro_jumpOrPort pt_Pro pt_Pro_in rfl pl_Pro rfl (Nat.le_of_ble_eq_true rfl) fun X hX => ?_
  have hX : Cl l ad D cI mi_Pro_jumpOrPort pt_Pro K X := hX
  show X 0 [.ref 12, .int a1] [] σ
  unfold f_Pro_jumpOrPort at hK
  refine hX.1 56 I_Pro_jumpOrPort_0 ok_Pro_jumpOrPort_0 _ _ _ ?_
  refine And.intro (fun h1 => ?_) (fun h1 => ?_)
  · have hK := ite_p hK h1
    refine hX.1 69 I_Pro_jumpOrPort_56 ok_Pro_jumpOrPort_56 _ _ _ ?_
    refine s_Dec_nextSigned (bnd_g hK fun r2 e2 hK => ?_)
    refine s_Pro_loop (bnd_g hK fun r3 e3 hK => ?_)
    exact And.intro (Or.inr rfl) hK
  have hK := ite_n hK h1
  refine And.intro (fun h4 => ?_) (fun h4 => ?_)
  · have hK := ite_p hK h4
    refine hX.1 166 I_Pro_jumpOrPort_164 ok_Pro_jumpOrPort_164 _ _ _ ?_
    exact And.intro (Or.inl rfl) hK
  have hK := ite_n hK h4
  refine And.intro (fun h5 => ?_) (fun h5 => ?_)
  · have hK := ite_p hK h5
    refine hX.1 94 I_Pro_jumpOrPort_69 ok_Pro_jumpOrPort_69 _ _ _ ?_
    refine s_Dec_nextByte (bnd_g hK fun r6 e6 hK => ?_)
    refine s_Por_answer (bnd_g hK fun r7 e7 hK => ?_)
    refine s_Reg_change (bnd_g hK fun r8 e8 hK => ?_)
    exact And.intro (Or.inr rfl) hK
  have hK := ite_n hK h5
  refine And.intro (fun h9 => ?_) (fun h9 => ?_)
  · have hK := ite_p hK h9
    refine hX.1 166 I_Pro_jumpOrPort_164 ok_Pro_jumpOrPort_164 _ _ _ ?_
    exact And.intro (Or.inl rfl) hK
  have hK := ite_n hK h9
  refine And.intro (fun h10 => ?_) (fun h10 => ?_)
  · have hK := ite_p hK h10
    refine hX.1 119 I_Pro_jumpOrPort_94 ok_Pro_jumpOrPort_94 _ _ _ ?_
    refine s_Dec_nextByte (bnd_g hK fun r11 e11 hK => ?_)
    refine s_Reg_value (bnd_g hK fun r12 e12 hK => ?_)
    refine s_Por_get (bnd_g hK fun r13 e13 hK => ?_)
    exact And.intro (Or.inr rfl) hK
  have hK := ite_n hK h10
  refine And.intro (fun h14 => ?_) (fun h14 => ?_)
  · have hK := ite_p hK h14
    refine hX.1 166 I_Pro_jumpOrPort_164 ok_Pro_jumpOrPort_164 _ _ _ ?_
    exact And.intro (Or.inl rfl) hK
  have hK := ite_n hK h14
  refine And.intro (fun h15 => ?_) (fun h15 => ?_)
  · have hK := ite_p hK h15
    refine hX.1 132 I_Pro_jumpOrPort_119 ok_Pro_jumpOrPort_119 _ _ _ ?_
    refine s_Dec_nextWord (bnd_g hK fun r16 e16 hK => ?_)
    refine s_Pro_visit (bnd_g hK fun r17 e17 hK => ?_)
    exact And.intro (Or.inr rfl) hK
  have hK := ite_n hK h15
  refine And.intro (fun h18 => ?_) (fun h18 => ?_)
  · have hK := ite_p hK h18
    refine hX.1 148 I_Pro_jumpOrPort_132 ok_Pro_jumpOrPort_132 _ _ _ ?_
    refine s_Dec_nextWord (bnd_g hK fun r19 e19 hK => ?_)
    refine s_Reg_jump (bnd_g hK fun r20 e20 hK => ?_)
    exact And.intro (Or.inr rfl) hK
  have hK := ite_n hK h18
  refine And.intro (fun h21 => ?_) (fun h21 => ?_)
  · have hK := ite_p hK h21
    refine hX.1 166 I_Pro_jumpOrPort_164 ok_Pro_jumpOrPort_164 _ _ _ ?_
    exact And.intro (Or.inl rfl) hK
  have hK := ite_n hK h21
  refine And.intro (fun h22 => ?_) (fun h22 => ?_)
  · have hK := ite_p hK h22
    refine hX.1 164 I_Pro_jumpOrPort_148 ok_Pro_jumpOrPort_148 _ _ _ ?_
    refine s_Dec_nextSigned (bnd_g hK fun r23 e23 hK => ?_)
    refine s_Reg_jump (bnd_g hK fun r24 e24 hK => ?_)
    exact And.intro (Or.inr rfl) hK
  have hK := ite_n hK h22
  refine hX.1 166 I_Pro_jumpOrPort_164 ok_Pro_jumpOrPort_164 _ _ _ ?_
  exact And.intro (Or.inl rfl) hK
def I_Pro_countOperand_0 : List IT := [(0, .aload_n 0, 1, 0, 0, []), (1, .getfield 34, 3, 0, 0, []), (4, .iload_n 1, 1, 0, 0, []), (5, .invokevirtual 141, 3, 0, 0, []), (8, .aload_n 0, 1, 0, 0, []), (9, .getfield 34, 3, 0, 0, []), (12, .invokevirtual 145, 3, 0, 0, []), (15, .istore_n 2, 1, 0, 0, []), (16, .aload_n 0, 1, 0, 0, []), (17, .getfield 34, 3, 0, 0, []), (20, .getfield 147, 3, 0, 0, []), (23, .iconst 1, 1, 1, 0, []), (24, .if_icmp .le 5, 3, 0, 29, []), (27, .iconst 0, 1, 0, 0, []), (28, .ireturn, 1, 0, 0, [])]
theorem ok_Pro_countOperand_0 : blkOK b_Pro_countOperand pt_Pro 29 I_Pro_countOperand_0 = true := by decide +kernel
def I_Pro_countOperand_29 : List IT := [(29, .aload_n 0, 1, 0, 0, []), (30, .getfield 34, 3, 0, 0, []), (33, .aload_n 0, 1, 0, 0, []), (34, .getfield 34, 3, 0, 0, []), (37, .getfield 147, 3, 0, 0, []), (40, .ifCond .ne 15, 3, 0, 55, []), (43, .aload_n 0, 1, 0, 0, []), (44, .getfield 17, 3, 0, 0, []), (47, .iload_n 2, 1, 0, 0, []), (48, .iload_n 1, 1, 0, 0, []), (49, .invokevirtual 169, 3, 0, 0, []), (52, .goto 12, 3, 0, 64, [])]
theorem ok_Pro_countOperand_29 : blkOK b_Pro_countOperand pt_Pro 55 I_Pro_countOperand_29 = true := by decide +kernel
def I_Pro_countOperand_55 : List IT := [(55, .aload_n 0, 1, 0, 0, []), (56, .getfield 17, 3, 0, 0, []), (59, .iload_n 2, 1, 0, 0, []), (60, .iload_n 1, 1, 0, 0, []), (61, .invokevirtual 172, 3, 0, 0, [])]
theorem ok_Pro_countOperand_55 : blkOK b_Pro_countOperand pt_Pro 64 I_Pro_countOperand_55 = true := by decide +kernel
def I_Pro_countOperand_64 : List IT := [(64, .invokevirtual 150, 3, 0, 0, []), (67, .iconst 1, 1, 1, 0, []), (68, .ireturn, 1, 0, 0, [])]
theorem ok_Pro_countOperand_64 : blkOK b_Pro_countOperand pt_Pro 69 I_Pro_countOperand_64 = true := by decide +kernel
def f_Pro_countOperand_64 (σ : Sg) (y0 : Int32) : Int32 × Sg := (bnd (f_Dec_change σ y0) fun r1 => ((1 : Int32), r1))
theorem z_Pro_countOperand_64 {σ : Sg} {y0 : Int32}  : (f_Pro_countOperand_64 σ y0).1 = 0 ∨ (f_Pro_countOperand_64 σ y0).1 = 1 := by
  show Zb (f_Pro_countOperand_64 σ y0)
  unfold f_Pro_countOperand_64
  refine bnd_z fun r1 => ?_
  exact (Or.inr rfl)
set_option maxRecDepth 100000 in
set_option maxHeartbeats 4000000 in
theorem b_Pro_countOperand_64 {l : Launch} {ad : Nat → Nat} {D : va_G} {cI : ClassId} {K : Option Value → Sg → Prop} {X : Nat → List Value → List Value → Sg → Prop} (hX : Cl l ad D cI mi_Pro_countOperand pt_Pro K X) {σ : Sg} {y0 : Int32}   (hK : KI K (f_Pro_countOperand_64 σ y0)) : X 64 [.null, .null, .null] [.int y0, .ref 14] σ := by
  unfold f_Pro_countOperand_64 at hK
  refine hX.1 69 I_Pro_countOperand_64 ok_Pro_countOperand_64 _ _ _ ?_
  refine s_Dec_change (bnd_g hK fun r1 e1 hK => ?_)
  exact And.intro (Or.inr rfl) hK
def f_Pro_countOperand (σ : Sg) (a1 : Int32) : Int32 × Sg := (bnd (f_Dec_readModrm σ a1) fun r1 => bnd (f_Dec_value r1) fun r2 => (if (r2.2 14 5) ≤ (1 : Int32) then (if (r2.2 14 5) = (0 : Int32) then (bnd (f_Fla_oneMore r2.2 r2.1 a1) fun r5 => (f_Pro_countOperand_64 r5.2 r5.1)) else (bnd (f_Fla_oneLess r2.2 r2.1 a1) fun r6 => (f_Pro_countOperand_64 r6.2 r6.1))) else ((0 : Int32), r2.2)))
theorem z_Pro_countOperand {σ : Sg} {a1 : Int32} (z_a1 : a1 = 0 ∨ a1 = 1) : (f_Pro_countOperand σ a1).1 = 0 ∨ (f_Pro_countOperand σ a1).1 = 1 := by
  show Zb (f_Pro_countOperand σ a1)
  unfold f_Pro_countOperand
  refine bnd_z fun r1 => ?_
  refine bnd_z fun r2 => ?_
  refine ite_z (fun h3 => ?_) (fun h3 => ?_)
  · refine ite_z (fun h4 => ?_) (fun h4 => ?_)
    · refine bnd_z fun r5 => ?_
      exact z_Pro_countOperand_64 
    · refine bnd_z fun r6 => ?_
      exact z_Pro_countOperand_64 
  · exact (Or.inl rfl)
set_option maxRecDepth 100000 in
set_option maxHeartbeats 4000000 in
theorem s_Pro_countOperand {l : Launch} {ad : Nat → Nat} {D : va_G} {cI : ClassId} {σ : Sg} {a1 : Int32} {K : Option Value → Sg → Prop} (z_a1 : a1 = 0 ∨ a1 = 1)  (hK : KI K (f_Pro_countOperand σ a1)) : MetJ l ad D cI mi_Pro_countOperand [.ref 12, .int a1] σ K := by
  refine met_of mi_Pro_countOperand pt_Pro pt_Pro_in rfl pl_Pro rfl (Nat.le_of_ble_eq_true rfl) fun X hX => ?_
  have hX : Cl l ad D cI mi_Pro_countOperand pt_Pro K X := hX
  show X 0 [.ref 12, .int a1, .null] [] σ
  unfold f_Pro_countOperand at hK
  refine hX.1 29 I_Pro_countOperand_0 ok_Pro_countOperand_0 _ _ _ ?_
  refine s_Dec_readModrm z_a1 (bnd_g hK fun r1 e1 hK => ?_)
  refine s_Dec_value (bnd_g hK fun r2 e2 hK => ?_)
  refine And.intro (fun h3 => ?_) (fun h3 => ?_)
  · have hK := ite_p hK h3
    refine hX.1 55 I_Pro_countOperand_29 ok_Pro_countOperand_29 _ _ _ ?_
    refine And.intro (fun h4 => ?_) (fun h4 => ?_)
    · have hK := ite_p hK h4
      refine s_Fla_oneMore (bnd_g hK fun r5 e5 hK => ?_)
      refine hX.fg [0, 1, 2] ?_
      exact b_Pro_countOperand_64 hX  hK
    · have hK := ite_n hK h4
      refine hX.1 64 I_Pro_countOperand_55 ok_Pro_countOperand_55 _ _ _ ?_
      refine s_Fla_oneLess (bnd_g hK fun r6 e6 hK => ?_)
      refine hX.fg [0, 1, 2] ?_
      exact b_Pro_countOperand_64 hX  hK
  · have hK := ite_n hK h3
    exact And.intro (Or.inl rfl) hK
def I_Pro_multiply_0 : List IT := [(0, .aload_n 0, 1, 0, 0, []), (1, .getfield 13, 3, 0, 0, []), (4, .iconst 0, 1, 0, 0, []), (5, .iload_n 2, 1, 0, 0, []), (6, .invokevirtual 130, 3, 0, 0, []), (9, .i2l, 1, 0, 0, []), (10, .iload_n 1, 1, 0, 0, []), (11, .i2l, 1, 0, 0, []), (12, .lmul, 1, 0, 0, []), (13, .lstore_n 3, 1, 0, 0, []), (14, .aload_n 0, 1, 0, 0, []), (15, .getfield 13, 3, 0, 0, []), (18, .getfield 166, 3, 0, 0, []), (21, .iconst 0, 1, 0, 0, []), (22, .lload_n 3, 1, 0, 0, []), (23, .ldc2_w 245, 3, 0, 0, []), (26, .land, 1, 0, 0, []), (27, .l2i, 1, 0, 0, []), (28, .iastore, 1, 0, 0, []), (29, .lload_n 3, 1, 0, 0, []), (30, .iload_n 2, 1, 0, 0, []), (31, .ifCond .eq 8, 3, 0, 39, []), (34, .bipush 16, 2, 16, 0, []), (36, .goto 5, 3, 0, 41, [])]
theorem ok_Pro_multiply_0 : blkOK b_Pro_multiply pt_Pro 39 I_Pro_multiply_0 = true := by decide +kernel
def I_Pro_multiply_39 : List IT := [(39, .bipush 8, 2, 8, 0, [])]
theorem ok_Pro_multiply_39 : blkOK b_Pro_multiply pt_Pro 41 I_Pro_multiply_39 = true := by decide +kernel
def I_Pro_multiply_41 : List IT := [(41, .lshr, 1, 0, 0, []), (42, .l2i, 1, 0, 0, []), (43, .istore 5, 2, 0, 0, []), (45, .iload_n 2, 1, 0, 0, []), (46, .ifCond .eq 14, 3, 0, 60, []), (49, .aload_n 0, 1, 0, 0, []), (50, .getfield 13, 3, 0, 0, []), (53, .getfield 166, 3, 0, 0, []), (56, .iconst 2, 1, 2, 0, []), (57, .iload 5, 2, 0, 0, []), (59, .iastore, 1, 0, 0, [])]
theorem ok_Pro_multiply_41 : blkOK b_Pro_multiply pt_Pro 60 I_Pro_multiply_41 = true := by decide +kernel
def I_Pro_multiply_60 : List IT := [(60, .aload_n 0, 1, 0, 0, []), (61, .getfield 17, 3, 0, 0, []), (64, .sipush 2049, 3, 2049, 0, []), (67, .iload 5, 2, 0, 0, []), (69, .ifCond .eq 7, 3, 0, 76, []), (72, .iconst 1, 1, 1, 0, []), (73, .goto 4, 3, 0, 77, [])]
theorem ok_Pro_multiply_60 : blkOK b_Pro_multiply pt_Pro 76 I_Pro_multiply_60 = true := by decide +kernel
def I_Pro_multiply_76 : List IT := [(76, .iconst 0, 1, 0, 0, [])]
theorem ok_Pro_multiply_76 : blkOK b_Pro_multiply pt_Pro 77 I_Pro_multiply_76 = true := by decide +kernel
def I_Pro_multiply_77 : List IT := [(77, .invokevirtual 247, 3, 0, 0, []), (80, .return_, 1, 0, 0, [])]
theorem ok_Pro_multiply_77 : blkOK b_Pro_multiply pt_Pro 81 I_Pro_multiply_77 = true := by decide +kernel
def f_Pro_multiply_77 (σ : Sg) (y0 : Int32) (y1 : Int32) : Sg := (bnd (f_Fla_set σ y1 y0) fun r1 => r1)
set_option maxRecDepth 100000 in
set_option maxHeartbeats 4000000 in
theorem b_Pro_multiply_77 {l : Launch} {ad : Nat → Nat} {D : va_G} {cI : ClassId} {K : Option Value → Sg → Prop} {X : Nat → List Value → List Value → Sg → Prop} (hX : Cl l ad D cI mi_Pro_multiply pt_Pro K X) {σ : Sg} {y0 : Int32} {y1 : Int32} (z_y0 : y0 = 0 ∨ y0 = 1)  (hK : KV K (f_Pro_multiply_77 σ y0 y1)) : X 77 [.null, .null, .null, .null, .null, .null] [.int y0, .int y1, .ref 6] σ := by
  unfold f_Pro_multiply_77 at hK
  refine hX.1 81 I_Pro_multiply_77 ok_Pro_multiply_77 _ _ _ ?_
  refine s_Fla_set (bnd_g hK fun r1 e1 hK => ?_)
  exact hK
def f_Pro_multiply_60 (σ : Sg) (x5 : Int32) : Sg := (if x5 = (0 : Int32) then (f_Pro_multiply_77 σ (0 : Int32) (2049 : Int32)) else (f_Pro_multiply_77 σ (1 : Int32) (2049 : Int32)))
set_option maxRecDepth 100000 in
set_option maxHeartbeats 4000000 in
theorem b_Pro_multiply_60 {l : Launch} {ad : Nat → Nat} {D : va_G} {cI : ClassId} {K : Option Value → Sg → Prop} {X : Nat → List Value → List Value → Sg → Prop} (hX : Cl l ad D cI mi_Pro_multiply pt_Pro K X) {σ : Sg} {x5 : Int32}   (hK : KV K (f_Pro_multiply_60 σ x5)) : X 60 [.ref 12, .null, .null, .null, .null, .int x5] [] σ := by
  unfold f_Pro_multiply_60 at hK
  refine hX.1 76 I_Pro_multiply_60 ok_Pro_multiply_60 _ _ _ ?_
  refine And.intro (fun h1 => ?_) (fun h1 => ?_)
  · have hK := ite_p hK h1
    refine hX.1 77 I_Pro_multiply_76 ok_Pro_multiply_76 _ _ _ ?_
    refine hX.fg [0, 5] ?_
    exact b_Pro_multiply_77 hX (Or.inl rfl) hK
  · have hK := ite_n hK h1
    refine hX.fg [0, 5] ?_
    exact b_Pro_multiply_77 hX (Or.inr rfl) hK
def f_Pro_multiply_41 (σ : Sg) (x2 : Int32) (y0 : Int32) (y1 : Int64) : Sg := (if x2 = (0 : Int32) then (f_Pro_multiply_60 σ ((y1 >>> ((y0 : Int32).toInt64 &&& 63)) : Int64).toInt32) else (bnd (up2 σ 4 (Int32.toNatClampNeg (2 : Int32)) ((y1 >>> ((y0 : Int32).toInt64 &&& 63)) : Int64).toInt32) fun s2 => (f_Pro_multiply_60 s2 ((y1 >>> ((y0 : Int32).toInt64 &&& 63)) : Int64).toInt32)))
set_option maxRecDepth 100000 in
set_option maxHeartbeats 4000000 in
theorem b_Pro_multiply_41 {l : Launch} {ad : Nat → Nat} {D : va_G} {cI : ClassId} {K : Option Value → Sg → Prop} {X : Nat → List Value → List Value → Sg → Prop} (hX : Cl l ad D cI mi_Pro_multiply pt_Pro K X) {σ : Sg} {x2 : Int32} {y0 : Int32} {y1 : Int64}   (hK : KV K (f_Pro_multiply_41 σ x2 y0 y1)) : X 41 [.ref 12, .null, .int x2, .null, .null, .null] [.int y0, .long y1] σ := by
  unfold f_Pro_multiply_41 at hK
  refine hX.1 60 I_Pro_multiply_41 ok_Pro_multiply_41 _ _ _ ?_
  refine And.intro (fun h1 => ?_) (fun h1 => ?_)
  · have hK := ite_p hK h1
    refine hX.fg [2] ?_
    exact b_Pro_multiply_60 hX  hK
  · have hK := ite_n hK h1
    refine And.intro (vin (by decide)) (SG_g hK fun s2 e2 hK => ?_)
    refine hX.fg [2] ?_
    exact b_Pro_multiply_60 hX  hK
def f_Pro_multiply (σ : Sg) (a1 : Int32) (a2 : Int32) : Sg := (bnd (f_Reg_value σ (0 : Int32) a2) fun r1 => bnd (up2 r1.2 4 (Int32.toNatClampNeg (0 : Int32)) ((((r1.1 : Int32).toInt64 * (a1 : Int32).toInt64) &&& 65535) : Int64).toInt32) fun s2 => (if a2 = (0 : Int32) then (f_Pro_multiply_41 s2 a2 (8 : Int32) ((r1.1 : Int32).toInt64 * (a1 : Int32).toInt64)) else (f_Pro_multiply_41 s2 a2 (16 : Int32) ((r1.1 : Int32).toInt64 * (a1 : Int32).toInt64))))
set_option maxRecDepth 100000 in
set_option maxHeartbeats 4000000 in
theorem s_Pro_multiply {l : Launch} {ad : Nat → Nat} {D : va_G} {cI : ClassId} {σ : Sg} {a1 : Int32} {a2 : Int32} {K : Option Value → Sg → Prop}   (hK : KV K (f_Pro_multiply σ a1 a2)) : MetJ l ad D cI mi_Pro_multiply [.ref 12, .int a1, .int a2] σ K := by
  refine met_of mi_Pro_multiply pt_Pro pt_Pro_in rfl pl_Pro rfl (Nat.le_of_ble_eq_true rfl) fun X hX => ?_
  have hX : Cl l ad D cI mi_Pro_multiply pt_Pro K X := hX
  show X 0 [.ref 12, .int a1, .int a2, .null, .null, .null] [] σ
  unfold f_Pro_multiply at hK
  refine hX.1 39 I_Pro_multiply_0 ok_Pro_multiply_0 _ _ _ ?_
  refine s_Reg_value (bnd_g hK fun r1 e1 hK => ?_)
  refine And.intro (vin (by decide)) (SG_g hK fun s2 e2 hK => ?_)
  refine And.intro (fun h3 => ?_) (fun h3 => ?_)
  · have hK := ite_p hK h3
    refine hX.1 41 I_Pro_multiply_39 ok_Pro_multiply_39 _ _ _ ?_
    refine hX.fg [1, 3] ?_
    exact b_Pro_multiply_41 hX  hK
  · have hK := ite_n hK h3
    refine hX.fg [1, 3] ?_
    exact b_Pro_multiply_41 hX  hK
def I_Pro_divide_0 : List IT := [(0, .iload_n 2, 1, 0, 0, []), (1, .ifCond .eq 9, 3, 0, 10, []), (4, .ldc2_w 245, 3, 0, 0, []), (7, .goto 6, 3, 0, 13, [])]
theorem ok_Pro_divide_0 : blkOK b_Pro_divide pt_Pro 10 I_Pro_divide_0 = true := by decide +kernel
def I_Pro_divide_10 : List IT := [(10, .ldc2_w 250, 3, 0, 0, [])]
theorem ok_Pro_divide_10 : blkOK b_Pro_divide pt_Pro 13 I_Pro_divide_10 = true := by decide +kernel
def I_Pro_divide_13 : List IT := [(13, .lstore_n 3, 1, 0, 0, []), (14, .aload_n 0, 1, 0, 0, []), (15, .getfield 13, 3, 0, 0, []), (18, .getfield 166, 3, 0, 0, []), (21, .iconst 0, 1, 0, 0, []), (22, .iaload, 1, 0, 0, []), (23, .i2l, 1, 0, 0, []), (24, .lstore 5, 2, 0, 0, []), (26, .iload_n 2, 1, 0, 0, []), (27, .ifCond .eq 21, 3, 0, 48, []), (30, .lload 5, 2, 0, 0, []), (32, .aload_n 0, 1, 0, 0, []), (33, .getfield 13, 3, 0, 0, []), (36, .getfield 166, 3, 0, 0, []), (39, .iconst 2, 1, 2, 0, []), (40, .iaload, 1, 0, 0, []), (41, .i2l, 1, 0, 0, []), (42, .bipush 16, 2, 16, 0, []), (44, .lshl, 1, 0, 0, []), (45, .lor, 1, 0, 0, []), (46, .lstore 5, 2, 0, 0, [])]
theorem ok_Pro_divide_13 : blkOK b_Pro_divide pt_Pro 48 I_Pro_divide_13 = true := by decide +kernel
def I_Pro_divide_48 : List IT := [(48, .iload_n 1, 1, 0, 0, []), (49, .ifCond .eq 13, 3, 0, 62, []), (52, .lload 5, 2, 0, 0, []), (54, .iload_n 1, 1, 0, 0, []), (55, .i2l, 1, 0, 0, []), (56, .ldiv, 1, 0, 0, []), (57, .lload_n 3, 1, 0, 0, []), (58, .lcmp, 1, 0, 0, []), (59, .ifCond .le 5, 3, 0, 64, [])]
theorem ok_Pro_divide_48 : blkOK b_Pro_divide pt_Pro 62 I_Pro_divide_48 = true := by decide +kernel
def I_Pro_divide_62 : List IT := [(62, .iconst 0, 1, 0, 0, []), (63, .ireturn, 1, 0, 0, [])]
theorem ok_Pro_divide_62 : blkOK b_Pro_divide pt_Pro 64 I_Pro_divide_62 = true := by decide +kernel
def I_Pro_divide_64 : List IT := [(64, .lload 5, 2, 0, 0, []), (66, .iload_n 1, 1, 0, 0, []), (67, .i2l, 1, 0, 0, []), (68, .ldiv, 1, 0, 0, []), (69, .l2i, 1, 0, 0, []), (70, .istore 7, 2, 0, 0, []), (72, .lload 5, 2, 0, 0, []), (74, .iload_n 1, 1, 0, 0, []), (75, .i2l, 1, 0, 0, []), (76, .lrem, 1, 0, 0, []), (77, .l2i, 1, 0, 0, []), (78, .istore 8, 2, 0, 0, []), (80, .iload_n 2, 1, 0, 0, []), (81, .ifCond .eq 28, 3, 0, 109, []), (84, .aload_n 0, 1, 0, 0, []), (85, .getfield 13, 3, 0, 0, []), (88, .getfield 166, 3, 0, 0, []), (91, .iconst 0, 1, 0, 0, []), (92, .iload 7, 2, 0, 0, []), (94, .iastore, 1, 0, 0, []), (95, .aload_n 0, 1, 0, 0, []), (96, .getfield 13, 3, 0, 0, []), (99, .getfield 166, 3, 0, 0, []), (102, .iconst 2, 1, 2, 0, []), (103, .iload 8, 2, 0, 0, []), (105, .iastore, 1, 0, 0, []), (106, .goto 20, 3, 0, 126, [])]
theorem ok_Pro_divide_64 : blkOK b_Pro_divide pt_Pro 109 I_Pro_divide_64 = true := by decide +kernel
def I_Pro_divide_109 : List IT := [(109, .aload_n 0, 1, 0, 0, []), (110, .getfield 13, 3, 0, 0, []), (113, .getfield 166, 3, 0, 0, []), (116, .iconst 0, 1, 0, 0, []), (117, .iload 8, 2, 0, 0, []), (119, .bipush 8, 2, 8, 0, []), (121, .ishl, 1, 0, 0, []), (122, .iload 7, 2, 0, 0, []), (124, .ior, 1, 0, 0, []), (125, .iastore, 1, 0, 0, [])]
theorem ok_Pro_divide_109 : blkOK b_Pro_divide pt_Pro 126 I_Pro_divide_109 = true := by decide +kernel
def I_Pro_divide_126 : List IT := [(126, .iconst 1, 1, 1, 0, []), (127, .ireturn, 1, 0, 0, [])]
theorem ok_Pro_divide_126 : blkOK b_Pro_divide pt_Pro 128 I_Pro_divide_126 = true := by decide +kernel
def f_Pro_divide_48 (σ : Sg) (x1 : Int32) (x2 : Int32) (x3 : Int64) (x5 : Int64) : Int32 × Sg := (if x1 = (0 : Int32) then ((0 : Int32), σ) else (if (lg_cmp (x5 / (x1 : Int32).toInt64) x3) ≤ (0 : Int32) then (if x2 = (0 : Int32) then (bnd (up2 σ 4 (Int32.toNatClampNeg (0 : Int32)) ((((x5 - x5 / (x1 : Int32).toInt64 * (x1 : Int32).toInt64) : Int64).toInt32 <<< ((8 : Int32) &&& 31 : Int32)) ||| ((x5 / (x1 : Int32).toInt64) : Int64).toInt32)) fun s4 => ((1 : Int32), s4)) else (bnd (up2 σ 4 (Int32.toNatClampNeg (0 : Int32)) ((x5 / (x1 : Int32).toInt64) : Int64).toInt32) fun s5 => bnd (up2 s5 4 (Int32.toNatClampNeg (2 : Int32)) ((x5 - x5 / (x1 : Int32).toInt64 * (x1 : Int32).toInt64) : Int64).toInt32) fun s6 => ((1 : Int32), s6))) else ((0 : Int32), σ)))
theorem z_Pro_divide_48 {σ : Sg} {x1 : Int32} {x2 : Int32} {x3 : Int64} {x5 : Int64}  : (f_Pro_divide_48 σ x1 x2 x3 x5).1 = 0 ∨ (f_Pro_divide_48 σ x1 x2 x3 x5).1 = 1 := by
  show Zb (f_Pro_divide_48 σ x1 x2 x3 x5)
  unfold f_Pro_divide_48
  refine ite_z (fun h1 => ?_) (fun h1 => ?_)
  · exact (Or.inl rfl)
  · refine ite_z (fun h2 => ?_) (fun h2 => ?_)
    · refine ite_z (fun h3 => ?_) (fun h3 => ?_)
      · refine bnd_z fun s4 => ?_
        exact (Or.inr rfl)
      · refine bnd_z fun s5 => ?_
        refine bnd_z fun s6 => ?_
        exact (Or.inr rfl)
    · exact (Or.inl rfl)
set_option maxRecDepth 100000 in
set_option maxHeartbeats 4000000 in
theorem b_Pro_divide_48 {l : Launch} {ad : Nat → Nat} {D : va_G} {cI : ClassId} {K : Option Value → Sg → Prop} {X : Nat → List Value → List Value → Sg → Prop} (hX : Cl l ad D cI mi_Pro_divide pt_Pro K X) {σ : Sg} {x1 : Int32} {x2 : Int32} {x3 : Int64} {x5 : Int64}   (hK : KI K (f_Pro_divide_48 σ x1 x2 x3 x5)) : X 48 [.ref 12, .int x1, .int x2, .long x3, .null, .long x5, .null, .null, .null] [] σ := by
  unfold f_Pro_divide_48 at hK
  refine hX.1 62 I_Pro_divide_48 ok_Pro_divide_48 _ _ _ ?_
  refine And.intro (fun h1 => ?_) (fun h1 => ?_)
  · have hK := ite_p hK h1
    refine hX.1 64 I_Pro_divide_62 ok_Pro_divide_62 _ _ _ ?_
    exact And.intro (Or.inl rfl) hK
  · have hK := ite_n hK h1
    refine And.intro (by assumption) ?_
    refine And.intro (fun h2 => ?_) (fun h2 => ?_)
    · have hK := ite_p hK h2
      refine hX.1 109 I_Pro_divide_64 ok_Pro_divide_64 _ _ _ ?_
      refine And.intro (by assumption) ?_
      refine And.intro (by assumption) ?_
      refine And.intro (fun h3 => ?_) (fun h3 => ?_)
      · have hK := ite_p hK h3
        refine hX.1 126 I_Pro_divide_109 ok_Pro_divide_109 _ _ _ ?_
        refine And.intro (vin (by decide)) (SG_g hK fun s4 e4 hK => ?_)
        refine hX.1 128 I_Pro_divide_126 ok_Pro_divide_126 _ _ _ ?_
        exact And.intro (Or.inr rfl) hK
      · have hK := ite_n hK h3
        refine And.intro (vin (by decide)) (SG_g hK fun s5 e5 hK => ?_)
        refine And.intro (vin (by decide)) (SG_g hK fun s6 e6 hK => ?_)
        refine hX.1 128 I_Pro_divide_126 ok_Pro_divide_126 _ _ _ ?_
        exact And.intro (Or.inr rfl) hK
    · have hK := ite_n hK h2
      refine hX.1 64 I_Pro_divide_62 ok_Pro_divide_62 _ _ _ ?_
      exact And.intro (Or.inl rfl) hK
def f_Pro_divide_13 (σ : Sg) (x1 : Int32) (x2 : Int32) (y0 : Int64) : Int32 × Sg := (if x2 = (0 : Int32) then (f_Pro_divide_48 σ x1 x2 y0 ((σ 4 (Int32.toNatClampNeg (0 : Int32))) : Int32).toInt64) else (f_Pro_divide_48 σ x1 x2 y0 (((σ 4 (Int32.toNatClampNeg (0 : Int32))) : Int32).toInt64 ||| (((σ 4 (Int32.toNatClampNeg (2 : Int32))) : Int32).toInt64 <<< (((16 : Int32) : Int32).toInt64 &&& 63)))))
theorem z_Pro_divide_13 {σ : Sg} {x1 : Int32} {x2 : Int32} {y0 : Int64}  : (f_Pro_divide_13 σ x1 x2 y0).1 = 0 ∨ (f_Pro_divide_13 σ x1 x2 y0).1 = 1 := by
  show Zb (f_Pro_divide_13 σ x1 x2 y0)
  unfold f_Pro_divide_13
  refine ite_z (fun h1 => ?_) (fun h1 => ?_)
  · exact z_Pro_divide_48
  · exact z_Pro_divide_48
set_option maxRecDepth 100000 in
set_option maxHeartbeats 4000000 in
theorem b_Pro_divide_13 {l : Launch} {ad : Nat → Nat} {D : va_G} {cI : ClassId} {K : Option Value → Sg → Prop} {X : Nat → List Value → List Value → Sg → Prop} (hX : Cl l ad D cI mi_Pro_divide pt_Pro K X) {σ : Sg} {x1 : Int32} {x2 : Int32} {y0 : Int64}   (hK : KI K (f_Pro_divide_13 σ x1 x2 y0)) : X 13 [.ref 12, .int x1, .int x2, .null, .null, .null, .null, .null, .null] [.long y0] σ := by
  unfold f_Pro_divide_13 at hK
  refine hX.1 48 I_Pro_divide_13 ok_Pro_divide_13 _ _ _ ?_
  refine And.intro (vin (by decide)) ?_
  refine And.intro (fun h1 => ?_) (fun h1 => ?_)
  · have hK := ite_p hK h1
    exact b_Pro_divide_48 hX  hK
  · have hK := ite_n hK h1
    refine And.intro (vin (by decide)) ?_
    exact b_Pro_divide_48 hX  hK
def f_Pro_divide (σ : Sg) (a1 : Int32) (a2 : Int32) : Int32 × Sg := (if a2 = (0 : Int32) then (f_Pro_divide_13 σ a1 a2 255) else (f_Pro_divide_13 σ a1 a2 65535))
theorem z_Pro_divide {σ : Sg} {a1 : Int32} {a2 : Int32}  : (f_Pro_divide σ a1 a2).1 = 0 ∨ (f_Pro_divide σ a1 a2).1 = 1 := by
  show Zb (f_Pro_divide σ a1 a2)
  unfold f_Pro_divide
  refine ite_z (fun h1 => ?_) (fun h1 => ?_)
  · exact z_Pro_divide_13
  · exact z_Pro_divide_13
set_option maxRecDepth 100000 in
set_option maxHeartbeats 4000000 in
theorem s_Pro_divide {l : Launch} {ad : Nat → Nat} {D : va_G} {cI : ClassId} {σ : Sg} {a1 : Int32} {a2 : Int32} {K : Option Value → Sg → Prop}   (hK : KI K (f_Pro_divide σ a1 a2)) : MetJ l ad D cI mi_Pro_divide [.ref 12, .int a1, .int a2] σ K := by
  refine met_of mi_Pro_divide pt_Pro pt_Pro_in rfl pl_Pro rfl (Nat.le_of_ble_eq_true rfl) fun X hX => ?_
  have hX : Cl l ad D cI mi_Pro_divide pt_Pro K X := hX
  show X 0 [.ref 12, .int a1, .int a2, .null, .null, .null, .null, .null, .null] [] σ
  unfold f_Pro_divide at hK
  refine hX.1 10 I_Pro_divide_0 ok_Pro_divide_0 _ _ _ ?_
  refine And.intro (fun h1 => ?_) (fun h1 => ?_)
  · have hK := ite_p hK h1
    refine hX.1 13 I_Pro_divide_10 ok_Pro_divide_10 _ _ _ ?_
    exact b_Pro_divide_13 hX  hK
  · have hK := ite_n hK h1
    exact b_Pro_divide_13 hX  hK
def I_Pro_haltOrUnary_0 : List IT := [(0, .iload_n 1, 1, 0, 0, []), (1, .sipush 244, 3, 244, 0, []), (4, .if_icmp .ne 10, 3, 0, 14, []), (7, .aload_n 0, 1, 0, 0, []), (8, .iconst 1, 1, 1, 0, []), (9, .putfield 58, 3, 0, 0, []), (12, .iconst 1, 1, 1, 0, []), (13, .ireturn, 1, 0, 0, [])]
theorem ok_Pro_haltOrUnary_0 : blkOK b_Pro_haltOrUnary pt_Pro 14 I_Pro_haltOrUnary_0 = true := by decide +kernel
def I_Pro_haltOrUnary_14 : List IT := [(14, .iload_n 1, 1, 0, 0, []), (15, .sipush 246, 3, 246, 0, []), (18, .if_icmp .ge 5, 3, 0, 23, []), (21, .iconst 0, 1, 0, 0, []), (22, .ireturn, 1, 0, 0, [])]
theorem ok_Pro_haltOrUnary_14 : blkOK b_Pro_haltOrUnary pt_Pro 23 I_Pro_haltOrUnary_14 = true := by decide +kernel
def I_Pro_haltOrUnary_23 : List IT := [(23, .iload_n 1, 1, 0, 0, []), (24, .sipush 247, 3, 247, 0, []), (27, .if_icmp .ne 7, 3, 0, 34, []), (30, .iconst 1, 1, 1, 0, []), (31, .goto 4, 3, 0, 35, [])]
theorem ok_Pro_haltOrUnary_23 : blkOK b_Pro_haltOrUnary pt_Pro 34 I_Pro_haltOrUnary_23 = true := by decide +kernel
def I_Pro_haltOrUnary_34 : List IT := [(34, .iconst 0, 1, 0, 0, [])]
theorem ok_Pro_haltOrUnary_34 : blkOK b_Pro_haltOrUnary pt_Pro 35 I_Pro_haltOrUnary_34 = true := by decide +kernel
def I_Pro_haltOrUnary_35 : List IT := [(35, .istore_n 2, 1, 0, 0, []), (36, .aload_n 0, 1, 0, 0, []), (37, .getfield 34, 3, 0, 0, []), (40, .iload_n 2, 1, 0, 0, []), (41, .invokevirtual 141, 3, 0, 0, []), (44, .aload_n 0, 1, 0, 0, []), (45, .getfield 34, 3, 0, 0, []), (48, .invokevirtual 145, 3, 0, 0, []), (51, .istore_n 3, 1, 0, 0, []), (52, .aload_n 0, 1, 0, 0, []), (53, .getfield 34, 3, 0, 0, []), (56, .getfield 147, 3, 0, 0, []), (59, .tableswitch 89 2 6 #[33, 45, 65, 89, 73], 33, 0, 148, [(2, 92), (3, 104), (4, 124), (5, 148), (6, 132)])]
theorem ok_Pro_haltOrUnary_35 : blkOK b_Pro_haltOrUnary pt_Pro 92 I_Pro_haltOrUnary_35 = true := by decide +kernel
def I_Pro_haltOrUnary_92 : List IT := [(92, .aload_n 0, 1, 0, 0, []), (93, .getfield 34, 3, 0, 0, []), (96, .iload_n 3, 1, 0, 0, []), (97, .iconst (-1), 1, (-1), 0, []), (98, .ixor, 1, 0, 0, []), (99, .invokevirtual 150, 3, 0, 0, []), (102, .iconst 1, 1, 1, 0, []), (103, .ireturn, 1, 0, 0, [])]
theorem ok_Pro_haltOrUnary_92 : blkOK b_Pro_haltOrUnary pt_Pro 104 I_Pro_haltOrUnary_92 = true := by decide +kernel
def I_Pro_haltOrUnary_104 : List IT := [(104, .aload_n 0, 1, 0, 0, []), (105, .getfield 34, 3, 0, 0, []), (108, .aload_n 0, 1, 0, 0, []), (109, .getfield 17, 3, 0, 0, []), (112, .iconst 0, 1, 0, 0, []), (113, .iload_n 3, 1, 0, 0, []), (114, .iconst 0, 1, 0, 0, []), (115, .iload_n 2, 1, 0, 0, []), (116, .invokevirtual 210, 3, 0, 0, []), (119, .invokevirtual 150, 3, 0, 0, []), (122, .iconst 1, 1, 1, 0, []), (123, .ireturn, 1, 0, 0, [])]
theorem ok_Pro_haltOrUnary_104 : blkOK b_Pro_haltOrUnary pt_Pro 124 I_Pro_haltOrUnary_104 = true := by decide +kernel
def I_Pro_haltOrUnary_124 : List IT := [(124, .aload_n 0, 1, 0, 0, []), (125, .iload_n 3, 1, 0, 0, []), (126, .iload_n 2, 1, 0, 0, []), (127, .invokevirtual 237, 3, 0, 0, []), (130, .iconst 1, 1, 1, 0, []), (131, .ireturn, 1, 0, 0, [])]
theorem ok_Pro_haltOrUnary_124 : blkOK b_Pro_haltOrUnary pt_Pro 132 I_Pro_haltOrUnary_124 = true := by decide +kernel
def I_Pro_haltOrUnary_132 : List IT := [(132, .aload_n 0, 1, 0, 0, []), (133, .iload_n 3, 1, 0, 0, []), (134, .iload_n 2, 1, 0, 0, []), (135, .invokevirtual 241, 3, 0, 0, []), (138, .ifCond .ne 8, 3, 0, 146, []), (141, .aload_n 0, 1, 0, 0, []), (142, .iconst 0, 1, 0, 0, []), (143, .invokevirtual 61, 3, 0, 0, [])]
theorem ok_Pro_haltOrUnary_132 : blkOK b_Pro_haltOrUnary pt_Pro 146 I_Pro_haltOrUnary_132 = true := by decide +kernel
def I_Pro_haltOrUnary_146 : List IT := [(146, .iconst 1, 1, 1, 0, []), (147, .ireturn, 1, 0, 0, [])]
theorem ok_Pro_haltOrUnary_146 : blkOK b_Pro_haltOrUnary pt_Pro 148 I_Pro_haltOrUnary_146 = true := by decide +kernel
def I_Pro_haltOrUnary_148 : List IT := [(148, .iconst 0, 1, 0, 0, []), (149, .ireturn, 1, 0, 0, [])]
theorem ok_Pro_haltOrUnary_148 : blkOK b_Pro_haltOrUnary pt_Pro 150 I_Pro_haltOrUnary_148 = true := by decide +kernel
def f_Pro_haltOrUnary_35 (σ : Sg) (y0 : Int32) : Int32 × Sg := (bnd (f_Dec_readModrm σ y0) fun r1 => bnd (f_Dec_value r1) fun r2 => (if (r2.2 14 5) = (2 : Int32) then (bnd (f_Dec_change r2.2 (r2.1 ^^^ (-1 : Int32))) fun r4 => ((1 : Int32), r4)) else (if (r2.2 14 5) = (3 : Int32) then (bnd (f_Fla_difference r2.2 (0 : Int32) r2.1 (0 : Int32) y0) fun r6 => bnd (f_Dec_change r6.2 r6.1) fun r7 => ((1 : Int32), r7)) else (if (r2.2 14 5) = (4 : Int32) then (bnd (f_Pro_multiply r2.2 r2.1 y0) fun r9 => ((1 : Int32), r9)) else (if (r2.2 14 5) = (5 : Int32) then ((0 : Int32), r2.2) else (if (r2.2 14 5) = (6 : Int32) then (bnd (f_Pro_divide r2.2 r2.1 y0) fun r12 => (if r12.1 = (0 : Int32) then (bnd (f_Pro_interrupt r12.2 (0 : Int32)) fun r14 => ((1 : Int32), r14)) else ((1 : Int32), r12.2))) else ((0 : Int32), r2.2)))))))
theorem z_Pro_haltOrUnary_35 {σ : Sg} {y0 : Int32} (z_y0 : y0 = 0 ∨ y0 = 1) : (f_Pro_haltOrUnary_35 σ y0).1 = 0 ∨ (f_Pro_haltOrUnary_35 σ y0).1 = 1 := by
  show Zb (f_Pro_haltOrUnary_35 σ y0)
  unfold f_Pro_haltOrUnary_35
  refine bnd_z fun r1 => ?_
  refine bnd_z fun r2 => ?_
  refine ite_z (fun h3 => ?_) (fun h3 => ?_)
  · refine bnd_z fun r4 => ?_
    exact (Or.inr rfl)
  refine ite_z (fun h5 => ?_) (fun h5 => ?_)
  · refine bnd_z fun r6 => ?_
    refine bnd_z fun r7 => ?_
    exact (Or.inr rfl)
  refine ite_z (fun h8 => ?_) (fun h8 => ?_)
  · refine bnd_z fun r9 => ?_
    exact (Or.inr rfl)
  refine ite_z (fun h10 => ?_) (fun h10 => ?_)
  · exact (Or.inl rfl)
  refine ite_z (fun h11 => ?_) (fun h11 => ?_)
  · refine bnd_zz (Z := Zb) (z_Pro_divide) fun r12 z12 => ?_
    refine ite_z (fun h13 => ?_) (fun h13 => ?_)
    · refine bnd_z fun r14 => ?_
      exact (Or.inr rfl)
    · exact (Or.inr rfl)
  exact (Or.inl rfl)
set_option maxRecDepth 100000 in
set_option maxHeartbeats 4000000 in
theorem b_Pro_haltOrUnary_35 {l : Launch} {ad : Nat → Nat} {D : va_G} {cI : ClassId} {K : Option Value → Sg → Prop} {X : Nat → List Value → List Value → Sg → Prop} (hX : Cl l ad D cI mi_Pro_haltOrUnary pt_Pro K X) {σ : Sg} {y0 : Int32} (z_y0 : y0 = 0 ∨ y0 = 1)  (hK : KI K (f_Pro_haltOrUnary_35 σ y0)) : X 35 [.ref 12, .null, .null, .null] [.int y0] σ := by
  unfold f_Pro_haltOrUnary_35 at hK
  refine hX.1 92 I_Pro_haltOrUnary_35 ok_Pro_haltOrUnary_35 _ _ _ ?_
  refine s_Dec_readModrm z_y0 (bnd_g hK fun r1 e1 hK => ?_)
  refine s_Dec_value (bnd_g hK fun r2 e2 hK => ?_)
  refine And.intro (fun h3 => ?_) (fun h3 => ?_)
  · have hK := ite_p hK h3
    refine hX.1 104 I_Pro_haltOrUnary_92 ok_Pro_haltOrUnary_92 _ _ _ ?_
    refine s_Dec_change (bnd_g hK fun r4 e4 hK => ?_)
    exact And.intro (Or.inr rfl) hK
  have hK := ite_n hK h3
  refine And.intro (fun h5 => ?_) (fun h5 => ?_)
  · have hK := ite_p hK h5
    refine hX.1 124 I_Pro_haltOrUnary_104 ok_Pro_haltOrUnary_104 _ _ _ ?_
    refine s_Fla_difference (bnd_g hK fun r6 e6 hK => ?_)
    refine s_Dec_change (bnd_g hK fun r7 e7 hK => ?_)
    exact And.intro (Or.inr rfl) hK
  have hK := ite_n hK h5
  refine And.intro (fun h8 => ?_) (fun h8 => ?_)
  · have hK := ite_p hK h8
    refine hX.1 132 I_Pro_haltOrUnary_124 ok_Pro_haltOrUnary_124 _ _ _ ?_
    refine s_Pro_multiply (bnd_g hK fun r9 e9 hK => ?_)
    exact And.intro (Or.inr rfl) hK
  have hK := ite_n hK h8
  refine And.intro (fun h10 => ?_) (fun h10 => ?_)
  · have hK := ite_p hK h10
    refine hX.1 150 I_Pro_haltOrUnary_148 ok_Pro_haltOrUnary_148 _ _ _ ?_
    exact And.intro (Or.inl rfl) hK
  have hK := ite_n hK h10
  refine And.intro (fun h11 => ?_) (fun h11 => ?_)
  · have hK := ite_p hK h11
    refine hX.1 146 I_Pro_haltOrUnary_132 ok_Pro_haltOrUnary_132 _ _ _ ?_
    refine s_Pro_divide (bnd_g hK fun r12 e12 hK => ?_)
    have z12 : r12.1 = 0 ∨ r12.1 = 1 := by rw [← e12]; exact z_Pro_divide
    refine And.intro (fun h13 => ?_) (fun h13 => ?_)
    · have hK := ite_p hK h13
      refine s_Pro_interrupt (bnd_g hK fun r14 e14 hK => ?_)
      refine hX.1 148 I_Pro_haltOrUnary_146 ok_Pro_haltOrUnary_146 _ _ _ ?_
      exact And.intro (Or.inr rfl) hK
    · have hK := ite_n hK h13
      refine hX.1 148 I_Pro_haltOrUnary_146 ok_Pro_haltOrUnary_146 _ _ _ ?_
      exact And.intro (Or.inr rfl) hK
  have hK := ite_n hK h11
  refine hX.1 150 I_Pro_haltOrUnary_148 ok_Pro_haltOrUnary_148 _ _ _ ?_
  exact And.intro (Or.inl rfl) hK
def f_Pro_haltOrUnary (σ : Sg) (a1 : Int32) : Int32 × Sg := (if a1 = (244 : Int32) then (bnd (up2 σ 12 6 (1 : Int32)) fun s2 => ((1 : Int32), s2)) else (if (246 : Int32) ≤ a1 then (if a1 = (247 : Int32) then (f_Pro_haltOrUnary_35 σ (1 : Int32)) else (f_Pro_haltOrUnary_35 σ (0 : Int32))) else ((0 : Int32), σ)))
theorem z_Pro_haltOrUnary {σ : Sg} {a1 : Int32}  : (f_Pro_haltOrUnary σ a1).1 = 0 ∨ (f_Pro_haltOrUnary σ a1).1 = 1 := by
  show Zb (f_Pro_haltOrUnary σ a1)
  unfold f_Pro_haltOrUnary
  refine ite_z (fun h1 => ?_) (fun h1 => ?_)
  · refine bnd_z fun s2 => ?_
    exact (Or.inr rfl)
  · refine ite_z (fun h3 => ?_) (fun h3 => ?_)
    · refine ite_z (fun h4 => ?_) (fun h4 => ?_)
      · exact z_Pro_haltOrUnary_35 (Or.inr rfl)
      · exact z_Pro_haltOrUnary_35 (Or.inl rfl)
    · exact (Or.inl rfl)
set_option maxRecDepth 100000 in
set_option maxHeartbeats 4000000 in
theorem s_Pro_haltOrUnary {l : Launch} {ad : Nat → Nat} {D : va_G} {cI : ClassId} {σ : Sg} {a1 : Int32} {K : Option Value → Sg → Prop}   (hK : KI K (f_Pro_haltOrUnary σ a1)) : MetJ l ad D cI mi_Pro_haltOrUnary [.ref 12, .int a1] σ K := by
  refine met_of mi_Pro_haltOrUnary pt_Pro pt_Pro_in rfl pl_Pro rfl (Nat.le_of_ble_eq_true rfl) fun X hX => ?_
  have hX : Cl l ad D cI mi_Pro_haltOrUnary pt_Pro K X := hX
  show X 0 [.ref 12, .int a1, .null, .null] [] σ
  unfold f_Pro_haltOrUnary at hK
  refine hX.1 14 I_Pro_haltOrUnary_0 ok_Pro_haltOrUnary_0 _ _ _ ?_
  refine And.intro (fun h1 => ?_) (fun h1 => ?_)
  · have hK := ite_p hK h1
    refine And.intro (Or.inr rfl) (SG_g hK fun s2 e2 hK => ?_)
    exact And.intro (Or.inr rfl) hK
  · have hK := ite_n hK h1
    refine hX.1 23 I_Pro_haltOrUnary_14 ok_Pro_haltOrUnary_14 _ _ _ ?_
    refine And.intro (fun h3 => ?_) (fun h3 => ?_)
    · have hK := ite_p hK h3
      refine hX.1 34 I_Pro_haltOrUnary_23 ok_Pro_haltOrUnary_23 _ _ _ ?_
      refine And.intro (fun h4 => ?_) (fun h4 => ?_)
      · have hK := ite_p hK h4
        refine hX.fg [1] ?_
        exact b_Pro_haltOrUnary_35 hX (Or.inr rfl) hK
      · have hK := ite_n hK h4
        refine hX.1 35 I_Pro_haltOrUnary_34 ok_Pro_haltOrUnary_34 _ _ _ ?_
        refine hX.fg [1] ?_
        exact b_Pro_haltOrUnary_35 hX (Or.inl rfl) hK
    · have hK := ite_n hK h3
      exact And.intro (Or.inl rfl) hK
def I_Pro_setFlag_0 : List IT := [(0, .iload_n 1, 1, 0, 0, []), (1, .sipush 250, 3, 250, 0, []), (4, .if_icmp .ge 7, 3, 0, 11, []), (7, .iconst 1, 1, 1, 0, []), (8, .goto 19, 3, 0, 27, [])]
theorem ok_Pro_setFlag_0 : blkOK b_Pro_setFlag pt_Pro 11 I_Pro_setFlag_0 = true := by decide +kernel
def I_Pro_setFlag_11 : List IT := [(11, .iload_n 1, 1, 0, 0, []), (12, .sipush 252, 3, 252, 0, []), (15, .if_icmp .ge 9, 3, 0, 24, []), (18, .sipush 512, 3, 512, 0, []), (21, .goto 6, 3, 0, 27, [])]
theorem ok_Pro_setFlag_11 : blkOK b_Pro_setFlag pt_Pro 24 I_Pro_setFlag_11 = true := by decide +kernel
def I_Pro_setFlag_24 : List IT := [(24, .sipush 1024, 3, 1024, 0, [])]
theorem ok_Pro_setFlag_24 : blkOK b_Pro_setFlag pt_Pro 27 I_Pro_setFlag_24 = true := by decide +kernel
def I_Pro_setFlag_27 : List IT := [(27, .istore_n 2, 1, 0, 0, []), (28, .aload_n 0, 1, 0, 0, []), (29, .getfield 17, 3, 0, 0, []), (32, .iload_n 2, 1, 0, 0, []), (33, .iload_n 1, 1, 0, 0, []), (34, .iconst 1, 1, 1, 0, []), (35, .iand, 1, 0, 0, []), (36, .iconst 1, 1, 1, 0, []), (37, .if_icmp .ne 7, 3, 0, 44, []), (40, .iconst 1, 1, 1, 0, []), (41, .goto 4, 3, 0, 45, [])]
theorem ok_Pro_setFlag_27 : blkOK b_Pro_setFlag pt_Pro 44 I_Pro_setFlag_27 = true := by decide +kernel
def I_Pro_setFlag_44 : List IT := [(44, .iconst 0, 1, 0, 0, [])]
theorem ok_Pro_setFlag_44 : blkOK b_Pro_setFlag pt_Pro 45 I_Pro_setFlag_44 = true := by decide +kernel
def I_Pro_setFlag_45 : List IT := [(45, .invokevirtual 247, 3, 0, 0, []), (48, .aload_n 0, 1, 0, 0, []), (49, .iload_n 1, 1, 0, 0, []), (50, .sipush 251, 3, 251, 0, []), (53, .if_icmp .ne 7, 3, 0, 60, []), (56, .iconst 1, 1, 1, 0, []), (57, .goto 4, 3, 0, 61, [])]
theorem ok_Pro_setFlag_45 : blkOK b_Pro_setFlag pt_Pro 60 I_Pro_setFlag_45 = true := by decide +kernel
def I_Pro_setFlag_60 : List IT := [(60, .iconst 0, 1, 0, 0, [])]
theorem ok_Pro_setFlag_60 : blkOK b_Pro_setFlag pt_Pro 61 I_Pro_setFlag_60 = true := by decide +kernel
def I_Pro_setFlag_61 : List IT := [(61, .putfield 44, 3, 0, 0, []), (64, .iconst 1, 1, 1, 0, []), (65, .ireturn, 1, 0, 0, [])]
theorem ok_Pro_setFlag_61 : blkOK b_Pro_setFlag pt_Pro 66 I_Pro_setFlag_61 = true := by decide +kernel
def f_Pro_setFlag_45 (σ : Sg) (x1 : Int32) (y0 : Int32) (y1 : Int32) : Int32 × Sg := (bnd (f_Fla_set σ y1 y0) fun r1 => (if x1 = (251 : Int32) then (bnd (up2 r1 12 8 (1 : Int32)) fun s3 => ((1 : Int32), s3)) else (bnd (up2 r1 12 8 (0 : Int32)) fun s4 => ((1 : Int32), s4))))
theorem z_Pro_setFlag_45 {σ : Sg} {x1 : Int32} {y0 : Int32} {y1 : Int32} (z_y0 : y0 = 0 ∨ y0 = 1) : (f_Pro_setFlag_45 σ x1 y0 y1).1 = 0 ∨ (f_Pro_setFlag_45 σ x1 y0 y1).1 = 1 := by
  show Zb (f_Pro_setFlag_45 σ x1 y0 y1)
  unfold f_Pro_setFlag_45
  refine bnd_z fun r1 => ?_
  refine ite_z (fun h2 => ?_) (fun h2 => ?_)
  · refine bnd_z fun s3 => ?_
    exact (Or.inr rfl)
  · refine bnd_z fun s4 => ?_
    exact (Or.inr rfl)
set_option maxRecDepth 100000 in
set_option maxHeartbeats 4000000 in
theorem b_Pro_setFlag_45 {l : Launch} {ad : Nat → Nat} {D : va_G} {cI : ClassId} {K : Option Value → Sg → Prop} {X : Nat → List Value → List Value → Sg → Prop} (hX : Cl l ad D cI mi_Pro_setFlag pt_Pro K X) {σ : Sg} {x1 : Int32} {y0 : Int32} {y1 : Int32} (z_y0 : y0 = 0 ∨ y0 = 1)  (hK : KI K (f_Pro_setFlag_45 σ x1 y0 y1)) : X 45 [.ref 12, .int x1, .null] [.int y0, .int y1, .ref 6] σ := by
  unfold f_Pro_setFlag_45 at hK
  refine hX.1 60 I_Pro_setFlag_45 ok_Pro_setFlag_45 _ _ _ ?_
  refine s_Fla_set (bnd_g hK fun r1 e1 hK => ?_)
  refine And.intro (fun h2 => ?_) (fun h2 => ?_)
  · have hK := ite_p hK h2
    refine hX.1 66 I_Pro_setFlag_61 ok_Pro_setFlag_61 _ _ _ ?_
    refine And.intro (Or.inr rfl) (SG_g hK fun s3 e3 hK => ?_)
    exact And.intro (Or.inr rfl) hK
  · have hK := ite_n hK h2
    refine hX.1 61 I_Pro_setFlag_60 ok_Pro_setFlag_60 _ _ _ ?_
    refine hX.1 66 I_Pro_setFlag_61 ok_Pro_setFlag_61 _ _ _ ?_
    refine And.intro (Or.inl rfl) (SG_g hK fun s4 e4 hK => ?_)
    exact And.intro (Or.inr rfl) hK
def f_Pro_setFlag_27 (σ : Sg) (x1 : Int32) (y0 : Int32) : Int32 × Sg := (if (x1 &&& (1 : Int32)) = (1 : Int32) then (f_Pro_setFlag_45 σ x1 (1 : Int32) y0) else (f_Pro_setFlag_45 σ x1 (0 : Int32) y0))
theorem z_Pro_setFlag_27 {σ : Sg} {x1 : Int32} {y0 : Int32}  : (f_Pro_setFlag_27 σ x1 y0).1 = 0 ∨ (f_Pro_setFlag_27 σ x1 y0).1 = 1 := by
  show Zb (f_Pro_setFlag_27 σ x1 y0)
  unfold f_Pro_setFlag_27
  refine ite_z (fun h1 => ?_) (fun h1 => ?_)
  · exact z_Pro_setFlag_45 (Or.inr rfl)
  · exact z_Pro_setFlag_45 (Or.inl rfl)
set_option maxRecDepth 100000 in
set_option maxHeartbeats 4000000 in
theorem b_Pro_setFlag_27 {l : Launch} {ad : Nat → Nat} {D : va_G} {cI : ClassId} {K : Option Value → Sg → Prop} {X : Nat → List Value → List Value → Sg → Prop} (hX : Cl l ad D cI mi_Pro_setFlag pt_Pro K X) {σ : Sg} {x1 : Int32} {y0 : Int32}   (hK : KI K (f_Pro_setFlag_27 σ x1 y0)) : X 27 [.ref 12, .int x1, .null] [.int y0] σ := by
  unfold f_Pro_setFlag_27 at hK
  refine hX.1 44 I_Pro_setFlag_27 ok_Pro_setFlag_27 _ _ _ ?_
  refine And.intro (fun h1 => ?_) (fun h1 => ?_)
  · have hK := ite_p hK h1
    refine hX.fg [2] ?_
    exact b_Pro_setFlag_45 hX (Or.inr rfl) hK
  · have hK := ite_n hK h1
    refine hX.1 45 I_Pro_setFlag_44 ok_Pro_setFlag_44 _ _ _ ?_
    refine hX.fg [2] ?_
    exact b_Pro_setFlag_45 hX (Or.inl rfl) hK
def f_Pro_setFlag (σ : Sg) (a1 : Int32) : Int32 × Sg := (if (250 : Int32) ≤ a1 then (if (252 : Int32) ≤ a1 then (f_Pro_setFlag_27 σ a1 (1024 : Int32)) else (f_Pro_setFlag_27 σ a1 (512 : Int32))) else (f_Pro_setFlag_27 σ a1 (1 : Int32)))
theorem z_Pro_setFlag {σ : Sg} {a1 : Int32}  : (f_Pro_setFlag σ a1).1 = 0 ∨ (f_Pro_setFlag σ a1).1 = 1 := by
  show Zb (f_Pro_setFlag σ a1)
  unfold f_Pro_setFlag
  refine ite_z (fun h1 => ?_) (fun h1 => ?_)
  · refine ite_z (fun h2 => ?_) (fun h2 => ?_)
    · exact z_Pro_setFlag_27
    · exact z_Pro_setFlag_27
  · exact z_Pro_setFlag_27
set_option maxRecDepth 100000 in
set_option maxHeartbeats 4000000 in
theorem s_Pro_setFlag {l : Launch} {ad : Nat → Nat} {D : va_G} {cI : ClassId} {σ : Sg} {a1 : Int32} {K : Option Value → Sg → Prop}   (hK : KI K (f_Pro_setFlag σ a1)) : MetJ l ad D cI mi_Pro_setFlag [.ref 12, .int a1] σ K := by
  refine met_of mi_Pro_setFlag pt_Pro pt_Pro_in rfl pl_Pro rfl (Nat.le_of_ble_eq_true rfl) fun X hX => ?_
  have hX : Cl l ad D cI mi_Pro_setFlag pt_Pro K X := hX
  show X 0 [.ref 12, .int a1, .null] [] σ
  unfold f_Pro_setFlag at hK
  refine hX.1 11 I_Pro_setFlag_0 ok_Pro_setFlag_0 _ _ _ ?_
  refine And.intro (fun h1 => ?_) (fun h1 => ?_)
  · have hK := ite_p hK h1
    refine hX.1 24 I_Pro_setFlag_11 ok_Pro_setFlag_11 _ _ _ ?_
    refine And.intro (fun h2 => ?_) (fun h2 => ?_)
    · have hK := ite_p hK h2
      refine hX.1 27 I_Pro_setFlag_24 ok_Pro_setFlag_24 _ _ _ ?_
      exact b_Pro_setFlag_27 hX  hK
    · have hK := ite_n hK h2
      exact b_Pro_setFlag_27 hX  hK
  · have hK := ite_n hK h1
    exact b_Pro_setFlag_27 hX  hK
def I_Pro_perform_0 : List IT := [(0, .iload_n 1, 1, 0, 0, []), (1, .iconst 4, 1, 4, 0, []), (2, .ishr, 1, 0, 0, []), (3, .tableswitch 224 0 15 #[77, 77, 77, 77, 100, 106, 224, 112, 121, 142, 155, 161, 167, 224, 173, 179], 77, 0, 227, [(0, 80), (1, 80), (2, 80), (3, 80), (4, 103), (5, 109), (6, 227), (7, 115), (8, 124), (9, 145), (10, 158), (11, 164), (12, 170), (13, 227), (14, 176), (15, 182)])]
theorem ok_Pro_perform_0 : blkOK b_Pro_perform pt_Pro 80 I_Pro_perform_0 = true := by decide +kernel
def I_Pro_perform_80 : List IT := [(80, .iload_n 1, 1, 0, 0, []), (81, .bipush 7, 2, 7, 0, []), (83, .iand, 1, 0, 0, []), (84, .bipush 6, 2, 6, 0, []), (86, .if_icmp .ge 11, 3, 0, 97, []), (89, .aload_n 0, 1, 0, 0, []), (90, .iload_n 1, 1, 0, 0, []), (91, .invokevirtual 83, 3, 0, 0, []), (94, .goto 8, 3, 0, 102, [])]
theorem ok_Pro_perform_80 : blkOK b_Pro_perform pt_Pro 97 I_Pro_perform_80 = true := by decide +kernel
def I_Pro_perform_97 : List IT := [(97, .aload_n 0, 1, 0, 0, []), (98, .iload_n 1, 1, 0, 0, []), (99, .invokevirtual 86, 3, 0, 0, [])]
theorem ok_Pro_perform_97 : blkOK b_Pro_perform pt_Pro 102 I_Pro_perform_97 = true := by decide +kernel
def I_Pro_perform_102 : List IT := [(102, .ireturn, 1, 0, 0, [])]
theorem ok_Pro_perform_102 : blkOK b_Pro_perform pt_Pro 103 I_Pro_perform_102 = true := by decide +kernel
def I_Pro_perform_103 : List IT := [(103, .aload_n 0, 1, 0, 0, []), (104, .iload_n 1, 1, 0, 0, []), (105, .invokevirtual 89, 3, 0, 0, []), (108, .ireturn, 1, 0, 0, [])]
theorem ok_Pro_perform_103 : blkOK b_Pro_perform pt_Pro 109 I_Pro_perform_103 = true := by decide +kernel
def I_Pro_perform_109 : List IT := [(109, .aload_n 0, 1, 0, 0, []), (110, .iload_n 1, 1, 0, 0, []), (111, .invokevirtual 92, 3, 0, 0, []), (114, .ireturn, 1, 0, 0, [])]
theorem ok_Pro_perform_109 : blkOK b_Pro_perform pt_Pro 115 I_Pro_perform_109 = true := by decide +kernel
def I_Pro_perform_115 : List IT := [(115, .aload_n 0, 1, 0, 0, []), (116, .iload_n 1, 1, 0, 0, []), (117, .bipush 15, 2, 15, 0, []), (119, .iand, 1, 0, 0, []), (120, .invokevirtual 95, 3, 0, 0, []), (123, .ireturn, 1, 0, 0, [])]
theorem ok_Pro_perform_115 : blkOK b_Pro_perform pt_Pro 124 I_Pro_perform_115 = true := by decide +kernel
def I_Pro_perform_124 : List IT := [(124, .iload_n 1, 1, 0, 0, []), (125, .sipush 136, 3, 136, 0, []), (128, .if_icmp .ge 11, 3, 0, 139, []), (131, .aload_n 0, 1, 0, 0, []), (132, .iload_n 1, 1, 0, 0, []), (133, .invokevirtual 98, 3, 0, 0, []), (136, .goto 8, 3, 0, 144, [])]
theorem ok_Pro_perform_124 : blkOK b_Pro_perform pt_Pro 139 I_Pro_perform_124 = true := by decide +kernel
def I_Pro_perform_139 : List IT := [(139, .aload_n 0, 1, 0, 0, []), (140, .iload_n 1, 1, 0, 0, []), (141, .invokevirtual 101, 3, 0, 0, [])]
theorem ok_Pro_perform_139 : blkOK b_Pro_perform pt_Pro 144 I_Pro_perform_139 = true := by decide +kernel
def I_Pro_perform_144 : List IT := [(144, .ireturn, 1, 0, 0, [])]
theorem ok_Pro_perform_144 : blkOK b_Pro_perform pt_Pro 145 I_Pro_perform_144 = true := by decide +kernel
def I_Pro_perform_145 : List IT := [(145, .iload_n 1, 1, 0, 0, []), (146, .sipush 144, 3, 144, 0, []), (149, .if_icmp .ne 7, 3, 0, 156, []), (152, .iconst 1, 1, 1, 0, []), (153, .goto 4, 3, 0, 157, [])]
theorem ok_Pro_perform_145 : blkOK b_Pro_perform pt_Pro 156 I_Pro_perform_145 = true := by decide +kernel
def I_Pro_perform_156 : List IT := [(156, .iconst 0, 1, 0, 0, [])]
theorem ok_Pro_perform_156 : blkOK b_Pro_perform pt_Pro 157 I_Pro_perform_156 = true := by decide +kernel
def I_Pro_perform_157 : List IT := [(157, .ireturn, 1, 0, 0, [])]
theorem ok_Pro_perform_157 : blkOK b_Pro_perform pt_Pro 158 I_Pro_perform_157 = true := by decide +kernel
def I_Pro_perform_158 : List IT := [(158, .aload_n 0, 1, 0, 0, []), (159, .iload_n 1, 1, 0, 0, []), (160, .invokevirtual 104, 3, 0, 0, []), (163, .ireturn, 1, 0, 0, [])]
theorem ok_Pro_perform_158 : blkOK b_Pro_perform pt_Pro 164 I_Pro_perform_158 = true := by decide +kernel
def I_Pro_perform_164 : List IT := [(164, .aload_n 0, 1, 0, 0, []), (165, .iload_n 1, 1, 0, 0, []), (166, .invokevirtual 107, 3, 0, 0, []), (169, .ireturn, 1, 0, 0, [])]
theorem ok_Pro_perform_164 : blkOK b_Pro_perform pt_Pro 170 I_Pro_perform_164 = true := by decide +kernel
def I_Pro_perform_170 : List IT := [(170, .aload_n 0, 1, 0, 0, []), (171, .iload_n 1, 1, 0, 0, []), (172, .invokevirtual 110, 3, 0, 0, []), (175, .ireturn, 1, 0, 0, [])]
theorem ok_Pro_perform_170 : blkOK b_Pro_perform pt_Pro 176 I_Pro_perform_170 = true := by decide +kernel
def I_Pro_perform_176 : List IT := [(176, .aload_n 0, 1, 0, 0, []), (177, .iload_n 1, 1, 0, 0, []), (178, .invokevirtual 113, 3, 0, 0, []), (181, .ireturn, 1, 0, 0, [])]
theorem ok_Pro_perform_176 : blkOK b_Pro_perform pt_Pro 182 I_Pro_perform_176 = true := by decide +kernel
def I_Pro_perform_182 : List IT := [(182, .iload_n 1, 1, 0, 0, []), (183, .sipush 254, 3, 254, 0, []), (186, .if_icmp .lt 20, 3, 0, 206, []), (189, .aload_n 0, 1, 0, 0, []), (190, .iload_n 1, 1, 0, 0, []), (191, .sipush 255, 3, 255, 0, []), (194, .if_icmp .ne 7, 3, 0, 201, []), (197, .iconst 1, 1, 1, 0, []), (198, .goto 4, 3, 0, 202, [])]
theorem ok_Pro_perform_182 : blkOK b_Pro_perform pt_Pro 201 I_Pro_perform_182 = true := by decide +kernel
def I_Pro_perform_201 : List IT := [(201, .iconst 0, 1, 0, 0, [])]
theorem ok_Pro_perform_201 : blkOK b_Pro_perform pt_Pro 202 I_Pro_perform_201 = true := by decide +kernel
def I_Pro_perform_202 : List IT := [(202, .invokevirtual 116, 3, 0, 0, []), (205, .ireturn, 1, 0, 0, [])]
theorem ok_Pro_perform_202 : blkOK b_Pro_perform pt_Pro 206 I_Pro_perform_202 = true := by decide +kernel
def I_Pro_perform_206 : List IT := [(206, .iload_n 1, 1, 0, 0, []), (207, .sipush 248, 3, 248, 0, []), (210, .if_icmp .ge 11, 3, 0, 221, []), (213, .aload_n 0, 1, 0, 0, []), (214, .iload_n 1, 1, 0, 0, []), (215, .invokevirtual 120, 3, 0, 0, []), (218, .goto 8, 3, 0, 226, [])]
theorem ok_Pro_perform_206 : blkOK b_Pro_perform pt_Pro 221 I_Pro_perform_206 = true := by decide +kernel
def I_Pro_perform_221 : List IT := [(221, .aload_n 0, 1, 0, 0, []), (222, .iload_n 1, 1, 0, 0, []), (223, .invokevirtual 123, 3, 0, 0, [])]
theorem ok_Pro_perform_221 : blkOK b_Pro_perform pt_Pro 226 I_Pro_perform_221 = true := by decide +kernel
def I_Pro_perform_226 : List IT := [(226, .ireturn, 1, 0, 0, [])]
theorem ok_Pro_perform_226 : blkOK b_Pro_perform pt_Pro 227 I_Pro_perform_226 = true := by decide +kernel
def I_Pro_perform_227 : List IT := [(227, .iconst 0, 1, 0, 0, []), (228, .ireturn, 1, 0, 0, [])]
theorem ok_Pro_perform_227 : blkOK b_Pro_perform pt_Pro 229 I_Pro_perform_227 = true := by decide +kernel
def f_Pro_perform_80 (σ : Sg) (x1 : Int32) : Int32 × Sg := (if (6 : Int32) ≤ (x1 &&& (7 : Int32)) then (bnd (f_Pro_segmentOnStack σ x1) fun r2 => (r2.1, r2.2)) else (bnd (f_Pro_combine σ x1) fun r3 => (r3.1, r3.2)))
theorem z_Pro_perform_80 {σ : Sg} {x1 : Int32}  : (f_Pro_perform_80 σ x1).1 = 0 ∨ (f_Pro_perform_80 σ x1).1 = 1 := by
  show Zb (f_Pro_perform_80 σ x1)
  unfold f_Pro_perform_80
  refine ite_z (fun h1 => ?_) (fun h1 => ?_)
  · refine bnd_zz (Z := Zb) (z_Pro_segmentOnStack) fun r2 z2 => ?_
    exact z2
  · refine bnd_zz (Z := Zb) (z_Pro_combine) fun r3 z3 => ?_
    exact z3
set_option maxRecDepth 100000 in
set_option maxHeartbeats 4000000 in
theorem b_Pro_perform_80 {l : Launch} {ad : Nat → Nat} {D : va_G} {cI : ClassId} {K : Option Value → Sg → Prop} {X : Nat → List Value → List Value → Sg → Prop} (hX : Cl l ad D cI mi_Pro_perform pt_Pro K X) {σ : Sg} {x1 : Int32}   (hK : KI K (f_Pro_perform_80 σ x1)) : X 80 [.ref 12, .int x1] [] σ := by
  unfold f_Pro_perform_80 at hK
  refine hX.1 97 I_Pro_perform_80 ok_Pro_perform_80 _ _ _ ?_
  refine And.intro (fun h1 => ?_) (fun h1 => ?_)
  · have hK := ite_p hK h1
    refine hX.1 102 I_Pro_perform_97 ok_Pro_perform_97 _ _ _ ?_
    refine s_Pro_segmentOnStack (bnd_g hK fun r2 e2 hK => ?_)
    have z2 : r2.1 = 0 ∨ r2.1 = 1 := by rw [← e2]; exact z_Pro_segmentOnStack
    refine hX.1 103 I_Pro_perform_102 ok_Pro_perform_102 _ _ _ ?_
    exact And.intro z2 hK
  · have hK := ite_n hK h1
    refine s_Pro_combine (bnd_g hK fun r3 e3 hK => ?_)
    have z3 : r3.1 = 0 ∨ r3.1 = 1 := by rw [← e3]; exact z_Pro_combine
    refine hX.1 103 I_Pro_perform_102 ok_Pro_perform_102 _ _ _ ?_
    exact And.intro z3 hK
def f_Pro_perform_202 (σ : Sg) (y0 : Int32) : Int32 × Sg := (bnd (f_Pro_countOperand σ y0) fun r1 => (r1.1, r1.2))
theorem z_Pro_perform_202 {σ : Sg} {y0 : Int32} (z_y0 : y0 = 0 ∨ y0 = 1) : (f_Pro_perform_202 σ y0).1 = 0 ∨ (f_Pro_perform_202 σ y0).1 = 1 := by
  show Zb (f_Pro_perform_202 σ y0)
  unfold f_Pro_perform_202
  refine bnd_zz (Z := Zb) (z_Pro_countOperand z_y0) fun r1 z1 => ?_
  exact z1
set_option maxRecDepth 100000 in
set_option maxHeartbeats 4000000 in
theorem b_Pro_perform_202 {l : Launch} {ad : Nat → Nat} {D : va_G} {cI : ClassId} {K : Option Value → Sg → Prop} {X : Nat → List Value → List Value → Sg → Prop} (hX : Cl l ad D cI mi_Pro_perform pt_Pro K X) {σ : Sg} {y0 : Int32} (z_y0 : y0 = 0 ∨ y0 = 1)  (hK : KI K (f_Pro_perform_202 σ y0)) : X 202 [.null, .null] [.int y0, .ref 12] σ := by
  unfold f_Pro_perform_202 at hK
  refine hX.1 206 I_Pro_perform_202 ok_Pro_perform_202 _ _ _ ?_
  refine s_Pro_countOperand z_y0 (bnd_g hK fun r1 e1 hK => ?_)
  have z1 : r1.1 = 0 ∨ r1.1 = 1 := by rw [← e1]; exact z_Pro_countOperand z_y0
  exact And.intro z1 hK
def f_Pro_perform (σ : Sg) (a1 : Int32) : Int32 × Sg := (if (a1 >>> ((4 : Int32) &&& 31 : Int32)) = (0 : Int32) then (f_Pro_perform_80 σ a1) else (if (a1 >>> ((4 : Int32) &&& 31 : Int32)) = (1 : Int32) then (f_Pro_perform_80 σ a1) else (if (a1 >>> ((4 : Int32) &&& 31 : Int32)) = (2 : Int32) then (f_Pro_perform_80 σ a1) else (if (a1 >>> ((4 : Int32) &&& 31 : Int32)) = (3 : Int32) then (f_Pro_perform_80 σ a1) else (if (a1 >>> ((4 : Int32) &&& 31 : Int32)) = (4 : Int32) then (bnd (f_Pro_countRegister σ a1) fun r6 => (r6.1, r6.2)) else (if (a1 >>> ((4 : Int32) &&& 31 : Int32)) = (5 : Int32) then (bnd (f_Pro_registerOnStack σ a1) fun r8 => (r8.1, r8.2)) else (if (a1 >>> ((4 : Int32) &&& 31 : Int32)) = (6 : Int32) then ((0 : Int32), σ) else (if (a1 >>> ((4 : Int32) &&& 31 : Int32)) = (7 : Int32) then (bnd (f_Pro_jumpIf σ (a1 &&& (15 : Int32))) fun r11 => (r11.1, r11.2)) else (if (a1 >>> ((4 : Int32) &&& 31 : Int32)) = (8 : Int32) then (if (136 : Int32) ≤ a1 then (bnd (f_Pro_move σ a1) fun r14 => (r14.1, r14.2)) else (bnd (f_Pro_combineGiven σ a1) fun r15 => (r15.1, r15.2))) else (if (a1 >>> ((4 : Int32) &&& 31 : Int32)) = (9 : Int32) then (if a1 = (144 : Int32) then ((1 : Int32), σ) else ((0 : Int32), σ)) else (if (a1 >>> ((4 : Int32) &&& 31 : Int32)) = (10 : Int32) then (bnd (f_Pro_string σ a1) fun r19 => (r19.1, r19.2)) else (if (a1 >>> ((4 : Int32) &&& 31 : Int32)) = (11 : Int32) then (bnd (f_Pro_moveGiven σ a1) fun r21 => (r21.1, r21.2)) else (if (a1 >>> ((4 : Int32) &&& 31 : Int32)) = (12 : Int32) then (bnd (f_Pro_leave σ a1) fun r23 => (r23.1, r23.2)) else (if (a1 >>> ((4 : Int32) &&& 31 : Int32)) = (13 : Int32) then ((0 : Int32), σ) else (if (a1 >>> ((4 : Int32) &&& 31 : Int32)) = (14 : Int32) then (bnd (f_Pro_jumpOrPort σ a1) fun r26 => (r26.1, r26.2)) else (if (a1 >>> ((4 : Int32) &&& 31 : Int32)) = (15 : Int32) then (if a1 < (254 : Int32) then (if (248 : Int32) ≤ a1 then (bnd (f_Pro_setFlag σ a1) fun r30 => (r30.1, r30.2)) else (bnd (f_Pro_haltOrUnary σ a1) fun r31 => (r31.1, r31.2))) else (if a1 = (255 : Int32) then (f_Pro_perform_202 σ (1 : Int32)) else (f_Pro_perform_202 σ (0 : Int32)))) else ((0 : Int32), σ)))))))))))))))))
theorem z_Pro_perform {σ : Sg} {a1 : Int32}  : (f_Pro_perform σ a1).1 = 0 ∨ (f_Pro_perform σ a1).1 = 1 := by
  show Zb (f_Pro_perform σ a1)
  unfold f_Pro_perform
  refine ite_z (fun h1 => ?_) (fun h1 => ?_)
  · exact z_Pro_perform_80
  refine ite_z (fun h2 => ?_) (fun h2 => ?_)
  · exact z_Pro_perform_80
  refine ite_z (fun h3 => ?_) (fun h3 => ?_)
  · exact z_Pro_perform_80
  refine ite_z (fun h4 => ?_) (fun h4 => ?_)
  · exact z_Pro_perform_80
  refine ite_z (fun h5 => ?_) (fun h5 => ?_)
  · refine bnd_zz (Z := Zb) (z_Pro_countRegister) fun r6 z6 => ?_
    exact z6
  refine ite_z (fun h7 => ?_) (fun h7 => ?_)
  · refine bnd_zz (Z := Zb) (z_Pro_registerOnStack) fun r8 z8 => ?_
    exact z8
  refine ite_z (fun h9 => ?_) (fun h9 => ?_)
  · exact (Or.inl rfl)
  refine ite_z (fun h10 => ?_) (fun h10 => ?_)
  · refine bnd_zz (Z := Zb) (z_Pro_jumpIf) fun r11 z11 => ?_
    exact z11
  refine ite_z (fun h12 => ?_) (fun h12 => ?_)
  · refine ite_z (fun h13 => ?_) (fun h13 => ?_)
    · refine bnd_zz (Z := Zb) (z_Pro_move) fun r14 z14 => ?_
      exact z14
    · refine bnd_zz (Z := Zb) (z_Pro_combineGiven) fun r15 z15 => ?_
      exact z15
  refine ite_z (fun h16 => ?_) (fun h16 => ?_)
  · refine ite_z (fun h17 => ?_) (fun h17 => ?_)
    · exact (Or.inr rfl)
    · exact (Or.inl rfl)
  refine ite_z (fun h18 => ?_) (fun h18 => ?_)
  · refine bnd_zz (Z := Zb) (z_Pro_string) fun r19 z19 => ?_
    exact z19
  refine ite_z (fun h20 => ?_) (fun h20 => ?_)
  · refine bnd_zz (Z := Zb) (z_Pro_moveGiven) fun r21 z21 => ?_
    exact z21
  refine ite_z (fun h22 => ?_) (fun h22 => ?_)
  · refine bnd_zz (Z := Zb) (z_Pro_leave) fun r23 z23 => ?_
    exact z23
  refine ite_z (fun h24 => ?_) (fun h24 => ?_)
  · exact (Or.inl rfl)
  refine ite_z (fun h25 => ?_) (fun h25 => ?_)
  · refine bnd_zz (Z := Zb) (z_Pro_jumpOrPort) fun r26 z26 => ?_
    exact z26
  refine ite_z (fun h27 => ?_) (fun h27 => ?_)
  · refine ite_z (fun h28 => ?_) (fun h28 => ?_)
    · refine ite_z (fun h29 => ?_) (fun h29 => ?_)
      · refine bnd_zz (Z := Zb) (z_Pro_setFlag) fun r30 z30 => ?_
        exact z30
      · refine bnd_zz (Z := Zb) (z_Pro_haltOrUnary) fun r31 z31 => ?_
        exact z31
    · refine ite_z (fun h32 => ?_) (fun h32 => ?_)
      · exact z_Pro_perform_202 (Or.inr rfl)
      · exact z_Pro_perform_202 (Or.inl rfl)
  exact (Or.inl rfl)
set_option maxRecDepth 100000 in
set_option maxHeartbeats 4000000 in
theorem s_Pro_perform {l : Launch} {ad : Nat → Nat} {D : va_G} {cI : ClassId} {σ : Sg} {a1 : Int32} {K : Option Value → Sg → Prop}   (hK : KI K (f_Pro_perform σ a1)) : MetJ l ad D cI mi_Pro_perform [.ref 12, .int a1] σ K := by
  refine met_of mi_Pro_perform pt_Pro pt_Pro_in rfl pl_Pro rfl (Nat.le_of_ble_eq_true rfl) fun X hX => ?_
  have hX : Cl l ad D cI mi_Pro_perform pt_Pro K X := hX
  show X 0 [.ref 12, .int a1] [] σ
  unfold f_Pro_perform at hK
  refine hX.1 80 I_Pro_perform_0 ok_Pro_perform_0 _ _ _ ?_
  refine And.intro (fun h1 => ?_) (fun h1 => ?_)
  · have hK := ite_p hK h1
    exact b_Pro_perform_80 hX  hK
  have hK := ite_n hK h1
  refine And.intro (fun h2 => ?_) (fun h2 => ?_)
  · have hK := ite_p hK h2
    exact b_Pro_perform_80 hX  hK
  have hK := ite_n hK h2
  refine And.intro (fun h3 => ?_) (fun h3 => ?_)
  · have hK := ite_p hK h3
    exact b_Pro_perform_80 hX  hK
  have hK := ite_n hK h3
  refine And.intro (fun h4 => ?_) (fun h4 => ?_)
  · have hK := ite_p hK h4
    exact b_Pro_perform_80 hX  hK
  have hK := ite_n hK h4
  refine And.intro (fun h5 => ?_) (fun h5 => ?_)
  · have hK := ite_p hK h5
    refine hX.1 109 I_Pro_perform_103 ok_Pro_perform_103 _ _ _ ?_
    refine s_Pro_countRegister (bnd_g hK fun r6 e6 hK => ?_)
    have z6 : r6.1 = 0 ∨ r6.1 = 1 := by rw [← e6]; exact z_Pro_countRegister
    exact And.intro z6 hK
  have hK := ite_n hK h5
  refine And.intro (fun h7 => ?_) (fun h7 => ?_)
  · have hK := ite_p hK h7
    refine hX.1 115 I_Pro_perform_109 ok_Pro_perform_109 _ _ _ ?_
    refine s_Pro_registerOnStack (bnd_g hK fun r8 e8 hK => ?_)
    have z8 : r8.1 = 0 ∨ r8.1 = 1 := by rw [← e8]; exact z_Pro_registerOnStack
    exact And.intro z8 hK
  have hK := ite_n hK h7
  refine And.intro (fun h9 => ?_) (fun h9 => ?_)
  · have hK := ite_p hK h9
    refine hX.1 229 I_Pro_perform_227 ok_Pro_perform_227 _ _ _ ?_
    exact And.intro (Or.inl rfl) hK
  have hK := ite_n hK h9
  refine And.intro (fun h10 => ?_) (fun h10 => ?_)
  · have hK := ite_p hK h10
    refine hX.1 124 I_Pro_perform_115 ok_Pro_perform_115 _ _ _ ?_
    refine s_Pro_jumpIf (bnd_g hK fun r11 e11 hK => ?_)
    have z11 : r11.1 = 0 ∨ r11.1 = 1 := by rw [← e11]; exact z_Pro_jumpIf
    exact And.intro z11 hK
  have hK := ite_n hK h10
  refine And.intro (fun h12 => ?_) (fun h12 => ?_)
  · have hK := ite_p hK h12
    refine hX.1 139 I_Pro_perform_124 ok_Pro_perform_124 _ _ _ ?_
    refine And.intro (fun h13 => ?_) (fun h13 => ?_)
    · have hK := ite_p hK h13
      refine hX.1 144 I_Pro_perform_139 ok_Pro_perform_139 _ _ _ ?_
      refine s_Pro_move (bnd_g hK fun r14 e14 hK => ?_)
      have z14 : r14.1 = 0 ∨ r14.1 = 1 := by rw [← e14]; exact z_Pro_move
      refine hX.1 145 I_Pro_perform_144 ok_Pro_perform_144 _ _ _ ?_
      exact And.intro z14 hK
    · have hK := ite_n hK h13
      refine s_Pro_combineGiven (bnd_g hK fun r15 e15 hK => ?_)
      have z15 : r15.1 = 0 ∨ r15.1 = 1 := by rw [← e15]; exact z_Pro_combineGiven
      refine hX.1 145 I_Pro_perform_144 ok_Pro_perform_144 _ _ _ ?_
      exact And.intro z15 hK
  have hK := ite_n hK h12
  refine And.intro (fun h16 => ?_) (fun h16 => ?_)
  · have hK := ite_p hK h16
    refine hX.1 156 I_Pro_perform_145 ok_Pro_perform_145 _ _ _ ?_
    refine And.intro (fun h17 => ?_) (fun h17 => ?_)
    · have hK := ite_p hK h17
      refine hX.1 158 I_Pro_perform_157 ok_Pro_perform_157 _ _ _ ?_
      exact And.intro (Or.inr rfl) hK
    · have hK := ite_n hK h17
      refine hX.1 157 I_Pro_perform_156 ok_Pro_perform_156 _ _ _ ?_
      refine hX.1 158 I_Pro_perform_157 ok_Pro_perform_157 _ _ _ ?_
      exact And.intro (Or.inl rfl) hK
  have hK := ite_n hK h16
  refine And.intro (fun h18 => ?_) (fun h18 => ?_)
  · have hK := ite_p hK h18
    refine hX.1 164 I_Pro_perform_158 ok_Pro_perform_158 _ _ _ ?_
    refine s_Pro_string (bnd_g hK fun r19 e19 hK => ?_)
    have z19 : r19.1 = 0 ∨ r19.1 = 1 := by rw [← e19]; exact z_Pro_string
    exact And.intro z19 hK
  have hK := ite_n hK h18
  refine And.intro (fun h20 => ?_) (fun h20 => ?_)
  · have hK := ite_p hK h20
    refine hX.1 170 I_Pro_perform_164 ok_Pro_perform_164 _ _ _ ?_
    refine s_Pro_moveGiven (bnd_g hK fun r21 e21 hK => ?_)
    have z21 : r21.1 = 0 ∨ r21.1 = 1 := by rw [← e21]; exact z_Pro_moveGiven
    exact And.intro z21 hK
  have hK := ite_n hK h20
  refine And.intro (fun h22 => ?_) (fun h22 => ?_)
  · have hK := ite_p hK h22
    refine hX.1 176 I_Pro_perform_170 ok_Pro_perform_170 _ _ _ ?_
    refine s_Pro_leave (bnd_g hK fun r23 e23 hK => ?_)
    have z23 : r23.1 = 0 ∨ r23.1 = 1 := by rw [← e23]; exact z_Pro_leave
    exact And.intro z23 hK
  have hK := ite_n hK h22
  refine And.intro (fun h24 => ?_) (fun h24 => ?_)
  · have hK := ite_p hK h24
    refine hX.1 229 I_Pro_perform_227 ok_Pro_perform_227 _ _ _ ?_
    exact And.intro (Or.inl rfl) hK
  have hK := ite_n hK h24
  refine And.intro (fun h25 => ?_) (fun h25 => ?_)
  · have hK := ite_p hK h25
    refine hX.1 182 I_Pro_perform_176 ok_Pro_perform_176 _ _ _ ?_
    refine s_Pro_jumpOrPort (bnd_g hK fun r26 e26 hK => ?_)
    have z26 : r26.1 = 0 ∨ r26.1 = 1 := by rw [← e26]; exact z_Pro_jumpOrPort
    exact And.intro z26 hK
  have hK := ite_n hK h25
  refine And.intro (fun h27 => ?_) (fun h27 => ?_)
  · have hK := ite_p hK h27
    refine hX.1 201 I_Pro_perform_182 ok_Pro_perform_182 _ _ _ ?_
    refine And.intro (fun h28 => ?_) (fun h28 => ?_)
    · have hK := ite_p hK h28
      refine hX.1 221 I_Pro_perform_206 ok_Pro_perform_206 _ _ _ ?_
      refine And.intro (fun h29 => ?_) (fun h29 => ?_)
      · have hK := ite_p hK h29
        refine hX.1 226 I_Pro_perform_221 ok_Pro_perform_221 _ _ _ ?_
        refine s_Pro_setFlag (bnd_g hK fun r30 e30 hK => ?_)
        have z30 : r30.1 = 0 ∨ r30.1 = 1 := by rw [← e30]; exact z_Pro_setFlag
        refine hX.1 227 I_Pro_perform_226 ok_Pro_perform_226 _ _ _ ?_
        exact And.intro z30 hK
      · have hK := ite_n hK h29
        refine s_Pro_haltOrUnary (bnd_g hK fun r31 e31 hK => ?_)
        have z31 : r31.1 = 0 ∨ r31.1 = 1 := by rw [← e31]; exact z_Pro_haltOrUnary
        refine hX.1 227 I_Pro_perform_226 ok_Pro_perform_226 _ _ _ ?_
        exact And.intro z31 hK
    · have hK := ite_n hK h28
      refine And.intro (fun h32 => ?_) (fun h32 => ?_)
      · have hK := ite_p hK h32
        refine hX.fg [0, 1] ?_
        exact b_Pro_perform_202 hX (Or.inr rfl) hK
      · have hK := ite_n hK h32
        refine hX.1 202 I_Pro_perform_201 ok_Pro_perform_201 _ _ _ ?_
        refine hX.fg [0, 1] ?_
        exact b_Pro_perform_202 hX (Or.inl rfl) hK
  have hK := ite_n hK h27
  refine hX.1 229 I_Pro_perform_227 ok_Pro_perform_227 _ _ _ ?_
  exact And.intro (Or.inl rfl) hK
def I_Pro_advance_0 : List IT := [(0, .aload_n 0, 1, 0, 0, []), (1, .getfield 17, 3, 0, 0, []), (4, .sipush 512, 3, 512, 0, []), (7, .invokevirtual 40, 3, 0, 0, []), (10, .ifCond .eq 20, 3, 0, 30, []), (13, .aload_n 0, 1, 0, 0, []), (14, .getfield 44, 3, 0, 0, []), (17, .ifCond .ne 13, 3, 0, 30, []), (20, .aload_n 0, 1, 0, 0, []), (21, .getfield 21, 3, 0, 0, []), (24, .invokevirtual 48, 3, 0, 0, []), (27, .goto 4, 3, 0, 31, [])]
theorem ok_Pro_advance_0 : blkOK b_Pro_advance pt_Pro 30 I_Pro_advance_0 = true := by decide +kernel
def I_Pro_advance_30 : List IT := [(30, .iconst (-1), 1, (-1), 0, [])]
theorem ok_Pro_advance_30 : blkOK b_Pro_advance pt_Pro 31 I_Pro_advance_30 = true := by decide +kernel
def I_Pro_advance_31 : List IT := [(31, .istore_n 1, 1, 0, 0, []), (32, .aload_n 0, 1, 0, 0, []), (33, .iconst 0, 1, 0, 0, []), (34, .putfield 44, 3, 0, 0, []), (37, .iload_n 1, 1, 0, 0, []), (38, .ifCond .lt 27, 3, 0, 65, []), (41, .aload_n 0, 1, 0, 0, []), (42, .getfield 21, 3, 0, 0, []), (45, .iload_n 1, 1, 0, 0, []), (46, .invokevirtual 54, 3, 0, 0, []), (49, .aload_n 0, 1, 0, 0, []), (50, .iconst 0, 1, 0, 0, []), (51, .putfield 58, 3, 0, 0, []), (54, .aload_n 0, 1, 0, 0, []), (55, .bipush 8, 2, 8, 0, []), (57, .iload_n 1, 1, 0, 0, []), (58, .iadd, 1, 0, 0, []), (59, .invokevirtual 61, 3, 0, 0, []), (62, .goto 54, 3, 0, 116, [])]
theorem ok_Pro_advance_31 : blkOK b_Pro_advance pt_Pro 65 I_Pro_advance_31 = true := by decide +kernel
def I_Pro_advance_65 : List IT := [(65, .aload_n 0, 1, 0, 0, []), (66, .getfield 58, 3, 0, 0, []), (69, .ifCond .ne 47, 3, 0, 116, []), (72, .aload_n 0, 1, 0, 0, []), (73, .getfield 34, 3, 0, 0, []), (76, .invokevirtual 64, 3, 0, 0, []), (79, .ifCond .eq 17, 3, 0, 96, []), (82, .aload_n 0, 1, 0, 0, []), (83, .aload_n 0, 1, 0, 0, []), (84, .getfield 34, 3, 0, 0, []), (87, .getfield 68, 3, 0, 0, []), (90, .invokevirtual 72, 3, 0, 0, []), (93, .ifCond .ne 23, 3, 0, 116, [])]
theorem ok_Pro_advance_65 : blkOK b_Pro_advance pt_Pro 96 I_Pro_advance_65 = true := by decide +kernel
def I_Pro_advance_96 : List IT := [(96, .aload_n 0, 1, 0, 0, []), (97, .getfield 13, 3, 0, 0, []), (100, .aload_n 0, 1, 0, 0, []), (101, .getfield 34, 3, 0, 0, []), (104, .getfield 75, 3, 0, 0, []), (107, .putfield 78, 3, 0, 0, []), (110, .aload_n 0, 1, 0, 0, []), (111, .bipush 6, 2, 6, 0, []), (113, .invokevirtual 61, 3, 0, 0, [])]
theorem ok_Pro_advance_96 : blkOK b_Pro_advance pt_Pro 116 I_Pro_advance_96 = true := by decide +kernel
def I_Pro_advance_116 : List IT := [(116, .return_, 1, 0, 0, [])]
theorem ok_Pro_advance_116 : blkOK b_Pro_advance pt_Pro 117 I_Pro_advance_116 = true := by decide +kernel
def f_Pro_advance_96 (σ : Sg)  : Sg := (bnd (up2 σ 3 2 (σ 14 2)) fun s1 => bnd (f_Pro_interrupt s1 (6 : Int32)) fun r2 => r2)
set_option maxRecDepth 100000 in
set_option maxHeartbeats 4000000 in
theorem b_Pro_advance_96 {l : Launch} {ad : Nat → Nat} {D : va_G} {cI : ClassId} {K : Option Value → Sg → Prop} {X : Nat → List Value → List Value → Sg → Prop} (hX : Cl l ad D cI mi_Pro_advance pt_Pro K X) {σ : Sg}    (hK : KV K (f_Pro_advance_96 σ )) : X 96 [.ref 12, .null] [] σ := by
  unfold f_Pro_advance_96 at hK
  refine hX.1 116 I_Pro_advance_96 ok_Pro_advance_96 _ _ _ ?_
  refine And.intro trivial (SG_g hK fun s1 e1 hK => ?_)
  refine s_Pro_interrupt (bnd_g hK fun r2 e2 hK => ?_)
  refine hX.1 117 I_Pro_advance_116 ok_Pro_advance_116 _ _ _ ?_
  exact hK
def f_Pro_advance_31 (σ : Sg) (y0 : Int32) : Sg := (bnd (up2 σ 12 8 (0 : Int32)) fun s1 => (if y0 < (0 : Int32) then (if (s1 12 6) = (0 : Int32) then (bnd (f_Dec_begin s1) fun r4 => (if r4.1 = (0 : Int32) then (f_Pro_advance_96 r4.2) else (bnd (f_Pro_perform r4.2 (r4.2 14 3)) fun r6 => (if r6.1 = (0 : Int32) then (f_Pro_advance_96 r6.2) else r6.2)))) else s1) else (bnd (f_Ctl_give s1 y0) fun r8 => bnd (up2 r8 12 6 (0 : Int32)) fun s9 => bnd (f_Pro_interrupt s9 ((8 : Int32) + y0)) fun r10 => r10)))
set_option maxRecDepth 100000 in
set_option maxHeartbeats 4000000 in
theorem b_Pro_advance_31 {l : Launch} {ad : Nat → Nat} {D : va_G} {cI : ClassId} {K : Option Value → Sg → Prop} {X : Nat → List Value → List Value → Sg → Prop} (hX : Cl l ad D cI mi_Pro_advance pt_Pro K X) {σ : Sg} {y0 : Int32}   (hK : KV K (f_Pro_advance_31 σ y0)) : X 31 [.ref 12, .null] [.int y0] σ := by
  unfold f_Pro_advance_31 at hK
  refine hX.1 65 I_Pro_advance_31 ok_Pro_advance_31 _ _ _ ?_
  refine And.intro (Or.inl rfl) (SG_g hK fun s1 e1 hK => ?_)
  refine And.intro (fun h2 => ?_) (fun h2 => ?_)
  · have hK := ite_p hK h2
    refine hX.1 96 I_Pro_advance_65 ok_Pro_advance_65 _ _ _ ?_
    refine And.intro (fun h3 => ?_) (fun h3 => ?_)
    · have hK := ite_p hK h3
      refine s_Dec_begin (bnd_g hK fun r4 e4 hK => ?_)
      have z4 : r4.1 = 0 ∨ r4.1 = 1 := by rw [← e4]; exact z_Dec_begin
      refine And.intro (fun h5 => ?_) (fun h5 => ?_)
      · have hK := ite_p hK h5
        refine hX.fg [1] ?_
        exact b_Pro_advance_96 hX  hK
      · have hK := ite_n hK h5
        refine s_Pro_perform (bnd_g hK fun r6 e6 hK => ?_)
        have z6 : r6.1 = 0 ∨ r6.1 = 1 := by rw [← e6]; exact z_Pro_perform
        refine And.intro (fun h7 => ?_) (fun h7 => ?_)
        · have hK := ite_p hK h7
          refine hX.fg [1] ?_
          exact b_Pro_advance_96 hX  hK
        · have hK := ite_n hK h7
          refine hX.1 117 I_Pro_advance_116 ok_Pro_advance_116 _ _ _ ?_
          exact hK
    · have hK := ite_n hK h3
      refine hX.1 117 I_Pro_advance_116 ok_Pro_advance_116 _ _ _ ?_
      exact hK
  · have hK := ite_n hK h2
    refine s_Ctl_give (bnd_g hK fun r8 e8 hK => ?_)
    refine And.intro (Or.inl rfl) (SG_g hK fun s9 e9 hK => ?_)
    refine s_Pro_interrupt (bnd_g hK fun r10 e10 hK => ?_)
    refine hX.1 117 I_Pro_advance_116 ok_Pro_advance_116 _ _ _ ?_
    exact hK
def f_Pro_advance_30 (σ : Sg)  : Sg := (f_Pro_advance_31 σ (-1 : Int32))
set_option maxRecDepth 100000 in
set_option maxHeartbeats 4000000 in
theorem b_Pro_advance_30 {l : Launch} {ad : Nat → Nat} {D : va_G} {cI : ClassId} {K : Option Value → Sg → Prop} {X : Nat → List Value → List Value → Sg → Prop} (hX : Cl l ad D cI mi_Pro_advance pt_Pro K X) {σ : Sg}    (hK : KV K (f_Pro_advance_30 σ )) : X 30 [.ref 12, .null] [] σ := by
  unfold f_Pro_advance_30 at hK
  refine hX.1 31 I_Pro_advance_30 ok_Pro_advance_30 _ _ _ ?_
  exact b_Pro_advance_31 hX  hK
def f_Pro_advance (σ : Sg)  : Sg := (bnd (f_Fla_on σ (512 : Int32)) fun r1 => (if r1.1 = (0 : Int32) then (f_Pro_advance_30 r1.2) else (if (r1.2 12 8) = (0 : Int32) then (bnd (f_Ctl_lineToGive r1.2) fun r4 => (f_Pro_advance_31 r4.2 r4.1)) else (f_Pro_advance_30 r1.2))))
set_option maxRecDepth 100000 in
set_option maxHeartbeats 4000000 in
theorem s_Pro_advance {l : Launch} {ad : Nat → Nat} {D : va_G} {cI : ClassId} {σ : Sg}  {K : Option Value → Sg → Prop}   (hK : KV K (f_Pro_advance σ )) : MetJ l ad D cI mi_Pro_advance [.ref 12] σ K := by
  refine met_of mi_Pro_advance pt_Pro pt_Pro_in rfl pl_Pro rfl (Nat.le_of_ble_eq_true rfl) fun X hX => ?_
  have hX : Cl l ad D cI mi_Pro_advance pt_Pro K X := hX
  show X 0 [.ref 12, .null] [] σ
  unfold f_Pro_advance at hK
  refine hX.1 30 I_Pro_advance_0 ok_Pro_advance_0 _ _ _ ?_
  refine s_Fla_on (bnd_g hK fun r1 e1 hK => ?_)
  have z1 : r1.1 = 0 ∨ r1.1 = 1 := by rw [← e1]; exact z_Fla_on
  refine And.intro (fun h2 => ?_) (fun h2 => ?_)
  · have hK := ite_p hK h2
    exact b_Pro_advance_30 hX  hK
  · have hK := ite_n hK h2
    refine And.intro (fun h3 => ?_) (fun h3 => ?_)
    · have hK := ite_p hK h3
      refine s_Ctl_lineToGive (bnd_g hK fun r4 e4 hK => ?_)
      exact b_Pro_advance_31 hX  hK
    · have hK := ite_n hK h3
      exact b_Pro_advance_30 hX  hK
