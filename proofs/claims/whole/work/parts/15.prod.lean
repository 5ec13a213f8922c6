def I_Pro_jumpOrPort_0 : List IT := [(0, .iload_n 1, 1, 0, 0, []), (1, .tableswitch 163 226 235 #[55, 163, 68, 163, 93, 163, 118, 131, 163, 147], 55, 0, 164, [(226, 56), (227, 164), (228, 69), (229, 164), (230, 94), (231, 164), (232, 119), (233, 132), (234, 164), (235, 148)])]
theorem ok_Pro_jumpOrPort_0 : blkOK b_Pro_jumpOrPort pt_Pro 56 I_Pro_jumpOrPort_0 = true := by decide +kernel
def I_Pro_jumpOrPort_56 : List IT := [(56, .aload_n 0, 1, 0, 0, []), (57, .aload_n 0, 1, 0, 0, []), (58, .getfield 34, 3, 0, 0, []), (61, .invokevirtual 152, 3, 0, 0, []), (64, .invokevirtual 219, 3, 0, 0, []), (67, .iconst 1, 1, 1, 0, []), (68, .ireturn, 1, 0, 0, [])]
theorem ok_Pro_jumpOrPort_56 : blkOK b_Pro_jumpOrPort pt_Pro 69 I_Pro_jumpOrPort_56 = true := by decide +kernel
def I_Pro_jumpOrPort_69 : List IT := [(69, .aload_n 0, 1, 0, 0, []), (70, .getfield 13, 3, 0, 0, []), (73, .iconst 0, 1, 0, 0, []), (74, .iconst 0, 1, 0, 0, []), (75, .aload_n 0, 1, 0, 0, []), (76, .getfield 25, 3, 0, 0, []), (79, .aload_n 0, 1, 0, 0, []), (80, .getfield 34, 3, 0, 0, []), (83, .invokevirtual 213, 3, 0, 0, []), (86, .invokevirtual 222, 3, 0, 0, []), (89, .invokevirtual 137, 3, 0, 0, []), (92, .iconst 1, 1, 1, 0, []), (93, .ireturn, 1, 0, 0, [])]
theorem ok_Pro_jumpOrPort_69 : blkOK b_Pro_jumpOrPort pt_Pro 94 I_Pro_jumpOrPort_69 = true := by decide +kernel
def I_Pro_jumpOrPort_94 : List IT := [(94, .aload_n 0, 1, 0, 0, []), (95, .getfield 25, 3, 0, 0, []), (98, .aload_n 0, 1, 0, 0, []), (99, .getfield 34, 3, 0, 0, []), (102, .invokevirtual 213, 3, 0, 0, []), (105, .aload_n 0, 1, 0, 0, []), (106, .getfield 13, 3, 0, 0, []), (109, .iconst 0, 1, 0, 0, []), (110, .iconst 0, 1, 0, 0, []), (111, .invokevirtual 130, 3, 0, 0, []), (114, .invokevirtual 227, 3, 0, 0, []), (117, .iconst 1, 1, 1, 0, []), (118, .ireturn, 1, 0, 0, [])]
theorem ok_Pro_jumpOrPort_94 : blkOK b_Pro_jumpOrPort pt_Pro 119 I_Pro_jumpOrPort_94 = true := by decide +kernel
def I_Pro_jumpOrPort_119 : List IT := [(119, .aload_n 0, 1, 0, 0, []), (120, .aload_n 0, 1, 0, 0, []), (121, .getfield 34, 3, 0, 0, []), (124, .invokevirtual 231, 3, 0, 0, []), (127, .invokevirtual 234, 3, 0, 0, []), (130, .iconst 1, 1, 1, 0, []), (131, .ireturn, 1, 0, 0, [])]
theorem ok_Pro_jumpOrPort_119 : blkOK b_Pro_jumpOrPort pt_Pro 132 I_Pro_jumpOrPort_119 = true := by decide +kernel
def I_Pro_jumpOrPort_132 : List IT := [(132, .aload_n 0, 1, 0, 0, []), (133, .getfield 13, 3, 0, 0, []), (136, .aload_n 0, 1, 0, 0, []), (137, .getfield 34, 3, 0, 0, []), (140, .invokevirtual 231, 3, 0, 0, []), (143, .invokevirtual 178, 3, 0, 0, []), (146, .iconst 1, 1, 1, 0, []), (147, .ireturn, 1, 0, 0, [])]
theorem ok_Pro_jumpOrPort_132 : blkOK b_Pro_jumpOrPort pt_Pro 148 I_Pro_jumpOrPort_132 = true := by decide +kernel
def I_Pro_jumpOrPort_148 : List IT := [(148, .aload_n 0, 1, 0, 0, []), (149, .getfield 13, 3, 0, 0, []), (152, .aload_n 0, 1, 0, 0, []), (153, .getfield 34, 3, 0, 0, []), (156, .invokevirtual 152, 3, 0, 0, []), (159, .invokevirtual 178, 3, 0, 0, []), (162, .iconst 1, 1, 1, 0, []), (163, .ireturn, 1, 0, 0, [])]
theorem ok_Pro_jumpOrPort_148 : blkOK b_Pro_jumpOrPort pt_Pro 164 I_Pro_jumpOrPort_148 = true := by decide +kernel
def I_Pro_jumpOrPort_164 : List IT := [(164, .iconst 0, 1, 0, 0, []), (165, .ireturn, 1, 0, 0, [])]
theorem ok_Pro_jumpOrPort_164 : blkOK b_Pro_jumpOrPort pt_Pro 166 I_Pro_jumpOrPort_164 = true := by decide +kernel
def f_Pro_jumpOrPort (σ : Sg) (a1 : Int32) : Int32 × Sg := (if a1 = (226 : Int32) then (bnd (f_Dec_nextSigned σ) fun r2 => bnd (f_Pro_loop r2.2 r2.1) fun r3 => ((1 : Int32), r3)) else (if a1 = (227 : Int32) then ((0 : Int32), σ) else (if a1 = (228 : Int32) then (bnd (f_Dec_nextByte σ) fun r6 => bnd (f_Por_answer r6.2 r6.1) fun r7 => bnd (f_Reg_change r7.2 (0 : Int32) (0 : Int32) r7.1) fun r8 => ((1 : Int32), r8)) else (if a1 = (229 : Int32) then ((0 : Int32), σ) else (if a1 = (230 : Int32) then (bnd (f_Dec_nextByte σ) fun r11 => bnd (f_Reg_value r11.2 (0 : Int32) (0 : Int32)) fun r12 => bnd (f_Por_get r12.2 r11.1 r12.1) fun r13 => ((1 : Int32), r13)) else (if a1 = (231 : Int32) then ((0 : Int32), σ) else (if a1 = (232 : Int32) then (bnd (f_Dec_nextWord σ) fun r16 => bnd (f_Pro_visit r16.2 r16.1) fun r17 => ((1 : Int32), r17)) else (if a1 = (233 : Int32) then (bnd (f_Dec_nextWord σ) fun r19 => bnd (f_Reg_jump r19.2 r19.1) fun r20 => ((1 : Int32), r20)) else (if a1 = (234 : Int32) then ((0 : Int32), σ) else (if a1 = (235 : Int32) then (bnd (f_Dec_nextSigned σ) fun r23 => bnd (f_Reg_jump r23.2 r23.1) fun r24 => ((1 : Int32), r24)) else ((0 : Int32), σ)))))))))))
theorem z_Pro_jumpOrPort {σ : Sg} {a1 : Int32}   : (f_Pro_jumpOrPort σ a1).1 = 0 ∨ (f_Pro_jumpOrPort σ a1).1 = 1 := by
  show Zb (f_Pro_jumpOrPort σ a1)
  unfold f_Pro_jumpOrPort
  refine ite_z (fun h1 => ?_) (fun h1 => ?_)
  · refine bnd_z fun r2 e2 => ?_
    refine bnd_z fun r3 e3 => ?_
    exact (Or.inr rfl)
  refine ite_z (fun h4 => ?_) (fun h4 => ?_)
  · exact (Or.inl rfl)
  refine ite_z (fun h5 => ?_) (fun h5 => ?_)
  · refine bnd_z fun r6 e6 => ?_
    refine bnd_z fun r7 e7 => ?_
    refine bnd_z fun r8 e8 => ?_
    exact (Or.inr rfl)
  refine ite_z (fun h9 => ?_) (fun h9 => ?_)
  · exact (Or.inl rfl)
  refine ite_z (fun h10 => ?_) (fun h10 => ?_)
  · refine bnd_z fun r11 e11 => ?_
    refine bnd_z fun r12 e12 => ?_
    refine bnd_z fun r13 e13 => ?_
    exact (Or.inr rfl)
  refine ite_z (fun h14 => ?_) (fun h14 => ?_)
  · exact (Or.inl rfl)
  refine ite_z (fun h15 => ?_) (fun h15 => ?_)
  · refine bnd_z fun r16 e16 => ?_
    refine bnd_z fun r17 e17 => ?_
    exact (Or.inr rfl)
  refine ite_z (fun h18 => ?_) (fun h18 => ?_)
  · refine bnd_z fun r19 e19 => ?_
    refine bnd_z fun r20 e20 => ?_
    exact (Or.inr rfl)
  refine ite_z (fun h21 => ?_) (fun h21 => ?_)
  · exact (Or.inl rfl)
  refine ite_z (fun h22 => ?_) (fun h22 => ?_)
  · refine bnd_z fun r23 e23 => ?_
    refine bnd_z fun r24 e24 => ?_
    exact (Or.inr rfl)
  exact (Or.inl rfl)
abbrev w_Pro_jumpOrPort : List (Nat × Option Nat) := [(2, none), (3, some 2), (4, none), (7, some 0), (7, some 1), (7, some 2), (7, some 3), (8, some 1), (8, some 2), (8, some 3), (8, some 4), (8, some 5), (8, some 6), (9, some 2), (10, none), (11, some 2), (11, some 3), (11, some 4), (11, some 5), (11, some 6), (11, some 7)]
theorem p_Pro_jumpOrPort {P : Sg → Prop} (hP : WP w_Pro_jumpOrPort P) {σ : Sg} {a1 : Int32} (h : P σ) : PP P (f_Pro_jumpOrPort σ a1) := by
  unfold f_Pro_jumpOrPort
  refine ite_z (fun _ => ?_) (fun _ => ?_)
  · refine bnd_zz (Z := PP P) (p_Dec_nextSigned (wsub hP rfl) h) fun r2 e2 q2 => ?_
    refine bnd_zz (Z := P) (p_Pro_loop (wsub hP rfl) q2) fun r3 e3 q3 => ?_
    exact q3
  refine ite_z (fun _ => ?_) (fun _ => ?_)
  · exact h
  refine ite_z (fun _ => ?_) (fun _ => ?_)
  · refine bnd_zz (Z := PP P) (p_Dec_nextByte (wsub hP rfl) h) fun r6 e6 q6 => ?_
    refine bnd_zz (Z := PP P) (p_Por_answer (wsub hP rfl) q6) fun r7 e7 q7 => ?_
    refine bnd_zz (Z := P) (p_Reg_change (wsub hP rfl) q7) fun r8 e8 q8 => ?_
    exact q8
  refine ite_z (fun _ => ?_) (fun _ => ?_)
  · exact h
  refine ite_z (fun _ => ?_) (fun _ => ?_)
  · refine bnd_zz (Z := PP P) (p_Dec_nextByte (wsub hP rfl) h) fun r11 e11 q11 => ?_
    refine bnd_zz (Z := PP P) (p_Reg_value (wsub hP rfl) q11) fun r12 e12 q12 => ?_
    refine bnd_zz (Z := P) (p_Por_get (wsub hP rfl) q12) fun r13 e13 q13 => ?_
    exact q13
  refine ite_z (fun _ => ?_) (fun _ => ?_)
  · exact h
  refine ite_z (fun _ => ?_) (fun _ => ?_)
  · refine bnd_zz (Z := PP P) (p_Dec_nextWord (wsub hP rfl) h) fun r16 e16 q16 => ?_
    refine bnd_zz (Z := P) (p_Pro_visit (wsub hP rfl) q16) fun r17 e17 q17 => ?_
    exact q17
  refine ite_z (fun _ => ?_) (fun _ => ?_)
  · refine bnd_zz (Z := PP P) (p_Dec_nextWord (wsub hP rfl) h) fun r19 e19 q19 => ?_
    refine bnd_zz (Z := P) (p_Reg_jump (wsub hP rfl) q19) fun r20 e20 q20 => ?_
    exact q20
  refine ite_z (fun _ => ?_) (fun _ => ?_)
  · exact h
  refine ite_z (fun _ => ?_) (fun _ => ?_)
  · refine bnd_zz (Z := PP P) (p_Dec_nextSigned (wsub hP rfl) h) fun r23 e23 q23 => ?_
    refine bnd_zz (Z := P) (p_Reg_jump (wsub hP rfl) q23) fun r24 e24 q24 => ?_
    exact q24
  exact h
set_option maxRecDepth 100000 in
set_option maxHeartbeats 4000000 in
theorem s_Pro_jumpOrPort {l : Launch} {ad : Nat → Nat} {D : va_G} {cI : ClassId} {σ : Sg} {a1 : Int32} {K : Option Value → Sg → Prop}   (hK : KI K (f_Pro_jumpOrPort σ a1)) : MetJ l ad D cI mi_Pro_jumpOrPort [.ref 12, .int a1] σ K := by
  refine met_of mi_Pro_jumpOrPort pt_Pro pt_Pro_in rfl pl_Pro rfl (Nat.le_of_ble_eq_true rfl) fun X hX => ?_
  have hX : Cl l ad D cI mi_Pro_jumpOrPort pt_Pro K X := hX
  show X 0 [.ref 12, .int a1] [] σ
  unfold f_Pro_jumpOrPort at hK
  refine hX.1 56 I_Pro_jumpOrPort_0 ok_Pro_jumpOrPort_0 _ _ _ ?_
  refine And.intro (fun h1 => ?_) (fun h1 => ?_)
  · have hK := ite_p hK h1
    refine hX.1 69 I_Pro_jumpOrPort_56 ok_Pro_jumpOrPort_56 _ _ _ ?_
    refine s_Dec_nextSigned (bnd_g hK fun r2 e2 hK => ?_)
    refine s_Pro_loop (bnd_g hK fun r3 e3 hK => ?_)
    exact And.intro (Or.inr rfl) hK
  have hK := ite_n hK h1
  refine And.intro (fun h4 => ?_) (fun h4 => ?_)
  · have hK := ite_p hK h4
    refine hX.1 166 I_Pro_jumpOrPort_164 ok_Pro_jumpOrPort_164 _ _ _ ?_
    exact And.intro (Or.inl rfl) hK
  have hK := ite_n hK h4
  refine And.intro (fun h5 => ?_) (fun h5 => ?_)
  · have hK := ite_p hK h5
    refine hX.1 94 I_Pro_jumpOrPort_69 ok_Pro_jumpOrPort_69 _ _ _ ?_
    refine s_Dec_nextByte (bnd_g hK fun r6 e6 hK => ?_)
    refine s_Por_answer (bnd_g hK fun r7 e7 hK => ?_)
    refine s_Reg_change (bnd_g hK fun r8 e8 hK => ?_)
    exact And.intro (Or.inr rfl) hK
  have hK := ite_n hK h5
  refine And.intro (fun h9 => ?_) (fun h9 => ?_)
  · have hK := ite_p hK h9
    refine hX.1 166 I_Pro_jumpOrPort_164 ok_Pro_jumpOrPort_164 _ _ _ ?_
    exact And.intro (Or.inl rfl) hK
  have hK := ite_n hK h9
  refine And.intro (fun h10 => ?_) (fun h10 => ?_)
  · have hK := ite_p hK h10
    refine hX.1 119 I_Pro_jumpOrPort_94 ok_Pro_jumpOrPort_94 _ _ _ ?_
    refine s_Dec_nextByte (bnd_g hK fun r11 e11 hK => ?_)
    refine s_Reg_value (bnd_g hK fun r12 e12 hK => ?_)
    refine s_Por_get (bnd_g hK fun r13 e13 hK => ?_)
    exact And.intro (Or.inr rfl) hK
  have hK := ite_n hK h10
  refine And.intro (fun h14 => ?_) (fun h14 => ?_)
  · have hK := ite_p hK h14
    refine hX.1 166 I_Pro_jumpOrPort_164 ok_Pro_jumpOrPort_164 _ _ _ ?_
    exact And.intro (Or.inl rfl) hK
  have hK := ite_n hK h14
  refine And.intro (fun h15 => ?_) (fun h15 => ?_)
  · have hK := ite_p hK h15
    refine hX.1 132 I_Pro_jumpOrPort_119 ok_Pro_jumpOrPort_119 _ _ _ ?_
    refine s_Dec_nextWord (bnd_g hK fun r16 e16 hK => ?_)
    refine s_Pro_visit (bnd_g hK fun r17 e17 hK => ?_)
    exact And.intro (Or.inr rfl) hK
  have hK := ite_n hK h15
  refine And.intro (fun h18 => ?_) (fun h18 => ?_)
  · have hK := ite_p hK h18
    refine hX.1 148 I_Pro_jumpOrPort_132 ok_Pro_jumpOrPort_132 _ _ _ ?_
    refine s_Dec_nextWord (bnd_g hK fun r19 e19 hK => ?_)
    refine s_Reg_jump (bnd_g hK fun r20 e20 hK => ?_)
    exact And.intro (Or.inr rfl) hK
  have hK := ite_n hK h18
  refine And.intro (fun h21 => ?_) (fun h21 => ?_)
  · have hK := ite_p hK h21
    refine hX.1 166 I_Pro_jumpOrPort_164 ok_Pro_jumpOrPort_164 _ _ _ ?_
    exact And.intro (Or.inl rfl) hK
  have hK := ite_n hK h21
  refine And.intro (fun h22 => ?_) (fun h22 => ?_)
  · have hK := ite_p hK h22
    refine hX.1 164 I_Pro_jumpOrPort_148 ok_Pro_jumpOrPort_148 _ _ _ ?_
    refine s_Dec_nextSigned (bnd_g hK fun r23 e23 hK => ?_)
    refine s_Reg_jump (bnd_g hK fun r24 e24 hK => ?_)
    exact And.intro (Or.inr rfl) hK
  have hK := ite_n hK h22
  refine hX.1 166 I_Pro_jumpOrPort_164 ok_Pro_jumpOrPort_164 _ _ _ ?_
  exact And.intro (Or.inl rfl) hK
def I_Pro_countOperand_0 : List IT := [(0, .aload_n 0, 1, 0, 0, []), (1, .getfield 34, 3, 0, 0, []), (4, .iload_n 1, 1, 0, 0, []), (5, .invokevirtual 141, 3, 0, 0, []), (8, .aload_n 0, 1, 0, 0, []), (9, .getfield 34, 3, 0, 0, []), (12, .invokevirtual 145, 3, 0, 0, []), (15, .istore_n 2, 1, 0, 0, []), (16, .aload_n 0, 1, 0, 0, []), (17, .getfield 34, 3, 0, 0, []), (20, .getfield 147, 3, 0, 0, []), (23, .iconst 1, 1, 1, 0, []), (24, .if_icmp .le 5, 3, 0, 29, []), (27, .iconst 0, 1, 0, 0, []), (28, .ireturn, 1, 0, 0, [])]
theorem ok_Pro_countOperand_0 : blkOK b_Pro_countOperand pt_Pro 29 I_Pro_countOperand_0 = true := by decide +kernel
def I_Pro_countOperand_29 : List IT := [(29, .aload_n 0, 1, 0, 0, []), (30, .getfield 34, 3, 0, 0, []), (33, .aload_n 0, 1, 0, 0, []), (34, .getfield 34, 3, 0, 0, []), (37, .getfield 147, 3, 0, 0, []), (40, .ifCond .ne 15, 3, 0, 55, []), (43, .aload_n 0, 1, 0, 0, []), (44, .getfield 17, 3, 0, 0, []), (47, .iload_n 2, 1, 0, 0, []), (48, .iload_n 1, 1, 0, 0, []), (49, .invokevirtual 169, 3, 0, 0, []), (52, .goto 12, 3, 0, 64, [])]
theorem ok_Pro_countOperand_29 : blkOK b_Pro_countOperand pt_Pro 55 I_Pro_countOperand_29 = true := by decide +kernel
def I_Pro_countOperand_55 : List IT := [(55, .aload_n 0, 1, 0, 0, []), (56, .getfield 17, 3, 0, 0, []), (59, .iload_n 2, 1, 0, 0, []), (60, .iload_n 1, 1, 0, 0, []), (61, .invokevirtual 172, 3, 0, 0, [])]
theorem ok_Pro_countOperand_55 : blkOK b_Pro_countOperand pt_Pro 64 I_Pro_countOperand_55 = true := by decide +kernel
def I_Pro_countOperand_64 : List IT := [(64, .invokevirtual 150, 3, 0, 0, []), (67, .iconst 1, 1, 1, 0, []), (68, .ireturn, 1, 0, 0, [])]
theorem ok_Pro_countOperand_64 : blkOK b_Pro_countOperand pt_Pro 69 I_Pro_countOperand_64 = true := by decide +kernel
def f_Pro_countOperand_64 (σ : Sg) (y0 : Int32) : Int32 × Sg := (bnd (f_Dec_change σ y0) fun r1 => ((1 : Int32), r1))
theorem z_Pro_countOperand_64 {σ : Sg} {y0 : Int32}   : (f_Pro_countOperand_64 σ y0).1 = 0 ∨ (f_Pro_countOperand_64 σ y0).1 = 1 := by
  show Zb (f_Pro_countOperand_64 σ y0)
  unfold f_Pro_countOperand_64
  refine bnd_z fun r1 e1 => ?_
  exact (Or.inr rfl)
abbrev w_Pro_countOperand_64 : List (Nat × Option Nat) := [(2, none), (4, none)]
theorem p_Pro_countOperand_64 {P : Sg → Prop} (hP : WP w_Pro_countOperand_64 P) {σ : Sg} {y0 : Int32} (h : P σ) : PP P (f_Pro_countOperand_64 σ y0) := by
  unfold f_Pro_countOperand_64
  refine bnd_zz (Z := P) (p_Dec_change (wsub hP rfl) h) fun r1 e1 q1 => ?_
  exact q1
set_option maxRecDepth 100000 in
set_option maxHeartbeats 4000000 in
theorem b_Pro_countOperand_64 {l : Launch} {ad : Nat → Nat} {D : va_G} {cI : ClassId} {K : Option Value → Sg → Prop} {X : Nat → List Value → List Value → Sg → Prop} (hX : Cl l ad D cI mi_Pro_countOperand pt_Pro K X) {σ : Sg} {y0 : Int32}   (hK : KI K (f_Pro_countOperand_64 σ y0)) : X 64 [.null, .null, .null] [.int y0, .ref 14] σ := by
  unfold f_Pro_countOperand_64 at hK
  refine hX.1 69 I_Pro_countOperand_64 ok_Pro_countOperand_64 _ _ _ ?_
  refine s_Dec_change (bnd_g hK fun r1 e1 hK => ?_)
  exact And.intro (Or.inr rfl) hK
def f_Pro_countOperand (σ : Sg) (a1 : Int32) : Int32 × Sg := (bnd (f_Dec_readModrm σ a1) fun r1 => bnd (f_Dec_value r1) fun r2 => (if (r2.2 14 5) ≤ (1 : Int32) then (if (r2.2 14 5) = (0 : Int32) then (bnd (f_Fla_oneMore r2.2 r2.1 a1) fun r5 => (f_Pro_countOperand_64 r5.2 r5.1)) else (bnd (f_Fla_oneLess r2.2 r2.1 a1) fun r6 => (f_Pro_countOperand_64 r6.2 r6.1))) else ((0 : Int32), r2.2)))
theorem z_Pro_countOperand {σ : Sg} {a1 : Int32} (z_a1 : a1 = 0 ∨ a1 = 1)  : (f_Pro_countOperand σ a1).1 = 0 ∨ (f_Pro_countOperand σ a1).1 = 1 := by
  show Zb (f_Pro_countOperand σ a1)
  unfold f_Pro_countOperand
  refine bnd_z fun r1 e1 => ?_
  refine bnd_z fun r2 e2 => ?_
  refine ite_z (fun h3 => ?_) (fun h3 => ?_)
  · refine ite_z (fun h4 => ?_) (fun h4 => ?_)
    · refine bnd_z fun r5 e5 => ?_
      exact z_Pro_countOperand_64  
    · refine bnd_z fun r6 e6 => ?_
      exact z_Pro_countOperand_64  
  · exact (Or.inl rfl)
abbrev w_Pro_countOperand : List (Nat × Option Nat) := [(2, none), (3, some 2), (4, none), (6, some 0), (14, some 5), (14, some 6), (14, some 7), (14, some 9), (14, some 10), (14, some 11)]
theorem p_Pro_countOperand {P : Sg → Prop} (hP : WP w_Pro_countOperand P) {σ : Sg} {a1 : Int32} (h : P σ) : PP P (f_Pro_countOperand σ a1) := by
  unfold f_Pro_countOperand
  refine bnd_zz (Z := P) (p_Dec_readModrm (wsub hP rfl) h) fun r1 e1 q1 => ?_
  refine bnd_zz (Z := PP P) (p_Dec_value (wsub hP rfl) q1) fun r2 e2 q2 => ?_
  refine ite_z (fun _ => ?_) (fun _ => ?_)
  · refine ite_z (fun _ => ?_) (fun _ => ?_)
    · refine bnd_zz (Z := PP P) (p_Fla_oneMore (wsub hP rfl) q2) fun r5 e5 q5 => ?_
      exact p_Pro_countOperand_64 (wsub hP rfl) q5
    · refine bnd_zz (Z := PP P) (p_Fla_oneLess (wsub hP rfl) q2) fun r6 e6 q6 => ?_
      exact p_Pro_countOperand_64 (wsub hP rfl) q6
  · exact q2
set_option maxRecDepth 100000 in
set_option maxHeartbeats 4000000 in
theorem s_Pro_countOperand {l : Launch} {ad : Nat → Nat} {D : va_G} {cI : ClassId} {σ : Sg} {a1 : Int32} {K : Option Value → Sg → Prop} (z_a1 : a1 = 0 ∨ a1 = 1)  (hK : KI K (f_Pro_countOperand σ a1)) : MetJ l ad D cI mi_Pro_countOperand [.ref 12, .int a1] σ K := by
  refine met_of mi_Pro_countOperand pt_Pro pt_Pro_in rfl pl_Pro rfl (Nat.le_of_ble_eq_true rfl) fun X hX => ?_
  have hX : Cl l ad D cI mi_Pro_countOperand pt_Pro K X := hX
  show X 0 [.ref 12, .int a1, .null] [] σ
  unfold f_Pro_countOperand at hK
  refine hX.1 29 I_Pro_countOperand_0 ok_Pro_countOperand_0 _ _ _ ?_
  refine s_Dec_readModrm z_a1 (bnd_g hK fun r1 e1 hK => ?_)
  refine s_Dec_value (bnd_g hK fun r2 e2 hK => ?_)
  refine And.intro (fun h3 => ?_) (fun h3 => ?_)
  · have hK := ite_p hK h3
    refine hX.1 55 I_Pro_countOperand_29 ok_Pro_countOperand_29 _ _ _ ?_
    refine And.intro (fun h4 => ?_) (fun h4 => ?_)
    · have hK := ite_p hK h4
      refine s_Fla_oneMore (bnd_g hK fun r5 e5 hK => ?_)
      refine hX.fg [0, 1, 2] ?_
      exact b_Pro_countOperand_64 hX  hK
    · have hK := ite_n hK h4
      refine hX.1 64 I_Pro_countOperand_55 ok_Pro_countOperand_55 _ _ _ ?_
      refine s_Fla_oneLess (bnd_g hK fun r6 e6 hK => ?_)
      refine hX.fg [0, 1, 2] ?_
      exact b_Pro_countOperand_64 hX  hK
  · have hK := ite_n hK h3
    exact And.intro (Or.inl rfl) hK
def I_Pro_multiply_0 : List IT := [(0, .aload_n 0, 1, 0, 0, []), (1, .getfield 13, 3, 0, 0, []), (4, .iconst 0, 1, 0, 0, []), (5, .iload_n 2, 1, 0, 0, []), (6, .invokevirtual 130, 3, 0, 0, []), (9, .i2l, 1, 0, 0, []), (10, .iload_n 1, 1, 0, 0, []), (11, .i2l, 1, 0, 0, []), (12, .lmul, 1, 0, 0, []), (13, .lstore_n 3, 1, 0, 0, []), (14, .aload_n 0, 1, 0, 0, []), (15, .getfield 13, 3, 0, 0, []), (18, .getfield 166, 3, 0, 0, []), (21, .iconst 0, 1, 0, 0, []), (22, .lload_n 3, 1, 0, 0, []), (23, .ldc2_w 245, 3, 0, 0, []), (26, .land, 1, 0, 0, []), (27, .l2i, 1, 0, 0, []), (28, .iastore, 1, 0, 0, []), (29, .lload_n 3, 1, 0, 0, []), (30, .iload_n 2, 1, 0, 0, []), (31, .ifCond .eq 8, 3, 0, 39, []), (34, .bipush 16, 2, 16, 0, []), (36, .goto 5, 3, 0, 41, [])]
theorem ok_Pro_multiply_0 : blkOK b_Pro_multiply pt_Pro 39 I_Pro_multiply_0 = true := by decide +kernel
def I_Pro_multiply_39 : List IT := [(39, .bipush 8, 2, 8, 0, [])]
theorem ok_Pro_multiply_39 : blkOK b_Pro_multiply pt_Pro 41 I_Pro_multiply_39 = true := by decide +kernel
def I_Pro_multiply_41 : List IT := [(41, .lshr, 1, 0, 0, []), (42, .l2i, 1, 0, 0, []), (43, .istore 5, 2, 0, 0, []), (45, .iload_n 2, 1, 0, 0, []), (46, .ifCond .eq 14, 3, 0, 60, []), (49, .aload_n 0, 1, 0, 0, []), (50, .getfield 13, 3, 0, 0, []), (53, .getfield 166, 3, 0, 0, []), (56, .iconst 2, 1, 2, 0, []), (57, .iload 5, 2, 0, 0, []), (59, .iastore, 1, 0, 0, [])]
theorem ok_Pro_multiply_41 : blkOK b_Pro_multiply pt_Pro 60 I_Pro_multiply_41 = true := by decide +kernel
def I_Pro_multiply_60 : List IT := [(60, .aload_n 0, 1, 0, 0, []), (61, .getfield 17, 3, 0, 0, []), (64, .sipush 2049, 3, 2049, 0, []), (67, .iload 5, 2, 0, 0, []), (69, .ifCond .eq 7, 3, 0, 76, []), (72, .iconst 1, 1, 1, 0, []), (73, .goto 4, 3, 0, 77, [])]
theorem ok_Pro_multiply_60 : blkOK b_Pro_multiply pt_Pro 76 I_Pro_multiply_60 = true := by decide +kernel
def I_Pro_multiply_76 : List IT := [(76, .iconst 0, 1, 0, 0, [])]
theorem ok_Pro_multiply_76 : blkOK b_Pro_multiply pt_Pro 77 I_Pro_multiply_76 = true := by decide +kernel
def I_Pro_multiply_77 : List IT := [(77, .invokevirtual 247, 3, 0, 0, []), (80, .return_, 1, 0, 0, [])]
theorem ok_Pro_multiply_77 : blkOK b_Pro_multiply pt_Pro 81 I_Pro_multiply_77 = true := by decide +kernel
def f_Pro_multiply_77 (σ : Sg) (y0 : Int32) (y1 : Int32) : Sg := (bnd (f_Fla_set σ y1 y0) fun r1 => r1)
abbrev w_Pro_multiply_77 : List (Nat × Option Nat) := [(6, some 0)]
theorem p_Pro_multiply_77 {P : Sg → Prop} (hP : WP w_Pro_multiply_77 P) {σ : Sg} {y0 : Int32} {y1 : Int32} (h : P σ) : P (f_Pro_multiply_77 σ y0 y1) := by
  unfold f_Pro_multiply_77
  refine bnd_zz (Z := P) (p_Fla_set (wsub hP rfl) h) fun r1 e1 q1 => ?_
  exact q1
set_option maxRecDepth 100000 in
set_option maxHeartbeats 4000000 in
theorem b_Pro_multiply_77 {l : Launch} {ad : Nat → Nat} {D : va_G} {cI : ClassId} {K : Option Value → Sg → Prop} {X : Nat → List Value → List Value → Sg → Prop} (hX : Cl l ad D cI mi_Pro_multiply pt_Pro K X) {σ : Sg} {y0 : Int32} {y1 : Int32} (z_y0 : y0 = 0 ∨ y0 = 1)  (hK : KV K (f_Pro_multiply_77 σ y0 y1)) : X 77 [.null, .null, .null, .null, .null, .null] [.int y0, .int y1, .ref 6] σ := by
  unfold f_Pro_multiply_77 at hK
  refine hX.1 81 I_Pro_multiply_77 ok_Pro_multiply_77 _ _ _ ?_
  refine s_Fla_set (bnd_g hK fun r1 e1 hK => ?_)
  exact hK
def f_Pro_multiply_60 (σ : Sg) (x5 : Int32) : Sg := (if x5 = (0 : Int32) then (f_Pro_multiply_77 σ (0 : Int32) (2049 : Int32)) else (f_Pro_multiply_77 σ (1 : Int32) (2049 : Int32)))
abbrev w_Pro_multiply_60 : List (Nat × Option Nat) := [(6, some 0)]
theorem p_Pro_multiply_60 {P : Sg → Prop} (hP : WP w_Pro_multiply_60 P) {σ : Sg} {x5 : Int32} (h : P σ) : P (f_Pro_multiply_60 σ x5) := by
  unfold f_Pro_multiply_60
  refine ite_z (fun _ => ?_) (fun _ => ?_)
  · exact p_Pro_multiply_77 (wsub hP rfl) h
  · exact p_Pro_multiply_77 (wsub hP rfl) h
set_option maxRecDepth 100000 in
set_option maxHeartbeats 4000000 in
theorem b_Pro_multiply_60 {l : Launch} {ad : Nat → Nat} {D : va_G} {cI : ClassId} {K : Option Value → Sg → Prop} {X : Nat → List Value → List Value → Sg → Prop} (hX : Cl l ad D cI mi_Pro_multiply pt_Pro K X) {σ : Sg} {x5 : Int32}   (hK : KV K (f_Pro_multiply_60 σ x5)) : X 60 [.ref 12, .null, .null, .null, .null, .int x5] [] σ := by
  unfold f_Pro_multiply_60 at hK
  refine hX.1 76 I_Pro_multiply_60 ok_Pro_multiply_60 _ _ _ ?_
  refine And.intro (fun h1 => ?_) (fun h1 => ?_)
  · have hK := ite_p hK h1
    refine hX.1 77 I_Pro_multiply_76 ok_Pro_multiply_76 _ _ _ ?_
    refine hX.fg [0, 5] ?_
    exact b_Pro_multiply_77 hX (Or.inl rfl) hK
  · have hK := ite_n hK h1
    refine hX.fg [0, 5] ?_
    exact b_Pro_multiply_77 hX (Or.inr rfl) hK
def f_Pro_multiply_41 (σ : Sg) (x2 : Int32) (y0 : Int32) (y1 : Int64) : Sg := (if x2 = (0 : Int32) then (f_Pro_multiply_60 σ ((y1 >>> ((y0 : Int32).toInt64 &&& 63)) : Int64).toInt32) else (bnd (up2 σ 4 (Int32.toNatClampNeg (2 : Int32)) ((y1 >>> ((y0 : Int32).toInt64 &&& 63)) : Int64).toInt32) fun s2 => (f_Pro_multiply_60 s2 ((y1 >>> ((y0 : Int32).toInt64 &&& 63)) : Int64).toInt32)))
abbrev w_Pro_multiply_41 : List (Nat × Option Nat) := [(4, none), (6, some 0)]
theorem p_Pro_multiply_41 {P : Sg → Prop} (hP : WP w_Pro_multiply_41 P) {σ : Sg} {x2 : Int32} {y0 : Int32} {y1 : Int64} (h : P σ) : P (f_Pro_multiply_41 σ x2 y0 y1) := by
  unfold f_Pro_multiply_41
  refine ite_z (fun _ => ?_) (fun _ => ?_)
  · exact p_Pro_multiply_60 (wsub hP rfl) h
  · refine bnd_zz (Z := P) (hP _ _ _ _ (Or.inl (by decide)) h) fun s2 e2 q2 => ?_
    exact p_Pro_multiply_60 (wsub hP rfl) q2
set_option maxRecDepth 100000 in
set_option maxHeartbeats 4000000 in
theorem b_Pro_multiply_41 {l : Launch} {ad : Nat → Nat} {D : va_G} {cI : ClassId} {K : Option Value → Sg → Prop} {X : Nat → List Value → List Value → Sg → Prop} (hX : Cl l ad D cI mi_Pro_multiply pt_Pro K X) {σ : Sg} {x2 : Int32} {y0 : Int32} {y1 : Int64}   (hK : KV K (f_Pro_multiply_41 σ x2 y0 y1)) : X 41 [.ref 12, .null, .int x2, .null, .null, .null] [.int y0, .long y1] σ := by
  unfold f_Pro_multiply_41 at hK
  refine hX.1 60 I_Pro_multiply_41 ok_Pro_multiply_41 _ _ _ ?_
  refine And.intro (fun h1 => ?_) (fun h1 => ?_)
  · have hK := ite_p hK h1
    refine hX.fg [2] ?_
    exact b_Pro_multiply_60 hX  hK
  · have hK := ite_n hK h1
    refine And.intro (vin (by decide)) (SG_g hK fun s2 e2 hK => ?_)
    refine hX.fg [2] ?_
    exact b_Pro_multiply_60 hX  hK
def f_Pro_multiply (σ : Sg) (a1 : Int32) (a2 : Int32) : Sg := (bnd (f_Reg_value σ (0 : Int32) a2) fun r1 => bnd (up2 r1.2 4 (Int32.toNatClampNeg (0 : Int32)) ((((r1.1 : Int32).toInt64 * (a1 : Int32).toInt64) &&& 65535) : Int64).toInt32) fun s2 => (if a2 = (0 : Int32) then (f_Pro_multiply_41 s2 a2 (8 : Int32) ((r1.1 : Int32).toInt64 * (a1 : Int32).toInt64)) else (f_Pro_multiply_41 s2 a2 (16 : Int32) ((r1.1 : Int32).toInt64 * (a1 : Int32).toInt64))))
abbrev w_Pro_multiply : List (Nat × Option Nat) := [(4, none), (6, some 0)]
theorem p_Pro_multiply {P : Sg → Prop} (hP : WP w_Pro_multiply P) {σ : Sg} {a1 : Int32} {a2 : Int32} (h : P σ) : P (f_Pro_multiply σ a1 a2) := by
  unfold f_Pro_multiply
  refine bnd_zz (Z := PP P) (p_Reg_value (wsub hP rfl) h) fun r1 e1 q1 => ?_
  refine bnd_zz (Z := P) (hP _ _ _ _ (Or.inl (by decide)) q1) fun s2 e2 q2 => ?_
  refine ite_z (fun _ => ?_) (fun _ => ?_)
  · exact p_Pro_multiply_41 (wsub hP rfl) q2
  · exact p_Pro_multiply_41 (wsub hP rfl) q2
set_option maxRecDepth 100000 in
set_option maxHeartbeats 4000000 in
theorem s_Pro_multiply {l : Launch} {ad : Nat → Nat} {D : va_G} {cI : ClassId} {σ : Sg} {a1 : Int32} {a2 : Int32} {K : Option Value → Sg → Prop}   (hK : KV K (f_Pro_multiply σ a1 a2)) : MetJ l ad D cI mi_Pro_multiply [.ref 12, .int a1, .int a2] σ K := by
  refine met_of mi_Pro_multiply pt_Pro pt_Pro_in rfl pl_Pro rfl (Nat.le_of_ble_eq_true rfl) fun X hX => ?_
  have hX : Cl l ad D cI mi_Pro_multiply pt_Pro K X := hX
  show X 0 [.ref 12, .int a1, .int a2, .null, .null, .null] [] σ
  unfold f_Pro_multiply at hK
  refine hX.1 39 I_Pro_multiply_0 ok_Pro_multiply_0 _ _ _ ?_
  refine s_Reg_value (bnd_g hK fun r1 e1 hK => ?_)
  refine And.intro (vin (by decide)) (SG_g hK fun s2 e2 hK => ?_)
  refine And.intro (fun h3 => ?_) (fun h3 => ?_)
  · have hK := ite_p hK h3
    refine hX.1 41 I_Pro_multiply_39 ok_Pro_multiply_39 _ _ _ ?_
    refine hX.fg [1, 3] ?_
    exact b_Pro_multiply_41 hX  hK
  · have hK := ite_n hK h3
    refine hX.fg [1, 3] ?_
    exact b_Pro_multiply_41 hX  hK
def I_Pro_divide_0 : List IT := [(0, .iload_n 2, 1, 0, 0, []), (1, .ifCond .eq 9, 3, 0, 10, []), (4, .ldc2_w 245, 3, 0, 0, []), (7, .goto 6, 3, 0, 13, [])]
theorem ok_Pro_divide_0 : blkOK b_Pro_divide pt_Pro 10 I_Pro_divide_0 = true := by decide +kernel
def I_Pro_divide_10 : List IT := [(10, .ldc2_w 250, 3, 0, 0, [])]
theorem ok_Pro_divide_10 : blkOK b_Pro_divide pt_Pro 13 I_Pro_divide_10 = true := by decide +kernel
def I_Pro_divide_13 : List IT := [(13, .lstore_n 3, 1, 0, 0, []), (14, .aload_n 0, 1, 0, 0, []), (15, .getfield 13, 3, 0, 0, []), (18, .getfield 166, 3, 0, 0, []), (21, .iconst 0, 1, 0, 0, []), (22, .iaload, 1, 0, 0, []), (23, .i2l, 1, 0, 0, []), (24, .lstore 5, 2, 0, 0, []), (26, .iload_n 2, 1, 0, 0, []), (27, .ifCond .eq 21, 3, 0, 48, []), (30, .lload 5, 2, 0, 0, []), (32, .aload_n 0, 1, 0, 0, []), (33, .getfield 13, 3, 0, 0, []), (36, .getfield 166, 3, 0, 0, []), (39, .iconst 2, 1, 2, 0, []), (40, .iaload, 1, 0, 0, []), (41, .i2l, 1, 0, 0, []), (42, .bipush 16, 2, 16, 0, []), (44, .lshl, 1, 0, 0, []), (45, .lor, 1, 0, 0, []), (46, .lstore 5, 2, 0, 0, [])]
theorem ok_Pro_divide_13 : blkOK b_Pro_divide pt_Pro 48 I_Pro_divide_13 = true := by decide +kernel
def I_Pro_divide_48 : List IT := [(48, .iload_n 1, 1, 0, 0, []), (49, .ifCond .eq 13, 3, 0, 62, []), (52, .lload 5, 2, 0, 0, []), (54, .iload_n 1, 1, 0, 0, []), (55, .i2l, 1, 0, 0, []), (56, .ldiv, 1, 0, 0, []), (57, .lload_n 3, 1, 0, 0, []), (58, .lcmp, 1, 0, 0, []), (59, .ifCond .le 5, 3, 0, 64, [])]
theorem ok_Pro_divide_48 : blkOK b_Pro_divide pt_Pro 62 I_Pro_divide_48 = true := by decide +kernel
def I_Pro_divide_62 : List IT := [(62, .iconst 0, 1, 0, 0, []), (63, .ireturn, 1, 0, 0, [])]
theorem ok_Pro_divide_62 : blkOK b_Pro_divide pt_Pro 64 I_Pro_divide_62 = true := by decide +kernel
def I_Pro_divide_64 : List IT := [(64, .lload 5, 2, 0, 0, []), (66, .iload_n 1, 1, 0, 0, []), (67, .i2l, 1, 0, 0, []), (68, .ldiv, 1, 0, 0, []), (69, .l2i, 1, 0, 0, []), (70, .istore 7, 2, 0, 0, []), (72, .lload 5, 2, 0, 0, []), (74, .iload_n 1, 1, 0, 0, []), (75, .i2l, 1, 0, 0, []), (76, .lrem, 1, 0, 0, []), (77, .l2i, 1, 0, 0, []), (78, .istore 8, 2, 0, 0, []), (80, .iload_n 2, 1, 0, 0, []), (81, .ifCond .eq 28, 3, 0, 109, []), (84, .aload_n 0, 1, 0, 0, []), (85, .getfield 13, 3, 0, 0, []), (88, .getfield 166, 3, 0, 0, []), (91, .iconst 0, 1, 0, 0, []), (92, .iload 7, 2, 0, 0, []), (94, .iastore, 1, 0, 0, []), (95, .aload_n 0, 1, 0, 0, []), (96, .getfield 13, 3, 0, 0, []), (99, .getfield 166, 3, 0, 0, []), (102, .iconst 2, 1, 2, 0, []), (103, .iload 8, 2, 0, 0, []), (105, .iastore, 1, 0, 0, []), (106, .goto 20, 3, 0, 126, [])]
theorem ok_Pro_divide_64 : blkOK b_Pro_divide pt_Pro 109 I_Pro_divide_64 = true := by decide +kernel
def I_Pro_divide_109 : List IT := [(109, .aload_n 0, 1, 0, 0, []), (110, .getfield 13, 3, 0, 0, []), (113, .getfield 166, 3, 0, 0, []), (116, .iconst 0, 1, 0, 0, []), (117, .iload 8, 2, 0, 0, []), (119, .bipush 8, 2, 8, 0, []), (121, .ishl, 1, 0, 0, []), (122, .iload 7, 2, 0, 0, []), (124, .ior, 1, 0, 0, []), (125, .iastore, 1, 0, 0, [])]
theorem ok_Pro_divide_109 : blkOK b_Pro_divide pt_Pro 126 I_Pro_divide_109 = true := by decide +kernel
def I_Pro_divide_126 : List IT := [(126, .iconst 1, 1, 1, 0, []), (127, .ireturn, 1, 0, 0, [])]
theorem ok_Pro_divide_126 : blkOK b_Pro_divide pt_Pro 128 I_Pro_divide_126 = true := by decide +kernel
def f_Pro_divide_48 (σ : Sg) (x1 : Int32) (x2 : Int32) (x3 : Int64) (x5 : Int64) : Int32 × Sg := (if x1 = (0 : Int32) then ((0 : Int32), σ) else (if (lg_cmp (x5 / (x1 : Int32).toInt64) x3) ≤ (0 : Int32) then (if x2 = (0 : Int32) then (bnd (up2 σ 4 (Int32.toNatClampNeg (0 : Int32)) ((((x5 - x5 / (x1 : Int32).toInt64 * (x1 : Int32).toInt64) : Int64).toInt32 <<< ((8 : Int32) &&& 31 : Int32)) ||| ((x5 / (x1 : Int32).toInt64) : Int64).toInt32)) fun s4 => ((1 : Int32), s4)) else (bnd (up2 σ 4 (Int32.toNatClampNeg (0 : Int32)) ((x5 / (x1 : Int32).toInt64) : Int64).toInt32) fun s5 => bnd (up2 s5 4 (Int32.toNatClampNeg (2 : Int32)) ((x5 - x5 / (x1 : Int32).toInt64 * (x1 : Int32).toInt64) : Int64).toInt32) fun s6 => ((1 : Int32), s6))) else ((0 : Int32), σ)))
theorem z_Pro_divide_48 {σ : Sg} {x1 : Int32} {x2 : Int32} {x3 : Int64} {x5 : Int64}   : (f_Pro_divide_48 σ x1 x2 x3 x5).1 = 0 ∨ (f_Pro_divide_48 σ x1 x2 x3 x5).1 = 1 := by
  show Zb (f_Pro_divide_48 σ x1 x2 x3 x5)
  unfold f_Pro_divide_48
  refine ite_z (fun h1 => ?_) (fun h1 => ?_)
  · exact (Or.inl rfl)
  · refine ite_z (fun h2 => ?_) (fun h2 => ?_)
    · refine ite_z (fun h3 => ?_) (fun h3 => ?_)
      · refine bnd_z fun s4 e4 => ?_
        exact (Or.inr rfl)
      · refine bnd_z fun s5 e5 => ?_
        refine bnd_z fun s6 e6 => ?_
        exact (Or.inr rfl)
    · exact (Or.inl rfl)
abbrev w_Pro_divide_48 : List (Nat × Option Nat) := [(4, none)]
theorem p_Pro_divide_48 {P : Sg → Prop} (hP : WP w_Pro_divide_48 P) {σ : Sg} {x1 : Int32} {x2 : Int32} {x3 : Int64} {x5 : Int64} (h : P σ) : PP P (f_Pro_divide_48 σ x1 x2 x3 x5) := by
  unfold f_Pro_divide_48
  refine ite_z (fun _ => ?_) (fun _ => ?_)
  · exact h
  · refine ite_z (fun _ => ?_) (fun _ => ?_)
    · refine ite_z (fun _ => ?_) (fun _ => ?_)
      · refine bnd_zz (Z := P) (hP _ _ _ _ (Or.inl (by decide)) h) fun s4 e4 q4 => ?_
        exact q4
      · refine bnd_zz (Z := P) (hP _ _ _ _ (Or.inl (by decide)) h) fun s5 e5 q5 => ?_
        refine bnd_zz (Z := P) (hP _ _ _ _ (Or.inl (by decide)) q5) fun s6 e6 q6 => ?_
        exact q6
    · exact h
set_option maxRecDepth 100000 in
set_option maxHeartbeats 4000000 in
theorem b_Pro_divide_48 {l : Launch} {ad : Nat → Nat} {D : va_G} {cI : ClassId} {K : Option Value → Sg → Prop} {X : Nat → List Value → List Value → Sg → Prop} (hX : Cl l ad D cI mi_Pro_divide pt_Pro K X) {σ : Sg} {x1 : Int32} {x2 : Int32} {x3 : Int64} {x5 : Int64}   (hK : KI K (f_Pro_divide_48 σ x1 x2 x3 x5)) : X 48 [.ref 12, .int x1, .int x2, .long x3, .null, .long x5, .null, .null, .null] [] σ := by
  unfold f_Pro_divide_48 at hK
  refine hX.1 62 I_Pro_divide_48 ok_Pro_divide_48 _ _ _ ?_
  refine And.intro (fun h1 => ?_) (fun h1 => ?_)
  · have hK := ite_p hK h1
    refine hX.1 64 I_Pro_divide_62 ok_Pro_divide_62 _ _ _ ?_
    exact And.intro (Or.inl rfl) hK
  · have hK := ite_n hK h1
    refine And.intro (i64_ne (by assumption)) ?_
    refine And.intro (fun h2 => ?_) (fun h2 => ?_)
    · have hK := ite_p hK h2
      refine hX.1 109 I_Pro_divide_64 ok_Pro_divide_64 _ _ _ ?_
      refine And.intro (i64_ne (by assumption)) ?_
      refine And.intro (i64_ne (by assumption)) ?_
      refine And.intro (fun h3 => ?_) (fun h3 => ?_)
      · have hK := ite_p hK h3
        refine hX.1 126 I_Pro_divide_109 ok_Pro_divide_109 _ _ _ ?_
        refine And.intro (vin (by decide)) (SG_g hK fun s4 e4 hK => ?_)
        refine hX.1 128 I_Pro_divide_126 ok_Pro_divide_126 _ _ _ ?_
        exact And.intro (Or.inr rfl) hK
      · have hK := ite_n hK h3
        refine And.intro (vin (by decide)) (SG_g hK fun s5 e5 hK => ?_)
        refine And.intro (vin (by decide)) (SG_g hK fun s6 e6 hK => ?_)
        refine hX.1 128 I_Pro_divide_126 ok_Pro_divide_126 _ _ _ ?_
        exact And.intro (Or.inr rfl) hK
    · have hK := ite_n hK h2
      refine hX.1 64 I_Pro_divide_62 ok_Pro_divide_62 _ _ _ ?_
      exact And.intro (Or.inl rfl) hK
def f_Pro_divide_13 (σ : Sg) (x1 : Int32) (x2 : Int32) (y0 : Int64) : Int32 × Sg := (if x2 = (0 : Int32) then (f_Pro_divide_48 σ x1 x2 y0 ((σ 4 (Int32.toNatClampNeg (0 : Int32))) : Int32).toInt64) else (f_Pro_divide_48 σ x1 x2 y0 (((σ 4 (Int32.toNatClampNeg (0 : Int32))) : Int32).toInt64 ||| (((σ 4 (Int32.toNatClampNeg (2 : Int32))) : Int32).toInt64 <<< (((16 : Int32) : Int32).toInt64 &&& 63)))))
theorem z_Pro_divide_13 {σ : Sg} {x1 : Int32} {x2 : Int32} {y0 : Int64}   : (f_Pro_divide_13 σ x1 x2 y0).1 = 0 ∨ (f_Pro_divide_13 σ x1 x2 y0).1 = 1 := by
  show Zb (f_Pro_divide_13 σ x1 x2 y0)
  unfold f_Pro_divide_13
  refine ite_z (fun h1 => ?_) (fun h1 => ?_)
  · exact z_Pro_divide_48
  · exact z_Pro_divide_48
abbrev w_Pro_divide_13 : List (Nat × Option Nat) := [(4, none)]
theorem p_Pro_divide_13 {P : Sg → Prop} (hP : WP w_Pro_divide_13 P) {σ : Sg} {x1 : Int32} {x2 : Int32} {y0 : Int64} (h : P σ) : PP P (f_Pro_divide_13 σ x1 x2 y0) := by
  unfold f_Pro_divide_13
  refine ite_z (fun _ => ?_) (fun _ => ?_)
  · exact p_Pro_divide_48 (wsub hP rfl) h
  · exact p_Pro_divide_48 (wsub hP rfl) h
set_option maxRecDepth 100000 in
set_option maxHeartbeats 4000000 in
theorem b_Pro_divide_13 {l : Launch} {ad : Nat → Nat} {D : va_G} {cI : ClassId} {K : Option Value → Sg → Prop} {X : Nat → List Value → List Value → Sg → Prop} (hX : Cl l ad D cI mi_Pro_divide pt_Pro K X) {σ : Sg} {x1 : Int32} {x2 : Int32} {y0 : Int64}   (hK : KI K (f_Pro_divide_13 σ x1 x2 y0)) : X 13 [.ref 12, .int x1, .int x2, .null, .null, .null, .null, .null, .null] [.long y0] σ := by
  unfold f_Pro_divide_13 at hK
  refine hX.1 48 I_Pro_divide_13 ok_Pro_divide_13 _ _ _ ?_
  refine And.intro (vin (by decide)) ?_
  refine And.intro (fun h1 => ?_) (fun h1 => ?_)
  · have hK := ite_p hK h1
    exact b_Pro_divide_48 hX  hK
  · have hK := ite_n hK h1
    refine And.intro (vin (by decide)) ?_
    exact b_Pro_divide_48 hX  hK
def f_Pro_divide (σ : Sg) (a1 : Int32) (a2 : Int32) : Int32 × Sg := (if a2 = (0 : Int32) then (f_Pro_divide_13 σ a1 a2 255) else (f_Pro_divide_13 σ a1 a2 65535))
theorem z_Pro_divide {σ : Sg} {a1 : Int32} {a2 : Int32}   : (f_Pro_divide σ a1 a2).1 = 0 ∨ (f_Pro_divide σ a1 a2).1 = 1 := by
  show Zb (f_Pro_divide σ a1 a2)
  unfold f_Pro_divide
  refine ite_z (fun h1 => ?_) (fun h1 => ?_)
  · exact z_Pro_divide_13
  · exact z_Pro_divide_13
abbrev w_Pro_divide : List (Nat × Option Nat) := [(4, none)]
theorem p_Pro_divide {P : Sg → Prop} (hP : WP w_Pro_divide P) {σ : Sg} {a1 : Int32} {a2 : Int32} (h : P σ) : PP P (f_Pro_divide σ a1 a2) := by
  unfold f_Pro_divide
  refine ite_z (fun _ => ?_) (fun _ => ?_)
  · exact p_Pro_divide_13 (wsub hP rfl) h
  · exact p_Pro_divide_13 (wsub hP rfl) h
set_option maxRecDepth 100000 in
set_option maxHeartbeats 4000000 in
theorem s_Pro_divide {l : Launch} {ad : Nat → Nat} {D : va_G} {cI : ClassId} {σ : Sg} {a1 : Int32} {a2 : Int32} {K : Option Value → Sg → Prop}   (hK : KI K (f_Pro_divide σ a1 a2)) : MetJ l ad D cI mi_Pro_divide [.ref 12, .int a1, .int a2] σ K := by
  refine met_of mi_Pro_divide pt_Pro pt_Pro_in rfl pl_Pro rfl (Nat.le_of_ble_eq_true rfl) fun X hX => ?_
  have hX : Cl l ad D cI mi_Pro_divide pt_Pro K X := hX
  show X 0 [.ref 12, .int a1, .int a2, .null, .null, .null, .null, .null, .null] [] σ
  unfold f_Pro_divide at hK
  refine hX.1 10 I_Pro_divide_0 ok_Pro_divide_0 _ _ _ ?_
  refine And.intro (fun h1 => ?_) (fun h1 => ?_)
  · have hK := ite_p hK h1
    refine hX.1 13 I_Pro_divide_10 ok_Pro_divide_10 _ _ _ ?_
    exact b_Pro_divide_13 hX  hK
  · have hK := ite_n hK h1
    exact b_Pro_divide_13 hX  hK
def I_Pro_haltOrUnary_0 : List IT := [(0, .iload_n 1, 1, 0, 0, []), (1, .sipush 244, 3, 244, 0, []), (4, .if_icmp .ne 10, 3, 0, 14, []), (7, .aload_n 0, 1, 0, 0, []), (8, .iconst 1, 1, 1, 0, []), (9, .putfield 58, 3, 0, 0, []), (12, .iconst 1, 1, 1, 0, []), (13, .ireturn, 1, 0, 0, [])]
theorem ok_Pro_haltOrUnary_0 : blkOK b_Pro_haltOrUnary pt_Pro 14 I_Pro_haltOrUnary_0 = true := by decide +kernel
def I_Pro_haltOrUnary_14 : List IT := [(14, .iload_n 1, 1, 0, 0, []), (15, .sipush 246, 3, 246, 0, []), (18, .if_icmp .ge 5, 3, 0, 23, []), (21, .iconst 0, 1, 0, 0, []), (22, .ireturn, 1, 0, 0, [])]
theorem ok_Pro_haltOrUnary_14 : blkOK b_Pro_haltOrUnary pt_Pro 23 I_Pro_haltOrUnary_14 = true := by decide +kernel
def I_Pro_haltOrUnary_23 : List IT := [(23, .iload_n 1, 1, 0, 0, []), (24, .sipush 247, 3, 247, 0, []), (27, .if_icmp .ne 7, 3, 0, 34, []), (30, .iconst 1, 1, 1, 0, []), (31, .goto 4, 3, 0, 35, [])]
theorem ok_Pro_haltOrUnary_23 : blkOK b_Pro_haltOrUnary pt_Pro 34 I_Pro_haltOrUnary_23 = true := by decide +kernel
def I_Pro_haltOrUnary_34 : List IT := [(34, .iconst 0, 1, 0, 0, [])]
theorem ok_Pro_haltOrUnary_34 : blkOK b_Pro_haltOrUnary pt_Pro 35 I_Pro_haltOrUnary_34 = true := by decide +kernel
def I_Pro_haltOrUnary_35 : List IT := [(35, .istore_n 2, 1, 0, 0, []), (36, .aload_n 0, 1, 0, 0, []), (37, .getfield 34, 3, 0, 0, []), (40, .iload_n 2, 1, 0, 0, []), (41, .invokevirtual 141, 3, 0, 0, []), (44, .aload_n 0, 1, 0, 0, []), (45, .getfield 34, 3, 0, 0, []), (48, .invokevirtual 145, 3, 0, 0, []), (51, .istore_n 3, 1, 0, 0, []), (52, .aload_n 0, 1, 0, 0, []), (53, .getfield 34, 3, 0, 0, []), (56, .getfield 147, 3, 0, 0, []), (59, .tableswitch 89 2 6 #[33, 45, 65, 89, 73], 33, 0, 148, [(2, 92), (3, 104), (4, 124), (5, 148), (6, 132)])]
theorem ok_Pro_haltOrUnary_35 : blkOK b_Pro_haltOrUnary pt_Pro 92 I_Pro_haltOrUnary_35 = true := by decide +kernel
def I_Pro_haltOrUnary_92 : List IT := [(92, .aload_n 0, 1, 0, 0, []), (93, .getfield 34, 3, 0, 0, []), (96, .iload_n 3, 1, 0, 0, []), (97, .iconst (-1), 1, (-1), 0, []), (98, .ixor, 1, 0, 0, []), (99, .invokevirtual 150, 3, 0, 0, []), (102, .iconst 1, 1, 1, 0, []), (103, .ireturn, 1, 0, 0, [])]
theorem ok_Pro_haltOrUnary_92 : blkOK b_Pro_haltOrUnary pt_Pro 104 I_Pro_haltOrUnary_92 = true := by decide +kernel
def I_Pro_haltOrUnary_104 : List IT := [(104, .aload_n 0, 1, 0, 0, []), (105, .getfield 34, 3, 0, 0, []), (108, .aload_n 0, 1, 0, 0, []), (109, .getfield 17, 3, 0, 0, []), (112, .iconst 0, 1, 0, 0, []), (113, .iload_n 3, 1, 0, 0, []), (114, .iconst 0, 1, 0, 0, []), (115, .iload_n 2, 1, 0, 0, []), (116, .invokevirtual 210, 3, 0, 0, []), (119, .invokevirtual 150, 3, 0, 0, []), (122, .iconst 1, 1, 1, 0, []), (123, .ireturn, 1, 0, 0, [])]
theorem ok_Pro_haltOrUnary_104 : blkOK b_Pro_haltOrUnary pt_Pro 124 I_Pro_haltOrUnary_104 = true := by decide +kernel
def I_Pro_haltOrUnary_124 : List IT := [(124, .aload_n 0, 1, 0, 0, []), (125, .iload_n 3, 1, 0, 0, []), (126, .iload_n 2, 1, 0, 0, []), (127, .invokevirtual 237, 3, 0, 0, []), (130, .iconst 1, 1, 1, 0, []), (131, .ireturn, 1, 0, 0, [])]
theorem ok_Pro_haltOrUnary_124 : blkOK b_Pro_haltOrUnary pt_Pro 132 I_Pro_haltOrUnary_124 = true := by decide +kernel
def I_Pro_haltOrUnary_132 : List IT := [(132, .aload_n 0, 1, 0, 0, []), (133, .iload_n 3, 1, 0, 0, []), (134, .iload_n 2, 1, 0, 0, []), (135, .invokevirtual 241, 3, 0, 0, []), (138, .ifCond .ne 8, 3, 0, 146, []), (141, .aload_n 0, 1, 0, 0, []), (142, .iconst 0, 1, 0, 0, []), (143, .invokevirtual 61, 3, 0, 0, [])]
theorem ok_Pro_haltOrUnary_132 : blkOK b_Pro_haltOrUnary pt_Pro 146 I_Pro_haltOrUnary_132 = true := by decide +kernel
def I_Pro_haltOrUnary_146 : List IT := [(146, .iconst 1, 1, 1, 0, []), (147, .ireturn, 1, 0, 0, [])]
theorem ok_Pro_haltOrUnary_146 : blkOK b_Pro_haltOrUnary pt_Pro 148 I_Pro_haltOrUnary_146 = true := by decide +kernel
def I_Pro_haltOrUnary_148 : List IT := [(148, .iconst 0, 1, 0, 0, []), (149, .ireturn, 1, 0, 0, [])]
theorem ok_Pro_haltOrUnary_148 : blkOK b_Pro_haltOrUnary pt_Pro 150 I_Pro_haltOrUnary_148 = true := by decide +kernel
def f_Pro_haltOrUnary_35 (σ : Sg) (y0 : Int32) : Int32 × Sg := (bnd (f_Dec_readModrm σ y0) fun r1 => bnd (f_Dec_value r1) fun r2 => (if (r2.2 14 5) = (2 : Int32) then (bnd (f_Dec_change r2.2 (r2.1 ^^^ (-1 : Int32))) fun r4 => ((1 : Int32), r4)) else (if (r2.2 14 5) = (3 : Int32) then (bnd (f_Fla_difference r2.2 (0 : Int32) r2.1 (0 : Int32) y0) fun r6 => bnd (f_Dec_change r6.2 r6.1) fun r7 => ((1 : Int32), r7)) else (if (r2.2 14 5) = (4 : Int32) then (bnd (f_Pro_multiply r2.2 r2.1 y0) fun r9 => ((1 : Int32), r9)) else (if (r2.2 14 5) = (5 : Int32) then ((0 : Int32), r2.2) else (if (r2.2 14 5) = (6 : Int32) then (bnd (f_Pro_divide r2.2 r2.1 y0) fun r12 => (if r12.1 = (0 : Int32) then (bnd (f_Pro_interrupt r12.2 (0 : Int32)) fun r14 => ((1 : Int32), r14)) else ((1 : Int32), r12.2))) else ((0 : Int32), r2.2)))))))
theorem z_Pro_haltOrUnary_35 {σ : Sg} {y0 : Int32} (z_y0 : y0 = 0 ∨ y0 = 1)  : (f_Pro_haltOrUnary_35 σ y0).1 = 0 ∨ (f_Pro_haltOrUnary_35 σ y0).1 = 1 := by
  show Zb (f_Pro_haltOrUnary_35 σ y0)
  unfold f_Pro_haltOrUnary_35
  refine bnd_z fun r1 e1 => ?_
  refine bnd_z fun r2 e2 => ?_
  refine ite_z (fun h3 => ?_) (fun h3 => ?_)
  · refine bnd_z fun r4 e4 => ?_
    exact (Or.inr rfl)
  refine ite_z (fun h5 => ?_) (fun h5 => ?_)
  · refine bnd_z fun r6 e6 => ?_
    refine bnd_z fun r7 e7 => ?_
    exact (Or.inr rfl)
  refine ite_z (fun h8 => ?_) (fun h8 => ?_)
  · refine bnd_z fun r9 e9 => ?_
    exact (Or.inr rfl)
  refine ite_z (fun h10 => ?_) (fun h10 => ?_)
  · exact (Or.inl rfl)
  refine ite_z (fun h11 => ?_) (fun h11 => ?_)
  · refine bnd_zz (Z := Zb) (z_Pro_divide) fun r12 e12 z12 => ?_
    refine ite_z (fun h13 => ?_) (fun h13 => ?_)
    · refine bnd_z fun r14 e14 => ?_
      exact (Or.inr rfl)
    · exact (Or.inr rfl)
  exact (Or.inl rfl)
abbrev w_Pro_haltOrUnary_35 : List (Nat × Option Nat) := [(2, none), (3, some 2), (4, none), (5, none), (6, some 0), (12, some 7), (14, some 5), (14, some 6), (14, some 7), (14, some 9), (14, some 10), (14, some 11)]
theorem p_Pro_haltOrUnary_35 {P : Sg → Prop} (hP : WP w_Pro_haltOrUnary_35 P) {σ : Sg} {y0 : Int32} (h : P σ) : PP P (f_Pro_haltOrUnary_35 σ y0) := by
  unfold f_Pro_haltOrUnary_35
  refine bnd_zz (Z := P) (p_Dec_readModrm (wsub hP rfl) h) fun r1 e1 q1 => ?_
  refine bnd_zz (Z := PP P) (p_Dec_value (wsub hP rfl) q1) fun r2 e2 q2 => ?_
  refine ite_z (fun _ => ?_) (fun _ => ?_)
  · refine bnd_zz (Z := P) (p_Dec_change (wsub hP rfl) q2) fun r4 e4 q4 => ?_
    exact q4
  refine ite_z (fun _ => ?_) (fun _ => ?_)
  · refine bnd_zz (Z := PP P) (p_Fla_difference (wsub hP rfl) q2) fun r6 e6 q6 => ?_
    refine bnd_zz (Z := P) (p_Dec_change (wsub hP rfl) q6) fun r7 e7 q7 => ?_
    exact q7
  refine ite_z (fun _ => ?_) (fun _ => ?_)
  · refine bnd_zz (Z := P) (p_Pro_multiply (wsub hP rfl) q2) fun r9 e9 q9 => ?_
    exact q9
  refine ite_z (fun _ => ?_) (fun _ => ?_)
  · exact q2
  refine ite_z (fun _ => ?_) (fun _ => ?_)
  · refine bnd_zz (Z := PP P) (p_Pro_divide (wsub hP rfl) q2) fun r12 e12 q12 => ?_
    refine ite_z (fun _ => ?_) (fun _ => ?_)
    · refine bnd_zz (Z := P) (p_Pro_interrupt (wsub hP rfl) q12) fun r14 e14 q14 => ?_
      exact q14
    · exact q12
  exact q2
set_option maxRecDepth 100000 in
set_option maxHeartbeats 4000000 in
theorem b_Pro_haltOrUnary_35 {l : Launch} {ad : Nat → Nat} {D : va_G} {cI : ClassId} {K : Option Value → Sg → Prop} {X : Nat → List Value → List Value → Sg → Prop} (hX : Cl l ad D cI mi_Pro_haltOrUnary pt_Pro K X) {σ : Sg} {y0 : Int32} (z_y0 : y0 = 0 ∨ y0 = 1)  (hK : KI K (f_Pro_haltOrUnary_35 σ y0)) : X 35 [.ref 12, .null, .null, .null] [.int y0] σ := by
  unfold f_Pro_haltOrUnary_35 at hK
  refine hX.1 92 I_Pro_haltOrUnary_35 ok_Pro_haltOrUnary_35 _ _ _ ?_
  refine s_Dec_readModrm z_y0 (bnd_g hK fun r1 e1 hK => ?_)
  refine s_Dec_value (bnd_g hK fun r2 e2 hK => ?_)
  refine And.intro (fun h3 => ?_) (fun h3 => ?_)
  · have hK := ite_p hK h3
    refine hX.1 104 I_Pro_haltOrUnary_92 ok_Pro_haltOrUnary_92 _ _ _ ?_
    refine s_Dec_change (bnd_g hK fun r4 e4 hK => ?_)
    exact And.intro (Or.inr rfl) hK
  have hK := ite_n hK h3
  refine And.intro (fun h5 => ?_) (fun h5 => ?_)
  · have hK := ite_p hK h5
    refine hX.1 124 I_Pro_haltOrUnary_104 ok_Pro_haltOrUnary_104 _ _ _ ?_
    refine s_Fla_difference (bnd_g hK fun r6 e6 hK => ?_)
    refine s_Dec_change (bnd_g hK fun r7 e7 hK => ?_)
    exact And.intro (Or.inr rfl) hK
  have hK := ite_n hK h5
  refine And.intro (fun h8 => ?_) (fun h8 => ?_)
  · have hK := ite_p hK h8
    refine hX.1 132 I_Pro_haltOrUnary_124 ok_Pro_haltOrUnary_124 _ _ _ ?_
    refine s_Pro_multiply (bnd_g hK fun r9 e9 hK => ?_)
    exact And.intro (Or.inr rfl) hK
  have hK := ite_n hK h8
  refine And.intro (fun h10 => ?_) (fun h10 => ?_)
  · have hK := ite_p hK h10
    refine hX.1 150 I_Pro_haltOrUnary_148 ok_Pro_haltOrUnary_148 _ _ _ ?_
    exact And.intro (Or.inl rfl) hK
  have hK := ite_n hK h10
  refine And.intro (fun h11 => ?_) (fun h11 => ?_)
  · have hK := ite_p hK h11
    refine hX.1 146 I_Pro_haltOrUnary_132 ok_Pro_haltOrUnary_132 _ _ _ ?_
    refine s_Pro_divide (bnd_g hK fun r12 e12 hK => ?_)
    have z12 : r12.1 = 0 ∨ r12.1 = 1 := by rw [← e12]; exact z_Pro_divide
    refine And.intro (fun h13 => ?_) (fun h13 => ?_)
    · have hK := ite_p hK h13
      refine s_Pro_interrupt (bnd_g hK fun r14 e14 hK => ?_)
      refine hX.1 148 I_Pro_haltOrUnary_146 ok_Pro_haltOrUnary_146 _ _ _ ?_
      exact And.intro (Or.inr rfl) hK
    · have hK := ite_n hK h13
      refine hX.1 148 I_Pro_haltOrUnary_146 ok_Pro_haltOrUnary_146 _ _ _ ?_
      exact And.intro (Or.inr rfl) hK
  have hK := ite_n hK h11
  refine hX.1 150 I_Pro_haltOrUnary_148 ok_Pro_haltOrUnary_148 _ _ _ ?_
  exact And.intro (Or.inl rfl) hK
def f_Pro_haltOrUnary (σ : Sg) (a1 : Int32) : Int32 × Sg := (if a1 = (244 : Int32) then (bnd (up2 σ 12 6 (1 : Int32)) fun s2 => ((1 : Int32), s2)) else (if (246 : Int32) ≤ a1 then (if a1 = (247 : Int32) then (f_Pro_haltOrUnary_35 σ (1 : Int32)) else (f_Pro_haltOrUnary_35 σ (0 : Int32))) else ((0 : Int32), σ)))
theorem z_Pro_haltOrUnary {σ : Sg} {a1 : Int32}   : (f_Pro_haltOrUnary σ a1).1 = 0 ∨ (f_Pro_haltOrUnary σ a1).1 = 1 := by
  show Zb (f_Pro_haltOrUnary σ a1)
  unfold f_Pro_haltOrUnary
  refine ite_z (fun h1 => ?_) (fun h1 => ?_)
  · refine bnd_z fun s2 e2 => ?_
    exact (Or.inr rfl)
  · refine ite_z (fun h3 => ?_) (fun h3 => ?_)
    · refine ite_z (fun h4 => ?_) (fun h4 => ?_)
      · exact z_Pro_haltOrUnary_35 (Or.inr rfl)
      · exact z_Pro_haltOrUnary_35 (Or.inl rfl)
    · exact (Or.inl rfl)
abbrev w_Pro_haltOrUnary : List (Nat × Option Nat) := [(2, none), (3, some 2), (4, none), (5, none), (6, some 0), (12, some 6), (12, some 7), (14, some 5), (14, some 6), (14, some 7), (14, some 9), (14, some 10), (14, some 11)]
theorem p_Pro_haltOrUnary {P : Sg → Prop} (hP : WP w_Pro_haltOrUnary P) {σ : Sg} {a1 : Int32} (h : P σ) : PP P (f_Pro_haltOrUnary σ a1) := by
  unfold f_Pro_haltOrUnary
  refine ite_z (fun _ => ?_) (fun _ => ?_)
  · refine bnd_zz (Z := P) (hP _ _ _ _ (Or.inr (by decide)) h) fun s2 e2 q2 => ?_
    exact q2
  · refine ite_z (fun _ => ?_) (fun _ => ?_)
    · refine ite_z (fun _ => ?_) (fun _ => ?_)
      · exact p_Pro_haltOrUnary_35 (wsub hP rfl) h
      · exact p_Pro_haltOrUnary_35 (wsub hP rfl) h
    · exact h
set_option maxRecDepth 100000 in
set_option maxHeartbeats 4000000 in
theorem s_Pro_haltOrUnary {l : Launch} {ad : Nat → Nat} {D : va_G} {cI : ClassId} {σ : Sg} {a1 : Int32} {K : Option Value → Sg → Prop}   (hK : KI K (f_Pro_haltOrUnary σ a1)) : MetJ l ad D cI mi_Pro_haltOrUnary [.ref 12, .int a1] σ K := by
  refine met_of mi_Pro_haltOrUnary pt_Pro pt_Pro_in rfl pl_Pro rfl (Nat.le_of_ble_eq_true rfl) fun X hX => ?_
  have hX : Cl l ad D cI mi_Pro_haltOrUnary pt_Pro K X := hX
  show X 0 [.ref 12, .int a1, .null, .null] [] σ
  unfold f_Pro_haltOrUnary at hK
  refine hX.1 14 I_Pro_haltOrUnary_0 ok_Pro_haltOrUnary_0 _ _ _ ?_
  refine And.intro (fun h1 => ?_) (fun h1 => ?_)
  · have hK := ite_p hK h1
    refine And.intro (Or.inr rfl) (SG_g hK fun s2 e2 hK => ?_)
    exact And.intro (Or.inr rfl) hK
  · have hK := ite_n hK h1
    refine hX.1 23 I_Pro_haltOrUnary_14 ok_Pro_haltOrUnary_14 _ _ _ ?_
    refine And.intro (fun h3 => ?_) (fun h3 => ?_)
    · have hK := ite_p hK h3
      refine hX.1 34 I_Pro_haltOrUnary_23 ok_Pro_haltOrUnary_23 _ _ _ ?_
      refine And.intro (fun h4 => ?_) (fun h4 => ?_)
      · have hK := ite_p hK h4
        refine hX.fg [1] ?_
        exact b_Pro_haltOrUnary_35 hX (Or.inr rfl) hK
      · have hK := ite_n hK h4
        refine hX.1 35 I_Pro_haltOrUnary_34 ok_Pro_haltOrUnary_34 _ _ _ ?_
        refine hX.fg [1] ?_
        exact b_Pro_haltOrUnary_35 hX (Or.inl rfl) hK
    · have hK := ite_n hK h3
      exact And.intro (Or.inl rfl) hK
def I_Pro_setFlag_0 : List IT := [(0, .iload_n 1, 1, 0, 0, []), (1, .sipush 250, 3, 250, 0, []), (4, .if_icmp .ge 7, 3, 0, 11, []), (7, .iconst 1, 1, 1, 0, []), (8, .goto 19, 3, 0, 27, [])]
theorem ok_Pro_setFlag_0 : blkOK b_Pro_setFlag pt_Pro 11 I_Pro_setFlag_0 = true := by decide +kernel
def I_Pro_setFlag_11 : List IT := [(11, .iload_n 1, 1, 0, 0, []), (12, .sipush 252, 3, 252, 0, []), (15, .if_icmp .ge 9, 3, 0, 24, []), (18, .sipush 512, 3, 512, 0, []), (21, .goto 6, 3, 0, 27, [])]
theorem ok_Pro_setFlag_11 : blkOK b_Pro_setFlag pt_Pro 24 I_Pro_setFlag_11 = true := by decide +kernel
def I_Pro_setFlag_24 : List IT := [(24, .sipush 1024, 3, 1024, 0, [])]
theorem ok_Pro_setFlag_24 : blkOK b_Pro_setFlag pt_Pro 27 I_Pro_setFlag_24 = true := by decide +kernel
def I_Pro_setFlag_27 : List IT := [(27, .istore_n 2, 1, 0, 0, []), (28, .aload_n 0, 1, 0, 0, []), (29, .getfield 17, 3, 0, 0, []), (32, .iload_n 2, 1, 0, 0, []), (33, .iload_n 1, 1, 0, 0, []), (34, .iconst 1, 1, 1, 0, []), (35, .iand, 1, 0, 0, []), (36, .iconst 1, 1, 1, 0, []), (37, .if_icmp .ne 7, 3, 0, 44, []), (40, .iconst 1, 1, 1, 0, []), (41, .goto 4, 3, 0, 45, [])]
theorem ok_Pro_setFlag_27 : blkOK b_Pro_setFlag pt_Pro 44 I_Pro_setFlag_27 = true := by decide +kernel
def I_Pro_setFlag_44 : List IT := [(44, .iconst 0, 1, 0, 0, [])]
theorem ok_Pro_setFlag_44 : blkOK b_Pro_setFlag pt_Pro 45 I_Pro_setFlag_44 = true := by decide +kernel
def I_Pro_setFlag_45 : List IT := [(45, .invokevirtual 247, 3, 0, 0, []), (48, .aload_n 0, 1, 0, 0, []), (49, .iload_n 1, 1, 0, 0, []), (50, .sipush 251, 3, 251, 0, []), (53, .if_icmp .ne 7, 3, 0, 60, []), (56, .iconst 1, 1, 1, 0, []), (57, .goto 4, 3, 0, 61, [])]
theorem ok_Pro_setFlag_45 : blkOK b_Pro_setFlag pt_Pro 60 I_Pro_setFlag_45 = true := by decide +kernel
def I_Pro_setFlag_60 : List IT := [(60, .iconst 0, 1, 0, 0, [])]
theorem ok_Pro_setFlag_60 : blkOK b_Pro_setFlag pt_Pro 61 I_Pro_setFlag_60 = true := by decide +kernel
def I_Pro_setFlag_61 : List IT := [(61, .putfield 44, 3, 0, 0, []), (64, .iconst 1, 1, 1, 0, []), (65, .ireturn, 1, 0, 0, [])]
theorem ok_Pro_setFlag_61 : blkOK b_Pro_setFlag pt_Pro 66 I_Pro_setFlag_61 = true := by decide +kernel
def f_Pro_setFlag_45 (σ : Sg) (x1 : Int32) (y0 : Int32) (y1 : Int32) : Int32 × Sg := (bnd (f_Fla_set σ y1 y0) fun r1 => (if x1 = (251 : Int32) then (bnd (up2 r1 12 8 (1 : Int32)) fun s3 => ((1 : Int32), s3)) else (bnd (up2 r1 12 8 (0 : Int32)) fun s4 => ((1 : Int32), s4))))
theorem z_Pro_setFlag_45 {σ : Sg} {x1 : Int32} {y0 : Int32} {y1 : Int32} (z_y0 : y0 = 0 ∨ y0 = 1)  : (f_Pro_setFlag_45 σ x1 y0 y1).1 = 0 ∨ (f_Pro_setFlag_45 σ x1 y0 y1).1 = 1 := by
  show Zb (f_Pro_setFlag_45 σ x1 y0 y1)
  unfold f_Pro_setFlag_45
  refine bnd_z fun r1 e1 => ?_
  refine ite_z (fun h2 => ?_) (fun h2 => ?_)
  · refine bnd_z fun s3 e3 => ?_
    exact (Or.inr rfl)
  · refine bnd_z fun s4 e4 => ?_
    exact (Or.inr rfl)
abbrev w_Pro_setFlag_45 : List (Nat × Option Nat) := [(6, some 0), (12, some 8)]
theorem p_Pro_setFlag_45 {P : Sg → Prop} (hP : WP w_Pro_setFlag_45 P) {σ : Sg} {x1 : Int32} {y0 : Int32} {y1 : Int32} (h : P σ) : PP P (f_Pro_setFlag_45 σ x1 y0 y1) := by
  unfold f_Pro_setFlag_45
  refine bnd_zz (Z := P) (p_Fla_set (wsub hP rfl) h) fun r1 e1 q1 => ?_
  refine ite_z (fun _ => ?_) (fun _ => ?_)
  · refine bnd_zz (Z := P) (hP _ _ _ _ (Or.inr (by decide)) q1) fun s3 e3 q3 => ?_
    exact q3
  · refine bnd_zz (Z := P) (hP _ _ _ _ (Or.inr (by decide)) q1) fun s4 e4 q4 => ?_
    exact q4
set_option maxRecDepth 100000 in
set_option maxHeartbeats 4000000 in
theorem b_Pro_setFlag_45 {l : Launch} {ad : Nat → Nat} {D : va_G} {cI : ClassId} {K : Option Value → Sg → Prop} {X : Nat → List Value → List Value → Sg → Prop} (hX : Cl l ad D cI mi_Pro_setFlag pt_Pro K X) {σ : Sg} {x1 : Int32} {y0 : Int32} {y1 : Int32} (z_y0 : y0 = 0 ∨ y0 = 1)  (hK : KI K (f_Pro_setFlag_45 σ x1 y0 y1)) : X 45 [.ref 12, .int x1, .null] [.int y0, .int y1, .ref 6] σ := by
  unfold f_Pro_setFlag_45 at hK
  refine hX.1 60 I_Pro_setFlag_45 ok_Pro_setFlag_45 _ _ _ ?_
  refine s_Fla_set (bnd_g hK fun r1 e1 hK => ?_)
  refine And.intro (fun h2 => ?_) (fun h2 => ?_)
  · have hK := ite_p hK h2
    refine hX.1 66 I_Pro_setFlag_61 ok_Pro_setFlag_61 _ _ _ ?_
    refine And.intro (Or.inr rfl) (SG_g hK fun s3 e3 hK => ?_)
    exact And.intro (Or.inr rfl) hK
  · have hK := ite_n hK h2
    refine hX.1 61 I_Pro_setFlag_60 ok_Pro_setFlag_60 _ _ _ ?_
    refine hX.1 66 I_Pro_setFlag_61 ok_Pro_setFlag_61 _ _ _ ?_
    refine And.intro (Or.inl rfl) (SG_g hK fun s4 e4 hK => ?_)
    exact And.intro (Or.inr rfl) hK
def f_Pro_setFlag_27 (σ : Sg) (x1 : Int32) (y0 : Int32) : Int32 × Sg := (if (x1 &&& (1 : Int32)) = (1 : Int32) then (f_Pro_setFlag_45 σ x1 (1 : Int32) y0) else (f_Pro_setFlag_45 σ x1 (0 : Int32) y0))
theorem z_Pro_setFlag_27 {σ : Sg} {x1 : Int32} {y0 : Int32}   : (f_Pro_setFlag_27 σ x1 y0).1 = 0 ∨ (f_Pro_setFlag_27 σ x1 y0).1 = 1 := by
  show Zb (f_Pro_setFlag_27 σ x1 y0)
  unfold f_Pro_setFlag_27
  refine ite_z (fun h1 => ?_) (fun h1 => ?_)
  · exact z_Pro_setFlag_45 (Or.inr rfl)
  · exact z_Pro_setFlag_45 (Or.inl rfl)
abbrev w_Pro_setFlag_27 : List (Nat × Option Nat) := [(6, some 0), (12, some 8)]
theorem p_Pro_setFlag_27 {P : Sg → Prop} (hP : WP w_Pro_setFlag_27 P) {σ : Sg} {x1 : Int32} {y0 : Int32} (h : P σ) : PP P (f_Pro_setFlag_27 σ x1 y0) := by
  unfold f_Pro_setFlag_27
  refine ite_z (fun _ => ?_) (fun _ => ?_)
  · exact p_Pro_setFlag_45 (wsub hP rfl) h
  · exact p_Pro_setFlag_45 (wsub hP rfl) h
set_option maxRecDepth 100000 in
set_option maxHeartbeats 4000000 in
theorem b_Pro_setFlag_27 {l : Launch} {ad : Nat → Nat} {D : va_G} {cI : ClassId} {K : Option Value → Sg → Prop} {X : Nat → List Value → List Value → Sg → Prop} (hX : Cl l ad D cI mi_Pro_setFlag pt_Pro K X) {σ : Sg} {x1 : Int32} {y0 : Int32}   (hK : KI K (f_Pro_setFlag_27 σ x1 y0)) : X 27 [.ref 12, .int x1, .null] [.int y0] σ := by
  unfold f_Pro_setFlag_27 at hK
  refine hX.1 44 I_Pro_setFlag_27 ok_Pro_setFlag_27 _ _ _ ?_
  refine And.intro (fun h1 => ?_) (fun h1 => ?_)
  · have hK := ite_p hK h1
    refine hX.fg [2] ?_
    exact b_Pro_setFlag_45 hX (Or.inr rfl) hK
  · have hK := ite_n hK h1
    refine hX.1 45 I_Pro_setFlag_44 ok_Pro_setFlag_44 _ _ _ ?_
    refine hX.fg [2] ?_
    exact b_Pro_setFlag_45 hX (Or.inl rfl) hK
def f_Pro_setFlag (σ : Sg) (a1 : Int32) : Int32 × Sg := (if (250 : Int32) ≤ a1 then (if (252 : Int32) ≤ a1 then (f_Pro_setFlag_27 σ a1 (1024 : Int32)) else (f_Pro_setFlag_27 σ a1 (512 : Int32))) else (f_Pro_setFlag_27 σ a1 (1 : Int32)))
theorem z_Pro_setFlag {σ : Sg} {a1 : Int32}   : (f_Pro_setFlag σ a1).1 = 0 ∨ (f_Pro_setFlag σ a1).1 = 1 := by
  show Zb (f_Pro_setFlag σ a1)
  unfold f_Pro_setFlag
  refine ite_z (fun h1 => ?_) (fun h1 => ?_)
  · refine ite_z (fun h2 => ?_) (fun h2 => ?_)
    · exact z_Pro_setFlag_27
    · exact z_Pro_setFlag_27
  · exact z_Pro_setFlag_27
abbrev w_Pro_setFlag : List (Nat × Option Nat) := [(6, some 0), (12, some 8)]
theorem p_Pro_setFlag {P : Sg → Prop} (hP : WP w_Pro_setFlag P) {σ : Sg} {a1 : Int32} (h : P σ) : PP P (f_Pro_setFlag σ a1) := by
  unfold f_Pro_setFlag
  refine ite_z (fun _ => ?_) (fun _ => ?_)
  · refine ite_z (fun _ => ?_) (fun _ => ?_)
    · exact p_Pro_setFlag_27 (wsub hP rfl) h
    · exact p_Pro_setFlag_27 (wsub hP rfl) h
  · exact p_Pro_setFlag_27 (wsub hP rfl) h
set_option maxRecDepth 100000 in
set_option maxHeartbeats 4000000 in
theorem s_Pro_setFlag {l : Launch} {ad : Nat → Nat} {D : va_G} {cI : ClassId} {σ : Sg} {a1 : Int32} {K : Option Value → Sg → Prop}   (hK : KI K (f_Pro_setFlag σ a1)) : MetJ l ad D cI mi_Pro_setFlag [.ref 12, .int a1] σ K := by
  refine met_of mi_Pro_setFlag pt_Pro pt_Pro_in rfl pl_Pro rfl (Nat.le_of_ble_eq_true rfl) fun X hX => ?_
  have hX : Cl l ad D cI mi_Pro_setFlag pt_Pro K X := hX
  show X 0 [.ref 12, .int a1, .null] [] σ
  unfold f_Pro_setFlag at hK
  refine hX.1 11 I_Pro_setFlag_0 ok_Pro_setFlag_0 _ _ _ ?_
  refine And.intro (fun h1 => ?_) (fun h1 => ?_)
  · have hK := ite_p hK h1
    refine hX.1 24 I_Pro_setFlag_11 ok_Pro_setFlag_11 _ _ _ ?_
    refine And.intro (fun h2 => ?_) (fun h2 => ?_)
    · have hK := ite_p hK h2
      refine hX.1 27 I_Pro_setFlag_24 ok_Pro_setFlag_24 _ _ _ ?_
      exact b_Pro_setFlag_27 hX  hK
    · have hK := ite_n hK h2
      exact b_Pro_setFlag_27 hX  hK
  · have hK := ite_n hK h1
    exact b_Pro_setFlag_27 hX  hK
