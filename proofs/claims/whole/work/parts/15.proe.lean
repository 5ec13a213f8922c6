def I_Pro_perform_0 : List IT := [(0, .iload_n 1, 1, 0, 0, []), (1, .iconst 4, 1, 4, 0, []), (2, .ishr, 1, 0, 0, []), (3, .tableswitch 224 0 15 #[77, 77, 77, 77, 100, 106, 224, 112, 121, 142, 155, 161, 167, 224, 173, 179], 77, 0, 227, [(0, 80), (1, 80), (2, 80), (3, 80), (4, 103), (5, 109), (6, 227), (7, 115), (8, 124), (9, 145), (10, 158), (11, 164), (12, 170), (13, 227), (14, 176), (15, 182)])]
theorem ok_Pro_perform_0 : blkOK b_Pro_perform pt_Pro 80 I_Pro_perform_0 = true := by decide +kernel
def I_Pro_perform_80 : List IT := [(80, .iload_n 1, 1, 0, 0, []), (81, .bipush 7, 2, 7, 0, []), (83, .iand, 1, 0, 0, []), (84, .bipush 6, 2, 6, 0, []), (86, .if_icmp .ge 11, 3, 0, 97, []), (89, .aload_n 0, 1, 0, 0, []), (90, .iload_n 1, 1, 0, 0, []), (91, .invokevirtual 83, 3, 0, 0, []), (94, .goto 8, 3, 0, 102, [])]
theorem ok_Pro_perform_80 : blkOK b_Pro_perform pt_Pro 97 I_Pro_perform_80 = true := by decide +kernel
def I_Pro_perform_97 : List IT := [(97, .aload_n 0, 1, 0, 0, []), (98, .iload_n 1, 1, 0, 0, []), (99, .invokevirtual 86, 3, 0, 0, [])]
theorem ok_Pro_perform_97 : blkOK b_Pro_perform pt_Pro 102 I_Pro_perform_97 = true := by decide +kernel
def I_Pro_perform_102 : List IT := [(102, .ireturn, 1, 0, 0, [])]
theorem ok_Pro_perform_102 : blkOK b_Pro_perform pt_Pro 103 I_Pro_perform_102 = true := by decide +kernel
def I_Pro_perform_103 : List IT := [(103, .aload_n 0, 1, 0, 0, []), (104, .iload_n 1, 1, 0, 0, []), (105, .invokevirtual 89, 3, 0, 0, []), (108, .ireturn, 1, 0, 0, [])]
theorem ok_Pro_perform_103 : blkOK b_Pro_perform pt_Pro 109 I_Pro_perform_103 = true := by decide +kernel
def I_Pro_perform_109 : List IT := [(109, .aload_n 0, 1, 0, 0, []), (110, .iload_n 1, 1, 0, 0, []), (111, .invokevirtual 92, 3, 0, 0, []), (114, .ireturn, 1, 0, 0, [])]
theorem ok_Pro_perform_109 : blkOK b_Pro_perform pt_Pro 115 I_Pro_perform_109 = true := by decide +kernel
def I_Pro_perform_115 : List IT := [(115, .aload_n 0, 1, 0, 0, []), (116, .iload_n 1, 1, 0, 0, []), (117, .bipush 15, 2, 15, 0, []), (119, .iand, 1, 0, 0, []), (120, .invokevirtual 95, 3, 0, 0, []), (123, .ireturn, 1, 0, 0, [])]
theorem ok_Pro_perform_115 : blkOK b_Pro_perform pt_Pro 124 I_Pro_perform_115 = true := by decide +kernel
def I_Pro_perform_124 : List IT := [(124, .iload_n 1, 1, 0, 0, []), (125, .sipush 136, 3, 136, 0, []), (128, .if_icmp .ge 11, 3, 0, 139, []), (131, .aload_n 0, 1, 0, 0, []), (132, .iload_n 1, 1, 0, 0, []), (133, .invokevirtual 98, 3, 0, 0, []), (136, .goto 8, 3, 0, 144, [])]
theorem ok_Pro_perform_124 : blkOK b_Pro_perform pt_Pro 139 I_Pro_perform_124 = true := by decide +kernel
def I_Pro_perform_139 : List IT := [(139, .aload_n 0, 1, 0, 0, []), (140, .iload_n 1, 1, 0, 0, []), (141, .invokevirtual 101, 3, 0, 0, [])]
theorem ok_Pro_perform_139 : blkOK b_Pro_perform pt_Pro 144 I_Pro_perform_139 = true := by decide +kernel
def I_Pro_perform_144 : List IT := [(144, .ireturn, 1, 0, 0, [])]
theorem ok_Pro_perform_144 : blkOK b_Pro_perform pt_Pro 145 I_Pro_perform_144 = true := by decide +kernel
def I_Pro_perform_145 : List IT := [(145, .iload_n 1, 1, 0, 0, []), (146, .sipush 144, 3, 144, 0, []), (149, .if_icmp .ne 7, 3, 0, 156, []), (152, .iconst 1, 1, 1, 0, []), (153, .goto 4, 3, 0, 157, [])]
theorem ok_Pro_perform_145 : blkOK b_Pro_perform pt_Pro 156 I_Pro_perform_145 = true := by decide +kernel
def I_Pro_perform_156 : List IT := [(156, .iconst 0, 1, 0, 0, [])]
theorem ok_Pro_perform_156 : blkOK b_Pro_perform pt_Pro 157 I_Pro_perform_156 = true := by decide +kernel
def I_Pro_perform_157 : List IT := [(157, .ireturn, 1, 0, 0, [])]
theorem ok_Pro_perform_157 : blkOK b_Pro_perform pt_Pro 158 I_Pro_perform_157 = true := by decide +kernel
def I_Pro_perform_158 : List IT := [(158, .aload_n 0, 1, 0, 0, []), (159, .iload_n 1, 1, 0, 0, []), (160, .invokevirtual 104, 3, 0, 0, []), (163, .ireturn, 1, 0, 0, [])]
theorem ok_Pro_perform_158 : blkOK b_Pro_perform pt_Pro 164 I_Pro_perform_158 = true := by decide +kernel
def I_Pro_perform_164 : List IT := [(164, .aload_n 0, 1, 0, 0, []), (165, .iload_n 1, 1, 0, 0, []), (166, .invokevirtual 107, 3, 0, 0, []), (169, .ireturn, 1, 0, 0, [])]
theorem ok_Pro_perform_164 : blkOK b_Pro_perform pt_Pro 170 I_Pro_perform_164 = true := by decide +kernel
def I_Pro_perform_170 : List IT := [(170, .aload_n 0, 1, 0, 0, []), (171, .iload_n 1, 1, 0, 0, []), (172, .invokevirtual 110, 3, 0, 0, []), (175, .ireturn, 1, 0, 0, [])]
theorem ok_Pro_perform_170 : blkOK b_Pro_perform pt_Pro 176 I_Pro_perform_170 = true := by decide +kernel
def I_Pro_perform_176 : List IT := [(176, .aload_n 0, 1, 0, 0, []), (177, .iload_n 1, 1, 0, 0, []), (178, .invokevirtual 113, 3, 0, 0, []), (181, .ireturn, 1, 0, 0, [])]
theorem ok_Pro_perform_176 : blkOK b_Pro_perform pt_Pro 182 I_Pro_perform_176 = true := by decide +kernel
def I_Pro_perform_182 : List IT := [(182, .iload_n 1, 1, 0, 0, []), (183, .sipush 254, 3, 254, 0, []), (186, .if_icmp .lt 20, 3, 0, 206, []), (189, .aload_n 0, 1, 0, 0, []), (190, .iload_n 1, 1, 0, 0, []), (191, .sipush 255, 3, 255, 0, []), (194, .if_icmp .ne 7, 3, 0, 201, []), (197, .iconst 1, 1, 1, 0, []), (198, .goto 4, 3, 0, 202, [])]
theorem ok_Pro_perform_182 : blkOK b_Pro_perform pt_Pro 201 I_Pro_perform_182 = true := by decide +kernel
def I_Pro_perform_201 : List IT := [(201, .iconst 0, 1, 0, 0, [])]
theorem ok_Pro_perform_201 : blkOK b_Pro_perform pt_Pro 202 I_Pro_perform_201 = true := by decide +kernel
def I_Pro_perform_202 : List IT := [(202, .invokevirtual 116, 3, 0, 0, []), (205, .ireturn, 1, 0, 0, [])]
theorem ok_Pro_perform_202 : blkOK b_Pro_perform pt_Pro 206 I_Pro_perform_202 = true := by decide +kernel
def I_Pro_perform_206 : List IT := [(206, .iload_n 1, 1, 0, 0, []), (207, .sipush 248, 3, 248, 0, []), (210, .if_icmp .ge 11, 3, 0, 221, []), (213, .aload_n 0, 1, 0, 0, []), (214, .iload_n 1, 1, 0, 0, []), (215, .invokevirtual 120, 3, 0, 0, []), (218, .goto 8, 3, 0, 226, [])]
theorem ok_Pro_perform_206 : blkOK b_Pro_perform pt_Pro 221 I_Pro_perform_206 = true := by decide +kernel
def I_Pro_perform_221 : List IT := [(221, .aload_n 0, 1, 0, 0, []), (222, .iload_n 1, 1, 0, 0, []), (223, .invokevirtual 123, 3, 0, 0, [])]
theorem ok_Pro_perform_221 : blkOK b_Pro_perform pt_Pro 226 I_Pro_perform_221 = true := by decide +kernel
def I_Pro_perform_226 : List IT := [(226, .ireturn, 1, 0, 0, [])]
theorem ok_Pro_perform_226 : blkOK b_Pro_perform pt_Pro 227 I_Pro_perform_226 = true := by decide +kernel
def I_Pro_perform_227 : List IT := [(227, .iconst 0, 1, 0, 0, []), (228, .ireturn, 1, 0, 0, [])]
theorem ok_Pro_perform_227 : blkOK b_Pro_perform pt_Pro 229 I_Pro_perform_227 = true := by decide +kernel
def f_Pro_perform_80 (σ : Sg) (x1 : Int32) : Int32 × Sg := (if (6 : Int32) ≤ (x1 &&& (7 : Int32)) then (bnd (f_Pro_segmentOnStack σ x1) fun r2 => (r2.1, r2.2)) else (bnd (f_Pro_combine σ x1) fun r3 => (r3.1, r3.2)))
theorem z_Pro_perform_80 {σ : Sg} {x1 : Int32}  (hc : ¬ x1 < 0) : (f_Pro_perform_80 σ x1).1 = 0 ∨ (f_Pro_perform_80 σ x1).1 = 1 := by
  show Zb (f_Pro_perform_80 σ x1)
  unfold f_Pro_perform_80
  refine ite_z (fun h1 => ?_) (fun h1 => ?_)
  · refine bnd_zz (Z := Zb) (z_Pro_segmentOnStack (by assumption)) fun r2 e2 z2 => ?_
    exact z2
  · refine bnd_zz (Z := Zb) (z_Pro_combine) fun r3 e3 z3 => ?_
    exact z3
abbrev w_Pro_perform_80 : List (Nat × Option Nat) := [(2, none), (3, some 2), (4, none), (5, none), (6, some 0), (12, some 8), (14, some 5), (14, some 6), (14, some 7), (14, some 9), (14, some 10), (14, some 11)]
theorem p_Pro_perform_80 {P : Sg → Prop} (hP : WP w_Pro_perform_80 P) {σ : Sg} {x1 : Int32} (h : P σ) : PP P (f_Pro_perform_80 σ x1) := by
  unfold f_Pro_perform_80
  refine ite_z (fun _ => ?_) (fun _ => ?_)
  · refine bnd_zz (Z := PP P) (p_Pro_segmentOnStack (wsub hP rfl) h) fun r2 e2 q2 => ?_
    exact q2
  · refine bnd_zz (Z := PP P) (p_Pro_combine (wsub hP rfl) h) fun r3 e3 q3 => ?_
    exact q3
set_option maxRecDepth 100000 in
set_option maxHeartbeats 4000000 in
theorem b_Pro_perform_80 {l : Launch} {ad : Nat → Nat} {D : va_G} {cI : ClassId} {K : Option Value → Sg → Prop} {X : Nat → List Value → List Value → Sg → Prop} (hX : Cl l ad D cI mi_Pro_perform pt_Pro K X) {σ : Sg} {x1 : Int32}  (hc : ¬ x1 < 0) (hK : KI K (f_Pro_perform_80 σ x1)) : X 80 [.ref 12, .int x1] [] σ := by
  unfold f_Pro_perform_80 at hK
  refine hX.1 97 I_Pro_perform_80 ok_Pro_perform_80 _ _ _ ?_
  refine And.intro (fun h1 => ?_) (fun h1 => ?_)
  · have hK := ite_p hK h1
    refine hX.1 102 I_Pro_perform_97 ok_Pro_perform_97 _ _ _ ?_
    refine s_Pro_segmentOnStack (by assumption) (bnd_g hK fun r2 e2 hK => ?_)
    have z2 : r2.1 = 0 ∨ r2.1 = 1 := by rw [← e2]; exact z_Pro_segmentOnStack (by assumption)
    refine hX.1 103 I_Pro_perform_102 ok_Pro_perform_102 _ _ _ ?_
    exact And.intro z2 hK
  · have hK := ite_n hK h1
    refine s_Pro_combine (bnd_g hK fun r3 e3 hK => ?_)
    have z3 : r3.1 = 0 ∨ r3.1 = 1 := by rw [← e3]; exact z_Pro_combine
    refine hX.1 103 I_Pro_perform_102 ok_Pro_perform_102 _ _ _ ?_
    exact And.intro z3 hK
def f_Pro_perform_202 (σ : Sg) (y0 : Int32) : Int32 × Sg := (bnd (f_Pro_countOperand σ y0) fun r1 => (r1.1, r1.2))
theorem z_Pro_perform_202 {σ : Sg} {y0 : Int32} (z_y0 : y0 = 0 ∨ y0 = 1)  : (f_Pro_perform_202 σ y0).1 = 0 ∨ (f_Pro_perform_202 σ y0).1 = 1 := by
  show Zb (f_Pro_perform_202 σ y0)
  unfold f_Pro_perform_202
  refine bnd_zz (Z := Zb) (z_Pro_countOperand z_y0) fun r1 e1 z1 => ?_
  exact z1
abbrev w_Pro_perform_202 : List (Nat × Option Nat) := [(2, none), (3, some 2), (4, none), (6, some 0), (14, some 5), (14, some 6), (14, some 7), (14, some 9), (14, some 10), (14, some 11)]
theorem p_Pro_perform_202 {P : Sg → Prop} (hP : WP w_Pro_perform_202 P) {σ : Sg} {y0 : Int32} (h : P σ) : PP P (f_Pro_perform_202 σ y0) := by
  unfold f_Pro_perform_202
  refine bnd_zz (Z := PP P) (p_Pro_countOperand (wsub hP rfl) h) fun r1 e1 q1 => ?_
  exact q1
set_option maxRecDepth 100000 in
set_option maxHeartbeats 4000000 in
theorem b_Pro_perform_202 {l : Launch} {ad : Nat → Nat} {D : va_G} {cI : ClassId} {K : Option Value → Sg → Prop} {X : Nat → List Value → List Value → Sg → Prop} (hX : Cl l ad D cI mi_Pro_perform pt_Pro K X) {σ : Sg} {y0 : Int32} (z_y0 : y0 = 0 ∨ y0 = 1)  (hK : KI K (f_Pro_perform_202 σ y0)) : X 202 [.null, .null] [.int y0, .ref 12] σ := by
  unfold f_Pro_perform_202 at hK
  refine hX.1 206 I_Pro_perform_202 ok_Pro_perform_202 _ _ _ ?_
  refine s_Pro_countOperand z_y0 (bnd_g hK fun r1 e1 hK => ?_)
  have z1 : r1.1 = 0 ∨ r1.1 = 1 := by rw [← e1]; exact z_Pro_countOperand z_y0
  exact And.intro z1 hK
def f_Pro_perform (σ : Sg) (a1 : Int32) : Int32 × Sg := (if (a1 >>> ((4 : Int32) &&& 31 : Int32)) = (0 : Int32) then (f_Pro_perform_80 σ a1) else (if (a1 >>> ((4 : Int32) &&& 31 : Int32)) = (1 : Int32) then (f_Pro_perform_80 σ a1) else (if (a1 >>> ((4 : Int32) &&& 31 : Int32)) = (2 : Int32) then (f_Pro_perform_80 σ a1) else (if (a1 >>> ((4 : Int32) &&& 31 : Int32)) = (3 : Int32) then (f_Pro_perform_80 σ a1) else (if (a1 >>> ((4 : Int32) &&& 31 : Int32)) = (4 : Int32) then (bnd (f_Pro_countRegister σ a1) fun r6 => (r6.1, r6.2)) else (if (a1 >>> ((4 : Int32) &&& 31 : Int32)) = (5 : Int32) then (bnd (f_Pro_registerOnStack σ a1) fun r8 => (r8.1, r8.2)) else (if (a1 >>> ((4 : Int32) &&& 31 : Int32)) = (6 : Int32) then ((0 : Int32), σ) else (if (a1 >>> ((4 : Int32) &&& 31 : Int32)) = (7 : Int32) then (bnd (f_Pro_jumpIf σ (a1 &&& (15 : Int32))) fun r11 => (r11.1, r11.2)) else (if (a1 >>> ((4 : Int32) &&& 31 : Int32)) = (8 : Int32) then (if (136 : Int32) ≤ a1 then (bnd (f_Pro_move σ a1) fun r14 => (r14.1, r14.2)) else (bnd (f_Pro_combineGiven σ a1) fun r15 => (r15.1, r15.2))) else (if (a1 >>> ((4 : Int32) &&& 31 : Int32)) = (9 : Int32) then (if a1 = (144 : Int32) then ((1 : Int32), σ) else ((0 : Int32), σ)) else (if (a1 >>> ((4 : Int32) &&& 31 : Int32)) = (10 : Int32) then (bnd (f_Pro_string σ a1) fun r19 => (r19.1, r19.2)) else (if (a1 >>> ((4 : Int32) &&& 31 : Int32)) = (11 : Int32) then (bnd (f_Pro_moveGiven σ a1) fun r21 => (r21.1, r21.2)) else (if (a1 >>> ((4 : Int32) &&& 31 : Int32)) = (12 : Int32) then (bnd (f_Pro_leave σ a1) fun r23 => (r23.1, r23.2)) else (if (a1 >>> ((4 : Int32) &&& 31 : Int32)) = (13 : Int32) then ((0 : Int32), σ) else (if (a1 >>> ((4 : Int32) &&& 31 : Int32)) = (14 : Int32) then (bnd (f_Pro_jumpOrPort σ a1) fun r26 => (r26.1, r26.2)) else (if (a1 >>> ((4 : Int32) &&& 31 : Int32)) = (15 : Int32) then (if a1 < (254 : Int32) then (if (248 : Int32) ≤ a1 then (bnd (f_Pro_setFlag σ a1) fun r30 => (r30.1, r30.2)) else (bnd (f_Pro_haltOrUnary σ a1) fun r31 => (r31.1, r31.2))) else (if a1 = (255 : Int32) then (f_Pro_perform_202 σ (1 : Int32)) else (f_Pro_perform_202 σ (0 : Int32)))) else ((0 : Int32), σ)))))))))))))))))
theorem z_Pro_perform {σ : Sg} {a1 : Int32}  (hc : ¬ a1 < 0) : (f_Pro_perform σ a1).1 = 0 ∨ (f_Pro_perform σ a1).1 = 1 := by
  show Zb (f_Pro_perform σ a1)
  unfold f_Pro_perform
  refine ite_z (fun h1 => ?_) (fun h1 => ?_)
  · exact z_Pro_perform_80  hc
  refine ite_z (fun h2 => ?_) (fun h2 => ?_)
  · exact z_Pro_perform_80  hc
  refine ite_z (fun h3 => ?_) (fun h3 => ?_)
  · exact z_Pro_perform_80  hc
  refine ite_z (fun h4 => ?_) (fun h4 => ?_)
  · exact z_Pro_perform_80  hc
  refine ite_z (fun h5 => ?_) (fun h5 => ?_)
  · refine bnd_zz (Z := Zb) (z_Pro_countRegister) fun r6 e6 z6 => ?_
    exact z6
  refine ite_z (fun h7 => ?_) (fun h7 => ?_)
  · refine bnd_zz (Z := Zb) (z_Pro_registerOnStack) fun r8 e8 z8 => ?_
    exact z8
  refine ite_z (fun h9 => ?_) (fun h9 => ?_)
  · exact (Or.inl rfl)
  refine ite_z (fun h10 => ?_) (fun h10 => ?_)
  · refine bnd_zz (Z := Zb) (z_Pro_jumpIf) fun r11 e11 z11 => ?_
    exact z11
  refine ite_z (fun h12 => ?_) (fun h12 => ?_)
  · refine ite_z (fun h13 => ?_) (fun h13 => ?_)
    · refine bnd_zz (Z := Zb) (z_Pro_move) fun r14 e14 z14 => ?_
      exact z14
    · refine bnd_zz (Z := Zb) (z_Pro_combineGiven) fun r15 e15 z15 => ?_
      exact z15
  refine ite_z (fun h16 => ?_) (fun h16 => ?_)
  · refine ite_z (fun h17 => ?_) (fun h17 => ?_)
    · exact (Or.inr rfl)
    · exact (Or.inl rfl)
  refine ite_z (fun h18 => ?_) (fun h18 => ?_)
  · refine bnd_zz (Z := Zb) (z_Pro_string) fun r19 e19 z19 => ?_
    exact z19
  refine ite_z (fun h20 => ?_) (fun h20 => ?_)
  · refine bnd_zz (Z := Zb) (z_Pro_moveGiven) fun r21 e21 z21 => ?_
    exact z21
  refine ite_z (fun h22 => ?_) (fun h22 => ?_)
  · refine bnd_zz (Z := Zb) (z_Pro_leave) fun r23 e23 z23 => ?_
    exact z23
  refine ite_z (fun h24 => ?_) (fun h24 => ?_)
  · exact (Or.inl rfl)
  refine ite_z (fun h25 => ?_) (fun h25 => ?_)
  · refine bnd_zz (Z := Zb) (z_Pro_jumpOrPort) fun r26 e26 z26 => ?_
    exact z26
  refine ite_z (fun h27 => ?_) (fun h27 => ?_)
  · refine ite_z (fun h28 => ?_) (fun h28 => ?_)
    · refine ite_z (fun h29 => ?_) (fun h29 => ?_)
      · refine bnd_zz (Z := Zb) (z_Pro_setFlag) fun r30 e30 z30 => ?_
        exact z30
      · refine bnd_zz (Z := Zb) (z_Pro_haltOrUnary) fun r31 e31 z31 => ?_
        exact z31
    · refine ite_z (fun h32 => ?_) (fun h32 => ?_)
      · exact z_Pro_perform_202 (Or.inr rfl)
      · exact z_Pro_perform_202 (Or.inl rfl)
  exact (Or.inl rfl)
abbrev w_Pro_perform : List (Nat × Option Nat) := [(2, none), (3, some 2), (4, none), (5, none), (6, some 0), (7, some 0), (7, some 1), (7, some 2), (7, some 3), (8, some 1), (8, some 2), (8, some 3), (8, some 4), (8, some 5), (8, some 6), (9, some 2), (10, none), (11, some 2), (11, some 3), (11, some 4), (11, some 5), (11, some 6), (11, some 7), (12, some 6), (12, some 7), (12, some 8), (14, some 5), (14, some 6), (14, some 7), (14, some 9), (14, some 10), (14, some 11)]
theorem p_Pro_perform {P : Sg → Prop} (hP : WP w_Pro_perform P) {σ : Sg} {a1 : Int32} (h : P σ) : PP P (f_Pro_perform σ a1) := by
  unfold f_Pro_perform
  refine ite_z (fun _ => ?_) (fun _ => ?_)
  · exact p_Pro_perform_80 (wsub hP rfl) h
  refine ite_z (fun _ => ?_) (fun _ => ?_)
  · exact p_Pro_perform_80 (wsub hP rfl) h
  refine ite_z (fun _ => ?_) (fun _ => ?_)
  · exact p_Pro_perform_80 (wsub hP rfl) h
  refine ite_z (fun _ => ?_) (fun _ => ?_)
  · exact p_Pro_perform_80 (wsub hP rfl) h
  refine ite_z (fun _ => ?_) (fun _ => ?_)
  · refine bnd_zz (Z := PP P) (p_Pro_countRegister (wsub hP rfl) h) fun r6 e6 q6 => ?_
    exact q6
  refine ite_z (fun _ => ?_) (fun _ => ?_)
  · refine bnd_zz (Z := PP P) (p_Pro_registerOnStack (wsub hP rfl) h) fun r8 e8 q8 => ?_
    exact q8
  refine ite_z (fun _ => ?_) (fun _ => ?_)
  · exact h
  refine ite_z (fun _ => ?_) (fun _ => ?_)
  · refine bnd_zz (Z := PP P) (p_Pro_jumpIf (wsub hP rfl) h) fun r11 e11 q11 => ?_
    exact q11
  refine ite_z (fun _ => ?_) (fun _ => ?_)
  · refine ite_z (fun _ => ?_) (fun _ => ?_)
    · refine bnd_zz (Z := PP P) (p_Pro_move (wsub hP rfl) h) fun r14 e14 q14 => ?_
      exact q14
    · refine bnd_zz (Z := PP P) (p_Pro_combineGiven (wsub hP rfl) h) fun r15 e15 q15 => ?_
      exact q15
  refine ite_z (fun _ => ?_) (fun _ => ?_)
  · refine ite_z (fun _ => ?_) (fun _ => ?_)
    · exact h
    · exact h
  refine ite_z (fun _ => ?_) (fun _ => ?_)
  · refine bnd_zz (Z := PP P) (p_Pro_string (wsub hP rfl) h) fun r19 e19 q19 => ?_
    exact q19
  refine ite_z (fun _ => ?_) (fun _ => ?_)
  · refine bnd_zz (Z := PP P) (p_Pro_moveGiven (wsub hP rfl) h) fun r21 e21 q21 => ?_
    exact q21
  refine ite_z (fun _ => ?_) (fun _ => ?_)
  · refine bnd_zz (Z := PP P) (p_Pro_leave (wsub hP rfl) h) fun r23 e23 q23 => ?_
    exact q23
  refine ite_z (fun _ => ?_) (fun _ => ?_)
  · exact h
  refine ite_z (fun _ => ?_) (fun _ => ?_)
  · refine bnd_zz (Z := PP P) (p_Pro_jumpOrPort (wsub hP rfl) h) fun r26 e26 q26 => ?_
    exact q26
  refine ite_z (fun _ => ?_) (fun _ => ?_)
  · refine ite_z (fun _ => ?_) (fun _ => ?_)
    · refine ite_z (fun _ => ?_) (fun _ => ?_)
      · refine bnd_zz (Z := PP P) (p_Pro_setFlag (wsub hP rfl) h) fun r30 e30 q30 => ?_
        exact q30
      · refine bnd_zz (Z := PP P) (p_Pro_haltOrUnary (wsub hP rfl) h) fun r31 e31 q31 => ?_
        exact q31
    · refine ite_z (fun _ => ?_) (fun _ => ?_)
      · exact p_Pro_perform_202 (wsub hP rfl) h
      · exact p_Pro_perform_202 (wsub hP rfl) h
  exact h
set_option maxRecDepth 100000 in
set_option maxHeartbeats 4000000 in
theorem s_Pro_perform {l : Launch} {ad : Nat → Nat} {D : va_G} {cI : ClassId} {σ : Sg} {a1 : Int32} {K : Option Value → Sg → Prop}  (hc : ¬ a1 < 0) (hK : KI K (f_Pro_perform σ a1)) : MetJ l ad D cI mi_Pro_perform [.ref 12, .int a1] σ K := by
  refine met_of mi_Pro_perform pt_Pro pt_Pro_in rfl pl_Pro rfl (Nat.le_of_ble_eq_true rfl) fun X hX => ?_
  have hX : Cl l ad D cI mi_Pro_perform pt_Pro K X := hX
  show X 0 [.ref 12, .int a1] [] σ
  unfold f_Pro_perform at hK
  refine hX.1 80 I_Pro_perform_0 ok_Pro_perform_0 _ _ _ ?_
  refine And.intro (fun h1 => ?_) (fun h1 => ?_)
  · have hK := ite_p hK h1
    exact b_Pro_perform_80 hX hc hK
  have hK := ite_n hK h1
  refine And.intro (fun h2 => ?_) (fun h2 => ?_)
  · have hK := ite_p hK h2
    exact b_Pro_perform_80 hX hc hK
  have hK := ite_n hK h2
  refine And.intro (fun h3 => ?_) (fun h3 => ?_)
  · have hK := ite_p hK h3
    exact b_Pro_perform_80 hX hc hK
  have hK := ite_n hK h3
  refine And.intro (fun h4 => ?_) (fun h4 => ?_)
  · have hK := ite_p hK h4
    exact b_Pro_perform_80 hX hc hK
  have hK := ite_n hK h4
  refine And.intro (fun h5 => ?_) (fun h5 => ?_)
  · have hK := ite_p hK h5
    refine hX.1 109 I_Pro_perform_103 ok_Pro_perform_103 _ _ _ ?_
    refine s_Pro_countRegister (bnd_g hK fun r6 e6 hK => ?_)
    have z6 : r6.1 = 0 ∨ r6.1 = 1 := by rw [← e6]; exact z_Pro_countRegister
    exact And.intro z6 hK
  have hK := ite_n hK h5
  refine And.intro (fun h7 => ?_) (fun h7 => ?_)
  · have hK := ite_p hK h7
    refine hX.1 115 I_Pro_perform_109 ok_Pro_perform_109 _ _ _ ?_
    refine s_Pro_registerOnStack (bnd_g hK fun r8 e8 hK => ?_)
    have z8 : r8.1 = 0 ∨ r8.1 = 1 := by rw [← e8]; exact z_Pro_registerOnStack
    exact And.intro z8 hK
  have hK := ite_n hK h7
  refine And.intro (fun h9 => ?_) (fun h9 => ?_)
  · have hK := ite_p hK h9
    refine hX.1 229 I_Pro_perform_227 ok_Pro_perform_227 _ _ _ ?_
    exact And.intro (Or.inl rfl) hK
  have hK := ite_n hK h9
  refine And.intro (fun h10 => ?_) (fun h10 => ?_)
  · have hK := ite_p hK h10
    refine hX.1 124 I_Pro_perform_115 ok_Pro_perform_115 _ _ _ ?_
    refine s_Pro_jumpIf (bnd_g hK fun r11 e11 hK => ?_)
    have z11 : r11.1 = 0 ∨ r11.1 = 1 := by rw [← e11]; exact z_Pro_jumpIf
    exact And.intro z11 hK
  have hK := ite_n hK h10
  refine And.intro (fun h12 => ?_) (fun h12 => ?_)
  · have hK := ite_p hK h12
    refine hX.1 139 I_Pro_perform_124 ok_Pro_perform_124 _ _ _ ?_
    refine And.intro (fun h13 => ?_) (fun h13 => ?_)
    · have hK := ite_p hK h13
      refine hX.1 144 I_Pro_perform_139 ok_Pro_perform_139 _ _ _ ?_
      refine s_Pro_move (bnd_g hK fun r14 e14 hK => ?_)
      have z14 : r14.1 = 0 ∨ r14.1 = 1 := by rw [← e14]; exact z_Pro_move
      refine hX.1 145 I_Pro_perform_144 ok_Pro_perform_144 _ _ _ ?_
      exact And.intro z14 hK
    · have hK := ite_n hK h13
      refine s_Pro_combineGiven (bnd_g hK fun r15 e15 hK => ?_)
      have z15 : r15.1 = 0 ∨ r15.1 = 1 := by rw [← e15]; exact z_Pro_combineGiven
      refine hX.1 145 I_Pro_perform_144 ok_Pro_perform_144 _ _ _ ?_
      exact And.intro z15 hK
  have hK := ite_n hK h12
  refine And.intro (fun h16 => ?_) (fun h16 => ?_)
  · have hK := ite_p hK h16
    refine hX.1 156 I_Pro_perform_145 ok_Pro_perform_145 _ _ _ ?_
    refine And.intro (fun h17 => ?_) (fun h17 => ?_)
    · have hK := ite_p hK h17
      refine hX.1 158 I_Pro_perform_157 ok_Pro_perform_157 _ _ _ ?_
      exact And.intro (Or.inr rfl) hK
    · have hK := ite_n hK h17
      refine hX.1 157 I_Pro_perform_156 ok_Pro_perform_156 _ _ _ ?_
      refine hX.1 158 I_Pro_perform_157 ok_Pro_perform_157 _ _ _ ?_
      exact And.intro (Or.inl rfl) hK
  have hK := ite_n hK h16
  refine And.intro (fun h18 => ?_) (fun h18 => ?_)
  · have hK := ite_p hK h18
    refine hX.1 164 I_Pro_perform_158 ok_Pro_perform_158 _ _ _ ?_
    refine s_Pro_string (bnd_g hK fun r19 e19 hK => ?_)
    have z19 : r19.1 = 0 ∨ r19.1 = 1 := by rw [← e19]; exact z_Pro_string
    exact And.intro z19 hK
  have hK := ite_n hK h18
  refine And.intro (fun h20 => ?_) (fun h20 => ?_)
  · have hK := ite_p hK h20
    refine hX.1 170 I_Pro_perform_164 ok_Pro_perform_164 _ _ _ ?_
    refine s_Pro_moveGiven (bnd_g hK fun r21 e21 hK => ?_)
    have z21 : r21.1 = 0 ∨ r21.1 = 1 := by rw [← e21]; exact z_Pro_moveGiven
    exact And.intro z21 hK
  have hK := ite_n hK h20
  refine And.intro (fun h22 => ?_) (fun h22 => ?_)
  · have hK := ite_p hK h22
    refine hX.1 176 I_Pro_perform_170 ok_Pro_perform_170 _ _ _ ?_
    refine s_Pro_leave (bnd_g hK fun r23 e23 hK => ?_)
    have z23 : r23.1 = 0 ∨ r23.1 = 1 := by rw [← e23]; exact z_Pro_leave
    exact And.intro z23 hK
  have hK := ite_n hK h22
  refine And.intro (fun h24 => ?_) (fun h24 => ?_)
  · have hK := ite_p hK h24
    refine hX.1 229 I_Pro_perform_227 ok_Pro_perform_227 _ _ _ ?_
    exact And.intro (Or.inl rfl) hK
  have hK := ite_n hK h24
  refine And.intro (fun h25 => ?_) (fun h25 => ?_)
  · have hK := ite_p hK h25
    refine hX.1 182 I_Pro_perform_176 ok_Pro_perform_176 _ _ _ ?_
    refine s_Pro_jumpOrPort (bnd_g hK fun r26 e26 hK => ?_)
    have z26 : r26.1 = 0 ∨ r26.1 = 1 := by rw [← e26]; exact z_Pro_jumpOrPort
    exact And.intro z26 hK
  have hK := ite_n hK h25
  refine And.intro (fun h27 => ?_) (fun h27 => ?_)
  · have hK := ite_p hK h27
    refine hX.1 201 I_Pro_perform_182 ok_Pro_perform_182 _ _ _ ?_
    refine And.intro (fun h28 => ?_) (fun h28 => ?_)
    · have hK := ite_p hK h28
      refine hX.1 221 I_Pro_perform_206 ok_Pro_perform_206 _ _ _ ?_
      refine And.intro (fun h29 => ?_) (fun h29 => ?_)
      · have hK := ite_p hK h29
        refine hX.1 226 I_Pro_perform_221 ok_Pro_perform_221 _ _ _ ?_
        refine s_Pro_setFlag (bnd_g hK fun r30 e30 hK => ?_)
        have z30 : r30.1 = 0 ∨ r30.1 = 1 := by rw [← e30]; exact z_Pro_setFlag
        refine hX.1 227 I_Pro_perform_226 ok_Pro_perform_226 _ _ _ ?_
        exact And.intro z30 hK
      · have hK := ite_n hK h29
        refine s_Pro_haltOrUnary (bnd_g hK fun r31 e31 hK => ?_)
        have z31 : r31.1 = 0 ∨ r31.1 = 1 := by rw [← e31]; exact z_Pro_haltOrUnary
        refine hX.1 227 I_Pro_perform_226 ok_Pro_perform_226 _ _ _ ?_
        exact And.intro z31 hK
    · have hK := ite_n hK h28
      refine And.intro (fun h32 => ?_) (fun h32 => ?_)
      · have hK := ite_p hK h32
        refine hX.fg [0, 1] ?_
        exact b_Pro_perform_202 hX (Or.inr rfl) hK
      · have hK := ite_n hK h32
        refine hX.1 202 I_Pro_perform_201 ok_Pro_perform_201 _ _ _ ?_
        refine hX.fg [0, 1] ?_
        exact b_Pro_perform_202 hX (Or.inl rfl) hK
  have hK := ite_n hK h27
  refine hX.1 229 I_Pro_perform_227 ok_Pro_perform_227 _ _ _ ?_
  exact And.intro (Or.inl rfl) hK
def I_Pro_advance_0 : List IT := [(0, .aload_n 0, 1, 0, 0, []), (1, .getfield 17, 3, 0, 0, []), (4, .sipush 512, 3, 512, 0, []), (7, .invokevirtual 40, 3, 0, 0, []), (10, .ifCond .eq 20, 3, 0, 30, []), (13, .aload_n 0, 1, 0, 0, []), (14, .getfield 44, 3, 0, 0, []), (17, .ifCond .ne 13, 3, 0, 30, []), (20, .aload_n 0, 1, 0, 0, []), (21, .getfield 21, 3, 0, 0, []), (24, .invokevirtual 48, 3, 0, 0, []), (27, .goto 4, 3, 0, 31, [])]
theorem ok_Pro_advance_0 : blkOK b_Pro_advance pt_Pro 30 I_Pro_advance_0 = true := by decide +kernel
def I_Pro_advance_30 : List IT := [(30, .iconst (-1), 1, (-1), 0, [])]
theorem ok_Pro_advance_30 : blkOK b_Pro_advance pt_Pro 31 I_Pro_advance_30 = true := by decide +kernel
def I_Pro_advance_31 : List IT := [(31, .istore_n 1, 1, 0, 0, []), (32, .aload_n 0, 1, 0, 0, []), (33, .iconst 0, 1, 0, 0, []), (34, .putfield 44, 3, 0, 0, []), (37, .iload_n 1, 1, 0, 0, []), (38, .ifCond .lt 27, 3, 0, 65, []), (41, .aload_n 0, 1, 0, 0, []), (42, .getfield 21, 3, 0, 0, []), (45, .iload_n 1, 1, 0, 0, []), (46, .invokevirtual 54, 3, 0, 0, []), (49, .aload_n 0, 1, 0, 0, []), (50, .iconst 0, 1, 0, 0, []), (51, .putfield 58, 3, 0, 0, []), (54, .aload_n 0, 1, 0, 0, []), (55, .bipush 8, 2, 8, 0, []), (57, .iload_n 1, 1, 0, 0, []), (58, .iadd, 1, 0, 0, []), (59, .invokevirtual 61, 3, 0, 0, []), (62, .goto 54, 3, 0, 116, [])]
theorem ok_Pro_advance_31 : blkOK b_Pro_advance pt_Pro 65 I_Pro_advance_31 = true := by decide +kernel
def I_Pro_advance_65 : List IT := [(65, .aload_n 0, 1, 0, 0, []), (66, .getfield 58, 3, 0, 0, []), (69, .ifCond .ne 47, 3, 0, 116, []), (72, .aload_n 0, 1, 0, 0, []), (73, .getfield 34, 3, 0, 0, []), (76, .invokevirtual 64, 3, 0, 0, []), (79, .ifCond .eq 17, 3, 0, 96, []), (82, .aload_n 0, 1, 0, 0, []), (83, .aload_n 0, 1, 0, 0, []), (84, .getfield 34, 3, 0, 0, []), (87, .getfield 68, 3, 0, 0, []), (90, .invokevirtual 72, 3, 0, 0, []), (93, .ifCond .ne 23, 3, 0, 116, [])]
theorem ok_Pro_advance_65 : blkOK b_Pro_advance pt_Pro 96 I_Pro_advance_65 = true := by decide +kernel
def I_Pro_advance_96 : List IT := [(96, .aload_n 0, 1, 0, 0, []), (97, .getfield 13, 3, 0, 0, []), (100, .aload_n 0, 1, 0, 0, []), (101, .getfield 34, 3, 0, 0, []), (104, .getfield 75, 3, 0, 0, []), (107, .putfield 78, 3, 0, 0, []), (110, .aload_n 0, 1, 0, 0, []), (111, .bipush 6, 2, 6, 0, []), (113, .invokevirtual 61, 3, 0, 0, [])]
theorem ok_Pro_advance_96 : blkOK b_Pro_advance pt_Pro 116 I_Pro_advance_96 = true := by decide +kernel
def I_Pro_advance_116 : List IT := [(116, .return_, 1, 0, 0, [])]
theorem ok_Pro_advance_116 : blkOK b_Pro_advance pt_Pro 117 I_Pro_advance_116 = true := by decide +kernel
def f_Pro_advance_96 (σ : Sg)  : Sg := (bnd (up2 σ 3 2 (σ 14 2)) fun s1 => bnd (f_Pro_interrupt s1 (6 : Int32)) fun r2 => r2)
abbrev w_Pro_advance_96 : List (Nat × Option Nat) := [(2, none), (3, some 2), (4, none), (5, none), (6, some 0), (12, some 7)]
theorem p_Pro_advance_96 {P : Sg → Prop} (hP : WP w_Pro_advance_96 P) {σ : Sg}  (h : P σ) : P (f_Pro_advance_96 σ ) := by
  unfold f_Pro_advance_96
  refine bnd_zz (Z := P) (hP _ _ _ _ (Or.inr (by decide)) h) fun s1 e1 q1 => ?_
  refine bnd_zz (Z := P) (p_Pro_interrupt (wsub hP rfl) q1) fun r2 e2 q2 => ?_
  exact q2
set_option maxRecDepth 100000 in
set_option maxHeartbeats 4000000 in
theorem b_Pro_advance_96 {l : Launch} {ad : Nat → Nat} {D : va_G} {cI : ClassId} {K : Option Value → Sg → Prop} {X : Nat → List Value → List Value → Sg → Prop} (hX : Cl l ad D cI mi_Pro_advance pt_Pro K X) {σ : Sg}    (hK : KV K (f_Pro_advance_96 σ )) : X 96 [.ref 12, .null] [] σ := by
  unfold f_Pro_advance_96 at hK
  refine hX.1 116 I_Pro_advance_96 ok_Pro_advance_96 _ _ _ ?_
  refine And.intro trivial (SG_g hK fun s1 e1 hK => ?_)
  refine s_Pro_interrupt (bnd_g hK fun r2 e2 hK => ?_)
  refine hX.1 117 I_Pro_advance_116 ok_Pro_advance_116 _ _ _ ?_
  exact hK
def f_Pro_advance_31 (σ : Sg) (y0 : Int32) : Sg := (bnd (up2 σ 12 8 (0 : Int32)) fun s1 => (if y0 < (0 : Int32) then (if (s1 12 6) = (0 : Int32) then (bnd (f_Dec_begin s1) fun r4 => (if r4.1 = (0 : Int32) then (f_Pro_advance_96 r4.2) else (bnd (f_Pro_perform r4.2 (r4.2 14 3)) fun r6 => (if r6.1 = (0 : Int32) then (f_Pro_advance_96 r6.2) else r6.2)))) else s1) else (bnd (f_Ctl_give s1 y0) fun r8 => bnd (up2 r8 12 6 (0 : Int32)) fun s9 => bnd (f_Pro_interrupt s9 ((8 : Int32) + y0)) fun r10 => r10)))
abbrev w_Pro_advance_31 : List (Nat × Option Nat) := [(2, none), (3, some 2), (4, none), (5, none), (6, some 0), (7, some 0), (7, some 1), (7, some 2), (7, some 3), (8, some 1), (8, some 2), (8, some 3), (8, some 4), (8, some 5), (8, some 6), (9, some 2), (10, none), (11, some 2), (11, some 3), (11, some 4), (11, some 5), (11, some 6), (11, some 7), (12, some 6), (12, some 7), (12, some 8), (14, some 2), (14, some 3), (14, some 4), (14, some 5), (14, some 6), (14, some 7), (14, some 8), (14, some 9), (14, some 10), (14, some 11)]
theorem p_Pro_advance_31 {P : Sg → Prop} (hP : WP w_Pro_advance_31 P) {σ : Sg} {y0 : Int32} (h : P σ) : P (f_Pro_advance_31 σ y0) := by
  unfold f_Pro_advance_31
  refine bnd_zz (Z := P) (hP _ _ _ _ (Or.inr (by decide)) h) fun s1 e1 q1 => ?_
  refine ite_z (fun _ => ?_) (fun _ => ?_)
  · refine ite_z (fun _ => ?_) (fun _ => ?_)
    · refine bnd_zz (Z := PP P) (p_Dec_begin (wsub hP rfl) q1) fun r4 e4 q4 => ?_
      refine ite_z (fun _ => ?_) (fun _ => ?_)
      · exact p_Pro_advance_96 (wsub hP rfl) q4
      · refine bnd_zz (Z := PP P) (p_Pro_perform (wsub hP rfl) q4) fun r6 e6 q6 => ?_
        refine ite_z (fun _ => ?_) (fun _ => ?_)
        · exact p_Pro_advance_96 (wsub hP rfl) q6
        · exact q6
    · exact q1
  · refine bnd_zz (Z := P) (p_Ctl_give (wsub hP rfl) q1) fun r8 e8 q8 => ?_
    refine bnd_zz (Z := P) (hP _ _ _ _ (Or.inr (by decide)) q8) fun s9 e9 q9 => ?_
    refine bnd_zz (Z := P) (p_Pro_interrupt (wsub hP rfl) q9) fun r10 e10 q10 => ?_
    exact q10
set_option maxRecDepth 100000 in
set_option maxHeartbeats 4000000 in
theorem b_Pro_advance_31 {l : Launch} {ad : Nat → Nat} {D : va_G} {cI : ClassId} {K : Option Value → Sg → Prop} {X : Nat → List Value → List Value → Sg → Prop} (hX : Cl l ad D cI mi_Pro_advance pt_Pro K X) {σ : Sg} {y0 : Int32}  (hm : Mb σ) (hK : KV K (f_Pro_advance_31 σ y0)) : X 31 [.ref 12, .null] [.int y0] σ := by
  unfold f_Pro_advance_31 at hK
  refine hX.1 65 I_Pro_advance_31 ok_Pro_advance_31 _ _ _ ?_
  refine And.intro (Or.inl rfl) (SG_g hK fun s1 e1 hK => ?_)
  refine And.intro (fun h2 => ?_) (fun h2 => ?_)
  · have hK := ite_p hK h2
    refine hX.1 96 I_Pro_advance_65 ok_Pro_advance_65 _ _ _ ?_
    refine And.intro (fun h3 => ?_) (fun h3 => ?_)
    · have hK := ite_p hK h3
      refine s_Dec_begin (bnd_g hK fun r4 e4 hK => ?_)
      have z4 : r4.1 = 0 ∨ r4.1 = 1 := by rw [← e4]; exact z_Dec_begin
      refine And.intro (fun h5 => ?_) (fun h5 => ?_)
      · have hK := ite_p hK h5
        refine hX.fg [1] ?_
        exact b_Pro_advance_96 hX  hK
      · have hK := ite_n hK h5
        refine s_Pro_perform (by subst_vars; exact beg_code hm) (bnd_g hK fun r6 e6 hK => ?_)
        have z6 : r6.1 = 0 ∨ r6.1 = 1 := by rw [← e6]; exact z_Pro_perform (by subst_vars; exact beg_code hm)
        refine And.intro (fun h7 => ?_) (fun h7 => ?_)
        · have hK := ite_p hK h7
          refine hX.fg [1] ?_
          exact b_Pro_advance_96 hX  hK
        · have hK := ite_n hK h7
          refine hX.1 117 I_Pro_advance_116 ok_Pro_advance_116 _ _ _ ?_
          exact hK
    · have hK := ite_n hK h3
      refine hX.1 117 I_Pro_advance_116 ok_Pro_advance_116 _ _ _ ?_
      exact hK
  · have hK := ite_n hK h2
    refine s_Ctl_give (bnd_g hK fun r8 e8 hK => ?_)
    refine And.intro (Or.inl rfl) (SG_g hK fun s9 e9 hK => ?_)
    refine s_Pro_interrupt (bnd_g hK fun r10 e10 hK => ?_)
    refine hX.1 117 I_Pro_advance_116 ok_Pro_advance_116 _ _ _ ?_
    exact hK
def f_Pro_advance_30 (σ : Sg)  : Sg := (f_Pro_advance_31 σ (-1 : Int32))
abbrev w_Pro_advance_30 : List (Nat × Option Nat) := [(2, none), (3, some 2), (4, none), (5, none), (6, some 0), (7, some 0), (7, some 1), (7, some 2), (7, some 3), (8, some 1), (8, some 2), (8, some 3), (8, some 4), (8, some 5), (8, some 6), (9, some 2), (10, none), (11, some 2), (11, some 3), (11, some 4), (11, some 5), (11, some 6), (11, some 7), (12, some 6), (12, some 7), (12, some 8), (14, some 2), (14, some 3), (14, some 4), (14, some 5), (14, some 6), (14, some 7), (14, some 8), (14, some 9), (14, some 10), (14, some 11)]
theorem p_Pro_advance_30 {P : Sg → Prop} (hP : WP w_Pro_advance_30 P) {σ : Sg}  (h : P σ) : P (f_Pro_advance_30 σ ) := by
  unfold f_Pro_advance_30
  exact p_Pro_advance_31 (wsub hP rfl) h
set_option maxRecDepth 100000 in
set_option maxHeartbeats 4000000 in
theorem b_Pro_advance_30 {l : Launch} {ad : Nat → Nat} {D : va_G} {cI : ClassId} {K : Option Value → Sg → Prop} {X : Nat → List Value → List Value → Sg → Prop} (hX : Cl l ad D cI mi_Pro_advance pt_Pro K X) {σ : Sg}   (hm : Mb σ) (hK : KV K (f_Pro_advance_30 σ )) : X 30 [.ref 12, .null] [] σ := by
  unfold f_Pro_advance_30 at hK
  refine hX.1 31 I_Pro_advance_30 ok_Pro_advance_30 _ _ _ ?_
  exact b_Pro_advance_31 hX (by first | exact hm | (subst_vars; exact p_Ctl_lineToGive (P := Mb) (WP_cell (R := fun m => ∀ i, ¬ m i < 0) rfl) (p_Fla_on (P := Mb) (WP_cell (R := fun m => ∀ i, ¬ m i < 0) rfl) hm))) hK
def f_Pro_advance (σ : Sg)  : Sg := (bnd (f_Fla_on σ (512 : Int32)) fun r1 => (if r1.1 = (0 : Int32) then (f_Pro_advance_30 r1.2) else (if (r1.2 12 8) = (0 : Int32) then (bnd (f_Ctl_lineToGive r1.2) fun r4 => (f_Pro_advance_31 r4.2 r4.1)) else (f_Pro_advance_30 r1.2))))
abbrev w_Pro_advance : List (Nat × Option Nat) := [(2, none), (3, some 2), (4, none), (5, none), (6, some 0), (7, some 0), (7, some 1), (7, some 2), (7, some 3), (8, some 1), (8, some 2), (8, some 3), (8, some 4), (8, some 5), (8, some 6), (9, some 2), (10, none), (11, some 2), (11, some 3), (11, some 4), (11, some 5), (11, some 6), (11, some 7), (12, some 6), (12, some 7), (12, some 8), (14, some 2), (14, some 3), (14, some 4), (14, some 5), (14, some 6), (14, some 7), (14, some 8), (14, some 9), (14, some 10), (14, some 11)]
theorem p_Pro_advance {P : Sg → Prop} (hP : WP w_Pro_advance P) {σ : Sg}  (h : P σ) : P (f_Pro_advance σ ) := by
  unfold f_Pro_advance
  refine bnd_zz (Z := PP P) (p_Fla_on (wsub hP rfl) h) fun r1 e1 q1 => ?_
  refine ite_z (fun _ => ?_) (fun _ => ?_)
  · exact p_Pro_advance_30 (wsub hP rfl) q1
  · refine ite_z (fun _ => ?_) (fun _ => ?_)
    · refine bnd_zz (Z := PP P) (p_Ctl_lineToGive (wsub hP rfl) q1) fun r4 e4 q4 => ?_
      exact p_Pro_advance_31 (wsub hP rfl) q4
    · exact p_Pro_advance_30 (wsub hP rfl) q1
set_option maxRecDepth 100000 in
set_option maxHeartbeats 4000000 in
theorem s_Pro_advance {l : Launch} {ad : Nat → Nat} {D : va_G} {cI : ClassId} {σ : Sg}  {K : Option Value → Sg → Prop}  (hm : Mb σ) (hK : KV K (f_Pro_advance σ )) : MetJ l ad D cI mi_Pro_advance [.ref 12] σ K := by
  refine met_of mi_Pro_advance pt_Pro pt_Pro_in rfl pl_Pro rfl (Nat.le_of_ble_eq_true rfl) fun X hX => ?_
  have hX : Cl l ad D cI mi_Pro_advance pt_Pro K X := hX
  show X 0 [.ref 12, .null] [] σ
  unfold f_Pro_advance at hK
  refine hX.1 30 I_Pro_advance_0 ok_Pro_advance_0 _ _ _ ?_
  refine s_Fla_on (bnd_g hK fun r1 e1 hK => ?_)
  have z1 : r1.1 = 0 ∨ r1.1 = 1 := by rw [← e1]; exact z_Fla_on
  refine And.intro (fun h2 => ?_) (fun h2 => ?_)
  · have hK := ite_p hK h2
    exact b_Pro_advance_30 hX (by subst_vars; exact p_Fla_on (P := Mb) (WP_cell (R := fun m => ∀ i, ¬ m i < 0) rfl) hm) hK
  · have hK := ite_n hK h2
    refine And.intro (fun h3 => ?_) (fun h3 => ?_)
    · have hK := ite_p hK h3
      refine s_Ctl_lineToGive (bnd_g hK fun r4 e4 hK => ?_)
      exact b_Pro_advance_31 hX (by first | exact hm | (subst_vars; exact p_Ctl_lineToGive (P := Mb) (WP_cell (R := fun m => ∀ i, ¬ m i < 0) rfl) (p_Fla_on (P := Mb) (WP_cell (R := fun m => ∀ i, ¬ m i < 0) rfl) hm))) hK
    · have hK := ite_n hK h3
      exact b_Pro_advance_30 hX (by subst_vars; exact p_Fla_on (P := Mb) (WP_cell (R := fun m => ∀ i, ¬ m i < 0) rfl) hm) hK
