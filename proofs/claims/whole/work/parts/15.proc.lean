def I_Pro_stringOnce_0 : List IT := [(0, .iload_n 1, 1, 0, 0, []), (1, .iconst 1, 1, 1, 0, []), (2, .iand, 1, 0, 0, []), (3, .iconst 1, 1, 1, 0, []), (4, .if_icmp .ne 7, 3, 0, 11, []), (7, .iconst 1, 1, 1, 0, []), (8, .goto 4, 3, 0, 12, [])]
theorem ok_Pro_stringOnce_0 : blkOK b_Pro_stringOnce pt_Pro 11 I_Pro_stringOnce_0 = true := by decide +kernel
def I_Pro_stringOnce_11 : List IT := [(11, .iconst 0, 1, 0, 0, [])]
theorem ok_Pro_stringOnce_11 : blkOK b_Pro_stringOnce pt_Pro 12 I_Pro_stringOnce_11 = true := by decide +kernel
def I_Pro_stringOnce_12 : List IT := [(12, .istore_n 2, 1, 0, 0, []), (13, .iload_n 1, 1, 0, 0, []), (14, .bipush (-2), 2, (-2), 0, []), (16, .iand, 1, 0, 0, []), (17, .istore_n 3, 1, 0, 0, []), (18, .aload_n 0, 1, 0, 0, []), (19, .getfield 13, 3, 0, 0, []), (22, .getfield 156, 3, 0, 0, []), (25, .iconst 0, 1, 0, 0, []), (26, .iaload, 1, 0, 0, []), (27, .istore 4, 2, 0, 0, []), (29, .aload_n 0, 1, 0, 0, []), (30, .getfield 34, 3, 0, 0, []), (33, .iconst 3, 1, 3, 0, []), (34, .invokevirtual 196, 3, 0, 0, []), (37, .istore 5, 2, 0, 0, []), (39, .aload_n 0, 1, 0, 0, []), (40, .getfield 13, 3, 0, 0, []), (43, .getfield 166, 3, 0, 0, []), (46, .bipush 6, 2, 6, 0, []), (48, .iaload, 1, 0, 0, []), (49, .istore 6, 2, 0, 0, []), (51, .aload_n 0, 1, 0, 0, []), (52, .getfield 13, 3, 0, 0, []), (55, .getfield 166, 3, 0, 0, []), (58, .bipush 7, 2, 7, 0, []), (60, .iaload, 1, 0, 0, []), (61, .istore 7, 2, 0, 0, []), (63, .aload_n 0, 1, 0, 0, []), (64, .getfield 13, 3, 0, 0, []), (67, .iconst 0, 1, 0, 0, []), (68, .iload_n 2, 1, 0, 0, []), (69, .invokevirtual 130, 3, 0, 0, []), (72, .istore 8, 2, 0, 0, []), (74, .iload_n 3, 1, 0, 0, []), (75, .sipush 164, 3, 164, 0, []), (78, .if_icmp .ne 30, 3, 0, 108, []), (81, .aload_n 0, 1, 0, 0, []), (82, .getfield 7, 3, 0, 0, []), (85, .iload 4, 2, 0, 0, []), (87, .iload 7, 2, 0, 0, []), (89, .iload_n 2, 1, 0, 0, []), (90, .aload_n 0, 1, 0, 0, []), (91, .getfield 7, 3, 0, 0, []), (94, .iload 5, 2, 0, 0, []), (96, .iload 6, 2, 0, 0, []), (98, .iload_n 2, 1, 0, 0, []), (99, .invokevirtual 200, 3, 0, 0, []), (102, .invokevirtual 206, 3, 0, 0, []), (105, .goto 82, 3, 0, 187, [])]
theorem ok_Pro_stringOnce_12 : blkOK b_Pro_stringOnce pt_Pro 108 I_Pro_stringOnce_12 = true := by decide +kernel
def I_Pro_stringOnce_108 : List IT := [(108, .iload_n 3, 1, 0, 0, []), (109, .sipush 170, 3, 170, 0, []), (112, .if_icmp .ne 20, 3, 0, 132, []), (115, .aload_n 0, 1, 0, 0, []), (116, .getfield 7, 3, 0, 0, []), (119, .iload 4, 2, 0, 0, []), (121, .iload 7, 2, 0, 0, []), (123, .iload_n 2, 1, 0, 0, []), (124, .iload 8, 2, 0, 0, []), (126, .invokevirtual 206, 3, 0, 0, []), (129, .goto 58, 3, 0, 187, [])]
theorem ok_Pro_stringOnce_108 : blkOK b_Pro_stringOnce pt_Pro 132 I_Pro_stringOnce_108 = true := by decide +kernel
def I_Pro_stringOnce_132 : List IT := [(132, .iload_n 3, 1, 0, 0, []), (133, .sipush 172, 3, 172, 0, []), (136, .if_icmp .ne 27, 3, 0, 163, []), (139, .aload_n 0, 1, 0, 0, []), (140, .getfield 13, 3, 0, 0, []), (143, .iconst 0, 1, 0, 0, []), (144, .iload_n 2, 1, 0, 0, []), (145, .aload_n 0, 1, 0, 0, []), (146, .getfield 7, 3, 0, 0, []), (149, .iload 5, 2, 0, 0, []), (151, .iload 6, 2, 0, 0, []), (153, .iload_n 2, 1, 0, 0, []), (154, .invokevirtual 200, 3, 0, 0, []), (157, .invokevirtual 137, 3, 0, 0, []), (160, .goto 27, 3, 0, 187, [])]
theorem ok_Pro_stringOnce_132 : blkOK b_Pro_stringOnce pt_Pro 163 I_Pro_stringOnce_132 = true := by decide +kernel
def I_Pro_stringOnce_163 : List IT := [(163, .aload_n 0, 1, 0, 0, []), (164, .getfield 17, 3, 0, 0, []), (167, .iload 8, 2, 0, 0, []), (169, .aload_n 0, 1, 0, 0, []), (170, .getfield 7, 3, 0, 0, []), (173, .iload 4, 2, 0, 0, []), (175, .iload 7, 2, 0, 0, []), (177, .iload_n 2, 1, 0, 0, []), (178, .invokevirtual 200, 3, 0, 0, []), (181, .iconst 0, 1, 0, 0, []), (182, .iload_n 2, 1, 0, 0, []), (183, .invokevirtual 210, 3, 0, 0, []), (186, .pop, 1, 0, 0, [])]
theorem ok_Pro_stringOnce_163 : blkOK b_Pro_stringOnce pt_Pro 187 I_Pro_stringOnce_163 = true := by decide +kernel
def I_Pro_stringOnce_187 : List IT := [(187, .iload_n 2, 1, 0, 0, []), (188, .ifCond .eq 7, 3, 0, 195, []), (191, .iconst 2, 1, 2, 0, []), (192, .goto 4, 3, 0, 196, [])]
theorem ok_Pro_stringOnce_187 : blkOK b_Pro_stringOnce pt_Pro 195 I_Pro_stringOnce_187 = true := by decide +kernel
def I_Pro_stringOnce_195 : List IT := [(195, .iconst 1, 1, 1, 0, [])]
theorem ok_Pro_stringOnce_195 : blkOK b_Pro_stringOnce pt_Pro 196 I_Pro_stringOnce_195 = true := by decide +kernel
def I_Pro_stringOnce_196 : List IT := [(196, .aload_n 0, 1, 0, 0, []), (197, .getfield 17, 3, 0, 0, []), (200, .sipush 1024, 3, 1024, 0, []), (203, .invokevirtual 40, 3, 0, 0, []), (206, .ifCond .eq 7, 3, 0, 213, []), (209, .iconst (-1), 1, (-1), 0, []), (210, .goto 4, 3, 0, 214, [])]
theorem ok_Pro_stringOnce_196 : blkOK b_Pro_stringOnce pt_Pro 213 I_Pro_stringOnce_196 = true := by decide +kernel
def I_Pro_stringOnce_213 : List IT := [(213, .iconst 1, 1, 1, 0, [])]
theorem ok_Pro_stringOnce_213 : blkOK b_Pro_stringOnce pt_Pro 214 I_Pro_stringOnce_213 = true := by decide +kernel
def I_Pro_stringOnce_214 : List IT := [(214, .imul, 1, 0, 0, []), (215, .istore 9, 2, 0, 0, []), (217, .iload_n 3, 1, 0, 0, []), (218, .sipush 164, 3, 164, 0, []), (221, .if_icmp .eq 10, 3, 0, 231, []), (224, .iload_n 3, 1, 0, 0, []), (225, .sipush 172, 3, 172, 0, []), (228, .if_icmp .ne 21, 3, 0, 249, [])]
theorem ok_Pro_stringOnce_214 : blkOK b_Pro_stringOnce pt_Pro 231 I_Pro_stringOnce_214 = true := by decide +kernel
def I_Pro_stringOnce_231 : List IT := [(231, .aload_n 0, 1, 0, 0, []), (232, .getfield 13, 3, 0, 0, []), (235, .getfield 166, 3, 0, 0, []), (238, .bipush 6, 2, 6, 0, []), (240, .iload 6, 2, 0, 0, []), (242, .iload 9, 2, 0, 0, []), (244, .iadd, 1, 0, 0, []), (245, .ldc 155, 2, 65535, 0, []), (247, .iand, 1, 0, 0, []), (248, .iastore, 1, 0, 0, [])]
theorem ok_Pro_stringOnce_231 : blkOK b_Pro_stringOnce pt_Pro 249 I_Pro_stringOnce_231 = true := by decide +kernel
def I_Pro_stringOnce_249 : List IT := [(249, .iload_n 3, 1, 0, 0, []), (250, .sipush 172, 3, 172, 0, []), (253, .if_icmp .eq 21, 3, 0, 274, []), (256, .aload_n 0, 1, 0, 0, []), (257, .getfield 13, 3, 0, 0, []), (260, .getfield 166, 3, 0, 0, []), (263, .bipush 7, 2, 7, 0, []), (265, .iload 7, 2, 0, 0, []), (267, .iload 9, 2, 0, 0, []), (269, .iadd, 1, 0, 0, []), (270, .ldc 155, 2, 65535, 0, []), (272, .iand, 1, 0, 0, []), (273, .iastore, 1, 0, 0, [])]
theorem ok_Pro_stringOnce_249 : blkOK b_Pro_stringOnce pt_Pro 274 I_Pro_stringOnce_249 = true := by decide +kernel
def I_Pro_stringOnce_274 : List IT := [(274, .return_, 1, 0, 0, [])]
theorem ok_Pro_stringOnce_274 : blkOK b_Pro_stringOnce pt_Pro 275 I_Pro_stringOnce_274 = true := by decide +kernel
def f_Pro_stringOnce_249 (σ : Sg) (x3 : Int32) (x7 : Int32) (x9 : Int32) : Sg := (if x3 = (172 : Int32) then σ else (bnd (up2 σ 4 (Int32.toNatClampNeg (7 : Int32)) ((x7 + x9) &&& (65535 : Int32))) fun s2 => s2))
abbrev w_Pro_stringOnce_249 : List (Nat × Option Nat) := [(4, none)]
theorem p_Pro_stringOnce_249 {P : Sg → Prop} (hP : WP w_Pro_stringOnce_249 P) {σ : Sg} {x3 : Int32} {x7 : Int32} {x9 : Int32} (h : P σ) : P (f_Pro_stringOnce_249 σ x3 x7 x9) := by
  unfold f_Pro_stringOnce_249
  refine ite_z (fun _ => ?_) (fun _ => ?_)
  · exact h
  · refine bnd_zz (Z := P) (hP _ _ _ _ (Or.inl (by decide)) h) fun s2 e2 q2 => ?_
    exact q2
set_option maxRecDepth 100000 in
set_option maxHeartbeats 4000000 in
theorem b_Pro_stringOnce_249 {l : Launch} {ad : Nat → Nat} {D : va_G} {cI : ClassId} {K : Option Value → Sg → Prop} {X : Nat → List Value → List Value → Sg → Prop} (hX : Cl l ad D cI mi_Pro_stringOnce pt_Pro K X) {σ : Sg} {x3 : Int32} {x7 : Int32} {x9 : Int32}   (hK : KV K (f_Pro_stringOnce_249 σ x3 x7 x9)) : X 249 [.ref 12, .null, .null, .int x3, .null, .null, .null, .int x7, .null, .int x9] [] σ := by
  unfold f_Pro_stringOnce_249 at hK
  refine hX.1 274 I_Pro_stringOnce_249 ok_Pro_stringOnce_249 _ _ _ ?_
  refine And.intro (fun h1 => ?_) (fun h1 => ?_)
  · have hK := ite_p hK h1
    refine hX.1 275 I_Pro_stringOnce_274 ok_Pro_stringOnce_274 _ _ _ ?_
    exact hK
  · have hK := ite_n hK h1
    refine And.intro (vin (by decide)) (SG_g hK fun s2 e2 hK => ?_)
    refine hX.1 275 I_Pro_stringOnce_274 ok_Pro_stringOnce_274 _ _ _ ?_
    exact hK
def f_Pro_stringOnce_231 (σ : Sg) (x3 : Int32) (x6 : Int32) (x7 : Int32) (x9 : Int32) : Sg := (bnd (up2 σ 4 (Int32.toNatClampNeg (6 : Int32)) ((x6 + x9) &&& (65535 : Int32))) fun s1 => (f_Pro_stringOnce_249 s1 x3 x7 x9))
abbrev w_Pro_stringOnce_231 : List (Nat × Option Nat) := [(4, none)]
theorem p_Pro_stringOnce_231 {P : Sg → Prop} (hP : WP w_Pro_stringOnce_231 P) {σ : Sg} {x3 : Int32} {x6 : Int32} {x7 : Int32} {x9 : Int32} (h : P σ) : P (f_Pro_stringOnce_231 σ x3 x6 x7 x9) := by
  unfold f_Pro_stringOnce_231
  refine bnd_zz (Z := P) (hP _ _ _ _ (Or.inl (by decide)) h) fun s1 e1 q1 => ?_
  exact p_Pro_stringOnce_249 (wsub hP rfl) q1
set_option maxRecDepth 100000 in
set_option maxHeartbeats 4000000 in
theorem b_Pro_stringOnce_231 {l : Launch} {ad : Nat → Nat} {D : va_G} {cI : ClassId} {K : Option Value → Sg → Prop} {X : Nat → List Value → List Value → Sg → Prop} (hX : Cl l ad D cI mi_Pro_stringOnce pt_Pro K X) {σ : Sg} {x3 : Int32} {x6 : Int32} {x7 : Int32} {x9 : Int32}   (hK : KV K (f_Pro_stringOnce_231 σ x3 x6 x7 x9)) : X 231 [.ref 12, .null, .null, .int x3, .null, .null, .int x6, .int x7, .null, .int x9] [] σ := by
  unfold f_Pro_stringOnce_231 at hK
  refine hX.1 249 I_Pro_stringOnce_231 ok_Pro_stringOnce_231 _ _ _ ?_
  refine And.intro (vin (by decide)) (SG_g hK fun s1 e1 hK => ?_)
  refine hX.fg [6] ?_
  exact b_Pro_stringOnce_249 hX  hK
def f_Pro_stringOnce_214 (σ : Sg) (x3 : Int32) (x6 : Int32) (x7 : Int32) (y0 : Int32) (y1 : Int32) : Sg := (if x3 = (164 : Int32) then (f_Pro_stringOnce_231 σ x3 x6 x7 (y1 * y0)) else (if x3 = (172 : Int32) then (f_Pro_stringOnce_231 σ x3 x6 x7 (y1 * y0)) else (f_Pro_stringOnce_249 σ x3 x7 (y1 * y0))))
abbrev w_Pro_stringOnce_214 : List (Nat × Option Nat) := [(4, none)]
theorem p_Pro_stringOnce_214 {P : Sg → Prop} (hP : WP w_Pro_stringOnce_214 P) {σ : Sg} {x3 : Int32} {x6 : Int32} {x7 : Int32} {y0 : Int32} {y1 : Int32} (h : P σ) : P (f_Pro_stringOnce_214 σ x3 x6 x7 y0 y1) := by
  unfold f_Pro_stringOnce_214
  refine ite_z (fun _ => ?_) (fun _ => ?_)
  · exact p_Pro_stringOnce_231 (wsub hP rfl) h
  · refine ite_z (fun _ => ?_) (fun _ => ?_)
    · exact p_Pro_stringOnce_231 (wsub hP rfl) h
    · exact p_Pro_stringOnce_249 (wsub hP rfl) h
set_option maxRecDepth 100000 in
set_option maxHeartbeats 4000000 in
theorem b_Pro_stringOnce_214 {l : Launch} {ad : Nat → Nat} {D : va_G} {cI : ClassId} {K : Option Value → Sg → Prop} {X : Nat → List Value → List Value → Sg → Prop} (hX : Cl l ad D cI mi_Pro_stringOnce pt_Pro K X) {σ : Sg} {x3 : Int32} {x6 : Int32} {x7 : Int32} {y0 : Int32} {y1 : Int32}   (hK : KV K (f_Pro_stringOnce_214 σ x3 x6 x7 y0 y1)) : X 214 [.ref 12, .null, .null, .int x3, .null, .null, .int x6, .int x7, .null, .null] [.int y0, .int y1] σ := by
  unfold f_Pro_stringOnce_214 at hK
  refine hX.1 231 I_Pro_stringOnce_214 ok_Pro_stringOnce_214 _ _ _ ?_
  refine And.intro (fun h1 => ?_) (fun h1 => ?_)
  · have hK := ite_p hK h1
    exact b_Pro_stringOnce_231 hX  hK
  · have hK := ite_n hK h1
    refine And.intro (fun h2 => ?_) (fun h2 => ?_)
    · have hK := ite_p hK h2
      exact b_Pro_stringOnce_231 hX  hK
    · have hK := ite_n hK h2
      refine hX.fg [6] ?_
      exact b_Pro_stringOnce_249 hX  hK
def f_Pro_stringOnce_196 (σ : Sg) (x3 : Int32) (x6 : Int32) (x7 : Int32) (y0 : Int32) : Sg := (bnd (f_Fla_on σ (1024 : Int32)) fun r1 => (if r1.1 = (0 : Int32) then (f_Pro_stringOnce_214 r1.2 x3 x6 x7 (1 : Int32) y0) else (f_Pro_stringOnce_214 r1.2 x3 x6 x7 (-1 : Int32) y0)))
abbrev w_Pro_stringOnce_196 : List (Nat × Option Nat) := [(4, none)]
theorem p_Pro_stringOnce_196 {P : Sg → Prop} (hP : WP w_Pro_stringOnce_196 P) {σ : Sg} {x3 : Int32} {x6 : Int32} {x7 : Int32} {y0 : Int32} (h : P σ) : P (f_Pro_stringOnce_196 σ x3 x6 x7 y0) := by
  unfold f_Pro_stringOnce_196
  refine bnd_zz (Z := PP P) (p_Fla_on (wsub hP rfl) h) fun r1 e1 q1 => ?_
  refine ite_z (fun _ => ?_) (fun _ => ?_)
  · exact p_Pro_stringOnce_214 (wsub hP rfl) q1
  · exact p_Pro_stringOnce_214 (wsub hP rfl) q1
set_option maxRecDepth 100000 in
set_option maxHeartbeats 4000000 in
theorem b_Pro_stringOnce_196 {l : Launch} {ad : Nat → Nat} {D : va_G} {cI : ClassId} {K : Option Value → Sg → Prop} {X : Nat → List Value → List Value → Sg → Prop} (hX : Cl l ad D cI mi_Pro_stringOnce pt_Pro K X) {σ : Sg} {x3 : Int32} {x6 : Int32} {x7 : Int32} {y0 : Int32}   (hK : KV K (f_Pro_stringOnce_196 σ x3 x6 x7 y0)) : X 196 [.ref 12, .null, .null, .int x3, .null, .null, .int x6, .int x7, .null, .null] [.int y0] σ := by
  unfold f_Pro_stringOnce_196 at hK
  refine hX.1 213 I_Pro_stringOnce_196 ok_Pro_stringOnce_196 _ _ _ ?_
  refine s_Fla_on (bnd_g hK fun r1 e1 hK => ?_)
  have z1 : r1.1 = 0 ∨ r1.1 = 1 := by rw [← e1]; exact z_Fla_on
  refine And.intro (fun h2 => ?_) (fun h2 => ?_)
  · have hK := ite_p hK h2
    refine hX.1 214 I_Pro_stringOnce_213 ok_Pro_stringOnce_213 _ _ _ ?_
    exact b_Pro_stringOnce_214 hX  hK
  · have hK := ite_n hK h2
    exact b_Pro_stringOnce_214 hX  hK
def f_Pro_stringOnce_187 (σ : Sg) (x2 : Int32) (x3 : Int32) (x6 : Int32) (x7 : Int32) : Sg := (if x2 = (0 : Int32) then (f_Pro_stringOnce_196 σ x3 x6 x7 (1 : Int32)) else (f_Pro_stringOnce_196 σ x3 x6 x7 (2 : Int32)))
abbrev w_Pro_stringOnce_187 : List (Nat × Option Nat) := [(4, none)]
theorem p_Pro_stringOnce_187 {P : Sg → Prop} (hP : WP w_Pro_stringOnce_187 P) {σ : Sg} {x2 : Int32} {x3 : Int32} {x6 : Int32} {x7 : Int32} (h : P σ) : P (f_Pro_stringOnce_187 σ x2 x3 x6 x7) := by
  unfold f_Pro_stringOnce_187
  refine ite_z (fun _ => ?_) (fun _ => ?_)
  · exact p_Pro_stringOnce_196 (wsub hP rfl) h
  · exact p_Pro_stringOnce_196 (wsub hP rfl) h
set_option maxRecDepth 100000 in
set_option maxHeartbeats 4000000 in
theorem b_Pro_stringOnce_187 {l : Launch} {ad : Nat → Nat} {D : va_G} {cI : ClassId} {K : Option Value → Sg → Prop} {X : Nat → List Value → List Value → Sg → Prop} (hX : Cl l ad D cI mi_Pro_stringOnce pt_Pro K X) {σ : Sg} {x2 : Int32} {x3 : Int32} {x6 : Int32} {x7 : Int32} (z_x2 : x2 = 0 ∨ x2 = 1)  (hK : KV K (f_Pro_stringOnce_187 σ x2 x3 x6 x7)) : X 187 [.ref 12, .null, .int x2, .int x3, .null, .null, .int x6, .int x7, .null, .null] [] σ := by
  unfold f_Pro_stringOnce_187 at hK
  refine hX.1 195 I_Pro_stringOnce_187 ok_Pro_stringOnce_187 _ _ _ ?_
  refine And.intro (fun h1 => ?_) (fun h1 => ?_)
  · have hK := ite_p hK h1
    refine hX.1 196 I_Pro_stringOnce_195 ok_Pro_stringOnce_195 _ _ _ ?_
    refine hX.fg [2] ?_
    exact b_Pro_stringOnce_196 hX  hK
  · have hK := ite_n hK h1
    refine hX.fg [2] ?_
    exact b_Pro_stringOnce_196 hX  hK
def f_Pro_stringOnce_12 (σ : Sg) (x1 : Int32) (y0 : Int32) : Sg := (bnd (f_Dec_segmentOr σ (3 : Int32)) fun r1 => bnd (f_Reg_value r1.2 (0 : Int32) y0) fun r2 => (if (x1 &&& (-2 : Int32)) = (164 : Int32) then (bnd (f_Mem_fetch r2.2 r1.1 (r1.2 4 (Int32.toNatClampNeg (6 : Int32))) y0) fun r4 => bnd (f_Mem_store r4.2 (σ 5 (Int32.toNatClampNeg (0 : Int32))) (r1.2 4 (Int32.toNatClampNeg (7 : Int32))) y0 r4.1) fun r5 => (f_Pro_stringOnce_187 r5 y0 (x1 &&& (-2 : Int32)) (r1.2 4 (Int32.toNatClampNeg (6 : Int32))) (r1.2 4 (Int32.toNatClampNeg (7 : Int32))))) else (if (x1 &&& (-2 : Int32)) = (170 : Int32) then (bnd (f_Mem_store r2.2 (σ 5 (Int32.toNatClampNeg (0 : Int32))) (r1.2 4 (Int32.toNatClampNeg (7 : Int32))) y0 r2.1) fun r7 => (f_Pro_stringOnce_187 r7 y0 (x1 &&& (-2 : Int32)) (r1.2 4 (Int32.toNatClampNeg (6 : Int32))) (r1.2 4 (Int32.toNatClampNeg (7 : Int32))))) else (if (x1 &&& (-2 : Int32)) = (172 : Int32) then (bnd (f_Mem_fetch r2.2 r1.1 (r1.2 4 (Int32.toNatClampNeg (6 : Int32))) y0) fun r9 => bnd (f_Reg_change r9.2 (0 : Int32) y0 r9.1) fun r10 => (f_Pro_stringOnce_187 r10 y0 (x1 &&& (-2 : Int32)) (r1.2 4 (Int32.toNatClampNeg (6 : Int32))) (r1.2 4 (Int32.toNatClampNeg (7 : Int32))))) else (bnd (f_Mem_fetch r2.2 (σ 5 (Int32.toNatClampNeg (0 : Int32))) (r1.2 4 (Int32.toNatClampNeg (7 : Int32))) y0) fun r11 => bnd (f_Fla_difference r11.2 r2.1 r11.1 (0 : Int32) y0) fun r12 => (f_Pro_stringOnce_187 r12.2 y0 (x1 &&& (-2 : Int32)) (r1.2 4 (Int32.toNatClampNeg (6 : Int32))) (r1.2 4 (Int32.toNatClampNeg (7 : Int32)))))))))
abbrev w_Pro_stringOnce_12 : List (Nat × Option Nat) := [(2, none), (4, none), (6, some 0)]
theorem p_Pro_stringOnce_12 {P : Sg → Prop} (hP : WP w_Pro_stringOnce_12 P) {σ : Sg} {x1 : Int32} {y0 : Int32} (h : P σ) : P (f_Pro_stringOnce_12 σ x1 y0) := by
  unfold f_Pro_stringOnce_12
  refine bnd_zz (Z := PP P) (p_Dec_segmentOr (wsub hP rfl) h) fun r1 e1 q1 => ?_
  refine bnd_zz (Z := PP P) (p_Reg_value (wsub hP rfl) q1) fun r2 e2 q2 => ?_
  refine ite_z (fun _ => ?_) (fun _ => ?_)
  · refine bnd_zz (Z := PP P) (p_Mem_fetch (wsub hP rfl) q2) fun r4 e4 q4 => ?_
    refine bnd_zz (Z := P) (p_Mem_store (wsub hP rfl) q4) fun r5 e5 q5 => ?_
    exact p_Pro_stringOnce_187 (wsub hP rfl) q5
  · refine ite_z (fun _ => ?_) (fun _ => ?_)
    · refine bnd_zz (Z := P) (p_Mem_store (wsub hP rfl) q2) fun r7 e7 q7 => ?_
      exact p_Pro_stringOnce_187 (wsub hP rfl) q7
    · refine ite_z (fun _ => ?_) (fun _ => ?_)
      · refine bnd_zz (Z := PP P) (p_Mem_fetch (wsub hP rfl) q2) fun r9 e9 q9 => ?_
        refine bnd_zz (Z := P) (p_Reg_change (wsub hP rfl) q9) fun r10 e10 q10 => ?_
        exact p_Pro_stringOnce_187 (wsub hP rfl) q10
      · refine bnd_zz (Z := PP P) (p_Mem_fetch (wsub hP rfl) q2) fun r11 e11 q11 => ?_
        refine bnd_zz (Z := PP P) (p_Fla_difference (wsub hP rfl) q11) fun r12 e12 q12 => ?_
        exact p_Pro_stringOnce_187 (wsub hP rfl) q12
set_option maxRecDepth 100000 in
set_option maxHeartbeats 4000000 in
theorem b_Pro_stringOnce_12 {l : Launch} {ad : Nat → Nat} {D : va_G} {cI : ClassId} {K : Option Value → Sg → Prop} {X : Nat → List Value → List Value → Sg → Prop} (hX : Cl l ad D cI mi_Pro_stringOnce pt_Pro K X) {σ : Sg} {x1 : Int32} {y0 : Int32} (z_y0 : y0 = 0 ∨ y0 = 1)  (hK : KV K (f_Pro_stringOnce_12 σ x1 y0)) : X 12 [.ref 12, .int x1, .null, .null, .null, .null, .null, .null, .null, .null] [.int y0] σ := by
  unfold f_Pro_stringOnce_12 at hK
  refine hX.1 108 I_Pro_stringOnce_12 ok_Pro_stringOnce_12 _ _ _ ?_
  refine And.intro (vin (by decide)) ?_
  refine s_Dec_segmentOr (bnd_g hK fun r1 e1 hK => ?_)
  refine And.intro (vin (by decide)) ?_
  refine And.intro (vin (by decide)) ?_
  refine s_Reg_value (bnd_g hK fun r2 e2 hK => ?_)
  refine And.intro (fun h3 => ?_) (fun h3 => ?_)
  · have hK := ite_p hK h3
    refine s_Mem_fetch (bnd_g hK fun r4 e4 hK => ?_)
    refine s_Mem_store (bnd_g hK fun r5 e5 hK => ?_)
    refine hX.fg [1, 4, 5, 8] ?_
    exact b_Pro_stringOnce_187 hX z_y0 hK
  · have hK := ite_n hK h3
    refine hX.1 132 I_Pro_stringOnce_108 ok_Pro_stringOnce_108 _ _ _ ?_
    refine And.intro (fun h6 => ?_) (fun h6 => ?_)
    · have hK := ite_p hK h6
      refine s_Mem_store (bnd_g hK fun r7 e7 hK => ?_)
      refine hX.fg [1, 4, 5, 8] ?_
      exact b_Pro_stringOnce_187 hX z_y0 hK
    · have hK := ite_n hK h6
      refine hX.1 163 I_Pro_stringOnce_132 ok_Pro_stringOnce_132 _ _ _ ?_
      refine And.intro (fun h8 => ?_) (fun h8 => ?_)
      · have hK := ite_p hK h8
        refine s_Mem_fetch (bnd_g hK fun r9 e9 hK => ?_)
        refine s_Reg_change (bnd_g hK fun r10 e10 hK => ?_)
        refine hX.fg [1, 4, 5, 8] ?_
        exact b_Pro_stringOnce_187 hX z_y0 hK
      · have hK := ite_n hK h8
        refine hX.1 187 I_Pro_stringOnce_163 ok_Pro_stringOnce_163 _ _ _ ?_
        refine s_Mem_fetch (bnd_g hK fun r11 e11 hK => ?_)
        refine s_Fla_difference (bnd_g hK fun r12 e12 hK => ?_)
        refine hX.fg [1, 4, 5, 8] ?_
        exact b_Pro_stringOnce_187 hX z_y0 hK
def f_Pro_stringOnce (σ : Sg) (a1 : Int32) : Sg := (if (a1 &&& (1 : Int32)) = (1 : Int32) then (f_Pro_stringOnce_12 σ a1 (1 : Int32)) else (f_Pro_stringOnce_12 σ a1 (0 : Int32)))
abbrev w_Pro_stringOnce : List (Nat × Option Nat) := [(2, none), (4, none), (6, some 0)]
theorem p_Pro_stringOnce {P : Sg → Prop} (hP : WP w_Pro_stringOnce P) {σ : Sg} {a1 : Int32} (h : P σ) : P (f_Pro_stringOnce σ a1) := by
  unfold f_Pro_stringOnce
  refine ite_z (fun _ => ?_) (fun _ => ?_)
  · exact p_Pro_stringOnce_12 (wsub hP rfl) h
  · exact p_Pro_stringOnce_12 (wsub hP rfl) h
set_option maxRecDepth 100000 in
set_option maxHeartbeats 4000000 in
theorem s_Pro_stringOnce {l : Launch} {ad : Nat → Nat} {D : va_G} {cI : ClassId} {σ : Sg} {a1 : Int32} {K : Option Value → Sg → Prop}   (hK : KV K (f_Pro_stringOnce σ a1)) : MetJ l ad D cI mi_Pro_stringOnce [.ref 12, .int a1] σ K := by
  refine met_of mi_Pro_stringOnce pt_Pro pt_Pro_in rfl pl_Pro rfl (Nat.le_of_ble_eq_true rfl) fun X hX => ?_
  have hX : Cl l ad D cI mi_Pro_stringOnce pt_Pro K X := hX
  show X 0 [.ref 12, .int a1, .null, .null, .null, .null, .null, .null, .null, .null] [] σ
  unfold f_Pro_stringOnce at hK
  refine hX.1 11 I_Pro_stringOnce_0 ok_Pro_stringOnce_0 _ _ _ ?_
  refine And.intro (fun h1 => ?_) (fun h1 => ?_)
  · have hK := ite_p hK h1
    exact b_Pro_stringOnce_12 hX (Or.inr rfl) hK
  · have hK := ite_n hK h1
    refine hX.1 12 I_Pro_stringOnce_11 ok_Pro_stringOnce_11 _ _ _ ?_
    exact b_Pro_stringOnce_12 hX (Or.inl rfl) hK
def I_Pro_string_0 : List IT := [(0, .iload_n 1, 1, 0, 0, []), (1, .sipush 164, 3, 164, 0, []), (4, .if_icmp .lt 17, 3, 0, 21, []), (7, .iload_n 1, 1, 0, 0, []), (8, .sipush 165, 3, 165, 0, []), (11, .if_icmp .le 12, 3, 0, 23, []), (14, .iload_n 1, 1, 0, 0, []), (15, .sipush 170, 3, 170, 0, []), (18, .if_icmp .ge 5, 3, 0, 23, [])]
theorem ok_Pro_string_0 : blkOK b_Pro_string pt_Pro 21 I_Pro_string_0 = true := by decide +kernel
def I_Pro_string_21 : List IT := [(21, .iconst 0, 1, 0, 0, []), (22, .ireturn, 1, 0, 0, [])]
theorem ok_Pro_string_21 : blkOK b_Pro_string pt_Pro 23 I_Pro_string_21 = true := by decide +kernel
def I_Pro_string_23 : List IT := [(23, .aload_n 0, 1, 0, 0, []), (24, .getfield 34, 3, 0, 0, []), (27, .getfield 190, 3, 0, 0, []), (30, .ifCond .ne 10, 3, 0, 40, []), (33, .aload_n 0, 1, 0, 0, []), (34, .iload_n 1, 1, 0, 0, []), (35, .invokevirtual 193, 3, 0, 0, []), (38, .iconst 1, 1, 1, 0, []), (39, .ireturn, 1, 0, 0, [])]
theorem ok_Pro_string_23 : blkOK b_Pro_string pt_Pro 40 I_Pro_string_23 = true := by decide +kernel
def I_Pro_string_40 : List IT := [(40, .aload_n 0, 1, 0, 0, []), (41, .getfield 13, 3, 0, 0, []), (44, .getfield 166, 3, 0, 0, []), (47, .iconst 1, 1, 1, 0, []), (48, .iaload, 1, 0, 0, []), (49, .ifCond .ne 5, 3, 0, 54, []), (52, .iconst 1, 1, 1, 0, []), (53, .ireturn, 1, 0, 0, [])]
theorem ok_Pro_string_40 : blkOK b_Pro_string pt_Pro 54 I_Pro_string_40 = true := by decide +kernel
def I_Pro_string_54 : List IT := [(54, .aload_n 0, 1, 0, 0, []), (55, .iload_n 1, 1, 0, 0, []), (56, .invokevirtual 193, 3, 0, 0, []), (59, .aload_n 0, 1, 0, 0, []), (60, .getfield 13, 3, 0, 0, []), (63, .getfield 166, 3, 0, 0, []), (66, .iconst 1, 1, 1, 0, []), (67, .dup2, 1, 0, 0, []), (68, .iaload, 1, 0, 0, []), (69, .iconst 1, 1, 1, 0, []), (70, .isub, 1, 0, 0, []), (71, .iastore, 1, 0, 0, []), (72, .aload_n 0, 1, 0, 0, []), (73, .getfield 34, 3, 0, 0, []), (76, .getfield 190, 3, 0, 0, []), (79, .sipush 243, 3, 243, 0, []), (82, .if_icmp .ne 7, 3, 0, 89, []), (85, .iconst 1, 1, 1, 0, []), (86, .goto 4, 3, 0, 90, [])]
theorem ok_Pro_string_54 : blkOK b_Pro_string pt_Pro 89 I_Pro_string_54 = true := by decide +kernel
def I_Pro_string_89 : List IT := [(89, .iconst 0, 1, 0, 0, [])]
theorem ok_Pro_string_89 : blkOK b_Pro_string pt_Pro 90 I_Pro_string_89 = true := by decide +kernel
def I_Pro_string_90 : List IT := [(90, .istore_n 2, 1, 0, 0, []), (91, .iload_n 1, 1, 0, 0, []), (92, .sipush 174, 3, 174, 0, []), (95, .if_icmp .lt 20, 3, 0, 115, []), (98, .aload_n 0, 1, 0, 0, []), (99, .getfield 17, 3, 0, 0, []), (102, .bipush 64, 2, 64, 0, []), (104, .invokevirtual 40, 3, 0, 0, []), (107, .iload_n 2, 1, 0, 0, []), (108, .if_icmp .eq 7, 3, 0, 115, []), (111, .iconst 1, 1, 1, 0, []), (112, .goto 4, 3, 0, 116, [])]
theorem ok_Pro_string_90 : blkOK b_Pro_string pt_Pro 115 I_Pro_string_90 = true := by decide +kernel
def I_Pro_string_115 : List IT := [(115, .iconst 0, 1, 0, 0, [])]
theorem ok_Pro_string_115 : blkOK b_Pro_string pt_Pro 116 I_Pro_string_115 = true := by decide +kernel
def I_Pro_string_116 : List IT := [(116, .istore_n 3, 1, 0, 0, []), (117, .aload_n 0, 1, 0, 0, []), (118, .getfield 13, 3, 0, 0, []), (121, .getfield 166, 3, 0, 0, []), (124, .iconst 1, 1, 1, 0, []), (125, .iaload, 1, 0, 0, []), (126, .ifCond .eq 21, 3, 0, 147, []), (129, .iload_n 3, 1, 0, 0, []), (130, .ifCond .ne 17, 3, 0, 147, []), (133, .aload_n 0, 1, 0, 0, []), (134, .getfield 13, 3, 0, 0, []), (137, .aload_n 0, 1, 0, 0, []), (138, .getfield 34, 3, 0, 0, []), (141, .getfield 75, 3, 0, 0, []), (144, .putfield 78, 3, 0, 0, [])]
theorem ok_Pro_string_116 : blkOK b_Pro_string pt_Pro 147 I_Pro_string_116 = true := by decide +kernel
def I_Pro_string_147 : List IT := [(147, .iconst 1, 1, 1, 0, []), (148, .ireturn, 1, 0, 0, [])]
theorem ok_Pro_string_147 : blkOK b_Pro_string pt_Pro 149 I_Pro_string_147 = true := by decide +kernel
def f_Pro_string_116 (σ : Sg) (y0 : Int32) : Int32 × Sg := (if (σ 4 (Int32.toNatClampNeg (1 : Int32))) = (0 : Int32) then ((1 : Int32), σ) else (if y0 = (0 : Int32) then (bnd (up2 σ 3 2 (σ 14 2)) fun s3 => ((1 : Int32), s3)) else ((1 : Int32), σ)))
theorem z_Pro_string_116 {σ : Sg} {y0 : Int32} (z_y0 : y0 = 0 ∨ y0 = 1)  : (f_Pro_string_116 σ y0).1 = 0 ∨ (f_Pro_string_116 σ y0).1 = 1 := by
  show Zb (f_Pro_string_116 σ y0)
  unfold f_Pro_string_116
  refine ite_z (fun h1 => ?_) (fun h1 => ?_)
  · exact (Or.inr rfl)
  · refine ite_z (fun h2 => ?_) (fun h2 => ?_)
    · refine bnd_z fun s3 e3 => ?_
      exact (Or.inr rfl)
    · exact (Or.inr rfl)
abbrev w_Pro_string_116 : List (Nat × Option Nat) := [(3, some 2)]
theorem p_Pro_string_116 {P : Sg → Prop} (hP : WP w_Pro_string_116 P) {σ : Sg} {y0 : Int32} (h : P σ) : PP P (f_Pro_string_116 σ y0) := by
  unfold f_Pro_string_116
  refine ite_z (fun _ => ?_) (fun _ => ?_)
  · exact h
  · refine ite_z (fun _ => ?_) (fun _ => ?_)
    · refine bnd_zz (Z := P) (hP _ _ _ _ (Or.inr (by decide)) h) fun s3 e3 q3 => ?_
      exact q3
    · exact h
set_option maxRecDepth 100000 in
set_option maxHeartbeats 4000000 in
theorem b_Pro_string_116 {l : Launch} {ad : Nat → Nat} {D : va_G} {cI : ClassId} {K : Option Value → Sg → Prop} {X : Nat → List Value → List Value → Sg → Prop} (hX : Cl l ad D cI mi_Pro_string pt_Pro K X) {σ : Sg} {y0 : Int32} (z_y0 : y0 = 0 ∨ y0 = 1)  (hK : KI K (f_Pro_string_116 σ y0)) : X 116 [.ref 12, .null, .null, .null] [.int y0] σ := by
  unfold f_Pro_string_116 at hK
  refine hX.1 147 I_Pro_string_116 ok_Pro_string_116 _ _ _ ?_
  refine And.intro (vin (by decide)) ?_
  refine And.intro (fun h1 => ?_) (fun h1 => ?_)
  · have hK := ite_p hK h1
    refine hX.1 149 I_Pro_string_147 ok_Pro_string_147 _ _ _ ?_
    exact And.intro (Or.inr rfl) hK
  · have hK := ite_n hK h1
    refine And.intro (fun h2 => ?_) (fun h2 => ?_)
    · have hK := ite_p hK h2
      refine And.intro trivial (SG_g hK fun s3 e3 hK => ?_)
      refine hX.1 149 I_Pro_string_147 ok_Pro_string_147 _ _ _ ?_
      exact And.intro (Or.inr rfl) hK
    · have hK := ite_n hK h2
      refine hX.1 149 I_Pro_string_147 ok_Pro_string_147 _ _ _ ?_
      exact And.intro (Or.inr rfl) hK
def f_Pro_string_115 (σ : Sg)  : Int32 × Sg := (f_Pro_string_116 σ (0 : Int32))
theorem z_Pro_string_115 {σ : Sg}    : (f_Pro_string_115 σ ).1 = 0 ∨ (f_Pro_string_115 σ ).1 = 1 := by
  show Zb (f_Pro_string_115 σ )
  unfold f_Pro_string_115
  exact z_Pro_string_116 (Or.inl rfl) 
abbrev w_Pro_string_115 : List (Nat × Option Nat) := [(3, some 2)]
theorem p_Pro_string_115 {P : Sg → Prop} (hP : WP w_Pro_string_115 P) {σ : Sg}  (h : P σ) : PP P (f_Pro_string_115 σ ) := by
  unfold f_Pro_string_115
  exact p_Pro_string_116 (wsub hP rfl) h
set_option maxRecDepth 100000 in
set_option maxHeartbeats 4000000 in
theorem b_Pro_string_115 {l : Launch} {ad : Nat → Nat} {D : va_G} {cI : ClassId} {K : Option Value → Sg → Prop} {X : Nat → List Value → List Value → Sg → Prop} (hX : Cl l ad D cI mi_Pro_string pt_Pro K X) {σ : Sg}    (hK : KI K (f_Pro_string_115 σ )) : X 115 [.ref 12, .null, .null, .null] [] σ := by
  unfold f_Pro_string_115 at hK
  refine hX.1 116 I_Pro_string_115 ok_Pro_string_115 _ _ _ ?_
  exact b_Pro_string_116 hX (Or.inl rfl) hK
def f_Pro_string_90 (σ : Sg) (x1 : Int32) (y0 : Int32) : Int32 × Sg := (if x1 < (174 : Int32) then (f_Pro_string_115 σ) else (bnd (f_Fla_on σ (64 : Int32)) fun r2 => (if r2.1 = y0 then (f_Pro_string_115 r2.2) else (f_Pro_string_116 r2.2 (1 : Int32)))))
theorem z_Pro_string_90 {σ : Sg} {x1 : Int32} {y0 : Int32} (z_y0 : y0 = 0 ∨ y0 = 1)  : (f_Pro_string_90 σ x1 y0).1 = 0 ∨ (f_Pro_string_90 σ x1 y0).1 = 1 := by
  show Zb (f_Pro_string_90 σ x1 y0)
  unfold f_Pro_string_90
  refine ite_z (fun h1 => ?_) (fun h1 => ?_)
  · exact z_Pro_string_115
  · refine bnd_zz (Z := Zb) (z_Fla_on) fun r2 e2 z2 => ?_
    refine ite_z (fun h3 => ?_) (fun h3 => ?_)
    · exact z_Pro_string_115
    · exact z_Pro_string_116 (Or.inr rfl)
abbrev w_Pro_string_90 : List (Nat × Option Nat) := [(3, some 2)]
theorem p_Pro_string_90 {P : Sg → Prop} (hP : WP w_Pro_string_90 P) {σ : Sg} {x1 : Int32} {y0 : Int32} (h : P σ) : PP P (f_Pro_string_90 σ x1 y0) := by
  unfold f_Pro_string_90
  refine ite_z (fun _ => ?_) (fun _ => ?_)
  · exact p_Pro_string_115 (wsub hP rfl) h
  · refine bnd_zz (Z := PP P) (p_Fla_on (wsub hP rfl) h) fun r2 e2 q2 => ?_
    refine ite_z (fun _ => ?_) (fun _ => ?_)
    · exact p_Pro_string_115 (wsub hP rfl) q2
    · exact p_Pro_string_116 (wsub hP rfl) q2
set_option maxRecDepth 100000 in
set_option maxHeartbeats 4000000 in
theorem b_Pro_string_90 {l : Launch} {ad : Nat → Nat} {D : va_G} {cI : ClassId} {K : Option Value → Sg → Prop} {X : Nat → List Value → List Value → Sg → Prop} (hX : Cl l ad D cI mi_Pro_string pt_Pro K X) {σ : Sg} {x1 : Int32} {y0 : Int32} (z_y0 : y0 = 0 ∨ y0 = 1)  (hK : KI K (f_Pro_string_90 σ x1 y0)) : X 90 [.ref 12, .int x1, .null, .null] [.int y0] σ := by
  unfold f_Pro_string_90 at hK
  refine hX.1 115 I_Pro_string_90 ok_Pro_string_90 _ _ _ ?_
  refine And.intro (fun h1 => ?_) (fun h1 => ?_)
  · have hK := ite_p hK h1
    refine hX.fg [1, 2] ?_
    exact b_Pro_string_115 hX  hK
  · have hK := ite_n hK h1
    refine s_Fla_on (bnd_g hK fun r2 e2 hK => ?_)
    have z2 : r2.1 = 0 ∨ r2.1 = 1 := by rw [← e2]; exact z_Fla_on
    refine And.intro (fun h3 => ?_) (fun h3 => ?_)
    · have hK := ite_p hK h3
      refine hX.fg [1, 2] ?_
      exact b_Pro_string_115 hX  hK
    · have hK := ite_n hK h3
      refine hX.fg [1, 2] ?_
      exact b_Pro_string_116 hX (Or.inr rfl) hK
def f_Pro_string_23 (σ : Sg) (x1 : Int32) : Int32 × Sg := (if (σ 14 4) = (0 : Int32) then (bnd (f_Pro_stringOnce σ x1) fun r2 => ((1 : Int32), r2)) else (if (σ 4 (Int32.toNatClampNeg (1 : Int32))) = (0 : Int32) then ((1 : Int32), σ) else (bnd (f_Pro_stringOnce σ x1) fun r4 => bnd (up2 r4 4 (Int32.toNatClampNeg (1 : Int32)) ((r4 4 (Int32.toNatClampNeg (1 : Int32))) - (1 : Int32))) fun s5 => (if (s5 14 4) = (243 : Int32) then (f_Pro_string_90 s5 x1 (1 : Int32)) else (f_Pro_string_90 s5 x1 (0 : Int32))))))
theorem z_Pro_string_23 {σ : Sg} {x1 : Int32}   : (f_Pro_string_23 σ x1).1 = 0 ∨ (f_Pro_string_23 σ x1).1 = 1 := by
  show Zb (f_Pro_string_23 σ x1)
  unfold f_Pro_string_23
  refine ite_z (fun h1 => ?_) (fun h1 => ?_)
  · refine bnd_z fun r2 e2 => ?_
    exact (Or.inr rfl)
  · refine ite_z (fun h3 => ?_) (fun h3 => ?_)
    · exact (Or.inr rfl)
    · refine bnd_z fun r4 e4 => ?_
      refine bnd_z fun s5 e5 => ?_
      refine ite_z (fun h6 => ?_) (fun h6 => ?_)
      · exact z_Pro_string_90 (Or.inr rfl)
      · exact z_Pro_string_90 (Or.inl rfl)
abbrev w_Pro_string_23 : List (Nat × Option Nat) := [(2, none), (3, some 2), (4, none), (6, some 0)]
theorem p_Pro_string_23 {P : Sg → Prop} (hP : WP w_Pro_string_23 P) {σ : Sg} {x1 : Int32} (h : P σ) : PP P (f_Pro_string_23 σ x1) := by
  unfold f_Pro_string_23
  refine ite_z (fun _ => ?_) (fun _ => ?_)
  · refine bnd_zz (Z := P) (p_Pro_stringOnce (wsub hP rfl) h) fun r2 e2 q2 => ?_
    exact q2
  · refine ite_z (fun _ => ?_) (fun _ => ?_)
    · exact h
    · refine bnd_zz (Z := P) (p_Pro_stringOnce (wsub hP rfl) h) fun r4 e4 q4 => ?_
      refine bnd_zz (Z := P) (hP _ _ _ _ (Or.inl (by decide)) q4) fun s5 e5 q5 => ?_
      refine ite_z (fun _ => ?_) (fun _ => ?_)
      · exact p_Pro_string_90 (wsub hP rfl) q5
      · exact p_Pro_string_90 (wsub hP rfl) q5
set_option maxRecDepth 100000 in
set_option maxHeartbeats 4000000 in
theorem b_Pro_string_23 {l : Launch} {ad : Nat → Nat} {D : va_G} {cI : ClassId} {K : Option Value → Sg → Prop} {X : Nat → List Value → List Value → Sg → Prop} (hX : Cl l ad D cI mi_Pro_string pt_Pro K X) {σ : Sg} {x1 : Int32}   (hK : KI K (f_Pro_string_23 σ x1)) : X 23 [.ref 12, .int x1, .null, .null] [] σ := by
  unfold f_Pro_string_23 at hK
  refine hX.1 40 I_Pro_string_23 ok_Pro_string_23 _ _ _ ?_
  refine And.intro (fun h1 => ?_) (fun h1 => ?_)
  · have hK := ite_p hK h1
    refine s_Pro_stringOnce (bnd_g hK fun r2 e2 hK => ?_)
    exact And.intro (Or.inr rfl) hK
  · have hK := ite_n hK h1
    refine hX.1 54 I_Pro_string_40 ok_Pro_string_40 _ _ _ ?_
    refine And.intro (vin (by decide)) ?_
    refine And.intro (fun h3 => ?_) (fun h3 => ?_)
    · have hK := ite_p hK h3
      exact And.intro (Or.inr rfl) hK
    · have hK := ite_n hK h3
      refine hX.1 89 I_Pro_string_54 ok_Pro_string_54 _ _ _ ?_
      refine s_Pro_stringOnce (bnd_g hK fun r4 e4 hK => ?_)
      refine And.intro (vin (by decide)) ?_
      refine And.intro (vin (by decide)) (SG_g hK fun s5 e5 hK => ?_)
      refine And.intro (fun h6 => ?_) (fun h6 => ?_)
      · have hK := ite_p hK h6
        exact b_Pro_string_90 hX (Or.inr rfl) hK
      · have hK := ite_n hK h6
        refine hX.1 90 I_Pro_string_89 ok_Pro_string_89 _ _ _ ?_
        exact b_Pro_string_90 hX (Or.inl rfl) hK
def f_Pro_string (σ : Sg) (a1 : Int32) : Int32 × Sg := (if a1 < (164 : Int32) then ((0 : Int32), σ) else (if a1 ≤ (165 : Int32) then (f_Pro_string_23 σ a1) else (if (170 : Int32) ≤ a1 then (f_Pro_string_23 σ a1) else ((0 : Int32), σ))))
theorem z_Pro_string {σ : Sg} {a1 : Int32}   : (f_Pro_string σ a1).1 = 0 ∨ (f_Pro_string σ a1).1 = 1 := by
  show Zb (f_Pro_string σ a1)
  unfold f_Pro_string
  refine ite_z (fun h1 => ?_) (fun h1 => ?_)
  · exact (Or.inl rfl)
  · refine ite_z (fun h2 => ?_) (fun h2 => ?_)
    · exact z_Pro_string_23
    · refine ite_z (fun h3 => ?_) (fun h3 => ?_)
      · exact z_Pro_string_23
      · exact (Or.inl rfl)
abbrev w_Pro_string : List (Nat × Option Nat) := [(2, none), (3, some 2), (4, none), (6, some 0)]
theorem p_Pro_string {P : Sg → Prop} (hP : WP w_Pro_string P) {σ : Sg} {a1 : Int32} (h : P σ) : PP P (f_Pro_string σ a1) := by
  unfold f_Pro_string
  refine ite_z (fun _ => ?_) (fun _ => ?_)
  · exact h
  · refine ite_z (fun _ => ?_) (fun _ => ?_)
    · exact p_Pro_string_23 (wsub hP rfl) h
    · refine ite_z (fun _ => ?_) (fun _ => ?_)
      · exact p_Pro_string_23 (wsub hP rfl) h
      · exact h
set_option maxRecDepth 100000 in
set_option maxHeartbeats 4000000 in
theorem s_Pro_string {l : Launch} {ad : Nat → Nat} {D : va_G} {cI : ClassId} {σ : Sg} {a1 : Int32} {K : Option Value → Sg → Prop}   (hK : KI K (f_Pro_string σ a1)) : MetJ l ad D cI mi_Pro_string [.ref 12, .int a1] σ K := by
  refine met_of mi_Pro_string pt_Pro pt_Pro_in rfl pl_Pro rfl (Nat.le_of_ble_eq_true rfl) fun X hX => ?_
  have hX : Cl l ad D cI mi_Pro_string pt_Pro K X := hX
  show X 0 [.ref 12, .int a1, .null, .null] [] σ
  unfold f_Pro_string at hK
  refine hX.1 21 I_Pro_string_0 ok_Pro_string_0 _ _ _ ?_
  refine And.intro (fun h1 => ?_) (fun h1 => ?_)
  · have hK := ite_p hK h1
    refine hX.1 23 I_Pro_string_21 ok_Pro_string_21 _ _ _ ?_
    exact And.intro (Or.inl rfl) hK
  · have hK := ite_n hK h1
    refine And.intro (fun h2 => ?_) (fun h2 => ?_)
    · have hK := ite_p hK h2
      exact b_Pro_string_23 hX  hK
    · have hK := ite_n hK h2
      refine And.intro (fun h3 => ?_) (fun h3 => ?_)
      · have hK := ite_p hK h3
        exact b_Pro_string_23 hX  hK
      · have hK := ite_n hK h3
        refine hX.1 23 I_Pro_string_21 ok_Pro_string_21 _ _ _ ?_
        exact And.intro (Or.inl rfl) hK
def I_Pro_moveGiven_0 : List IT := [(0, .iload_n 1, 1, 0, 0, []), (1, .sipush 184, 3, 184, 0, []), (4, .if_icmp .lt 7, 3, 0, 11, []), (7, .iconst 1, 1, 1, 0, []), (8, .goto 4, 3, 0, 12, [])]
theorem ok_Pro_moveGiven_0 : blkOK b_Pro_moveGiven pt_Pro 11 I_Pro_moveGiven_0 = true := by decide +kernel
def I_Pro_moveGiven_11 : List IT := [(11, .iconst 0, 1, 0, 0, [])]
theorem ok_Pro_moveGiven_11 : blkOK b_Pro_moveGiven pt_Pro 12 I_Pro_moveGiven_11 = true := by decide +kernel
def I_Pro_moveGiven_12 : List IT := [(12, .istore_n 2, 1, 0, 0, []), (13, .aload_n 0, 1, 0, 0, []), (14, .getfield 13, 3, 0, 0, []), (17, .iload_n 1, 1, 0, 0, []), (18, .bipush 7, 2, 7, 0, []), (20, .iand, 1, 0, 0, []), (21, .iload_n 2, 1, 0, 0, []), (22, .aload_n 0, 1, 0, 0, []), (23, .getfield 34, 3, 0, 0, []), (26, .iload_n 2, 1, 0, 0, []), (27, .invokevirtual 126, 3, 0, 0, []), (30, .invokevirtual 137, 3, 0, 0, []), (33, .iconst 1, 1, 1, 0, []), (34, .ireturn, 1, 0, 0, [])]
theorem ok_Pro_moveGiven_12 : blkOK b_Pro_moveGiven pt_Pro 35 I_Pro_moveGiven_12 = true := by decide +kernel
def f_Pro_moveGiven_12 (σ : Sg) (x1 : Int32) (y0 : Int32) : Int32 × Sg := (bnd (f_Dec_nextOf σ y0) fun r1 => bnd (f_Reg_change r1.2 (x1 &&& (7 : Int32)) y0 r1.1) fun r2 => ((1 : Int32), r2))
theorem z_Pro_moveGiven_12 {σ : Sg} {x1 : Int32} {y0 : Int32} (z_y0 : y0 = 0 ∨ y0 = 1)  : (f_Pro_moveGiven_12 σ x1 y0).1 = 0 ∨ (f_Pro_moveGiven_12 σ x1 y0).1 = 1 := by
  show Zb (f_Pro_moveGiven_12 σ x1 y0)
  unfold f_Pro_moveGiven_12
  refine bnd_z fun r1 e1 => ?_
  refine bnd_z fun r2 e2 => ?_
  exact (Or.inr rfl)
abbrev w_Pro_moveGiven_12 : List (Nat × Option Nat) := [(3, some 2), (4, none)]
theorem p_Pro_moveGiven_12 {P : Sg → Prop} (hP : WP w_Pro_moveGiven_12 P) {σ : Sg} {x1 : Int32} {y0 : Int32} (h : P σ) : PP P (f_Pro_moveGiven_12 σ x1 y0) := by
  unfold f_Pro_moveGiven_12
  refine bnd_zz (Z := PP P) (p_Dec_nextOf (wsub hP rfl) h) fun r1 e1 q1 => ?_
  refine bnd_zz (Z := P) (p_Reg_change (wsub hP rfl) q1) fun r2 e2 q2 => ?_
  exact q2
set_option maxRecDepth 100000 in
set_option maxHeartbeats 4000000 in
theorem b_Pro_moveGiven_12 {l : Launch} {ad : Nat → Nat} {D : va_G} {cI : ClassId} {K : Option Value → Sg → Prop} {X : Nat → List Value → List Value → Sg → Prop} (hX : Cl l ad D cI mi_Pro_moveGiven pt_Pro K X) {σ : Sg} {x1 : Int32} {y0 : Int32} (z_y0 : y0 = 0 ∨ y0 = 1)  (hK : KI K (f_Pro_moveGiven_12 σ x1 y0)) : X 12 [.ref 12, .int x1, .null] [.int y0] σ := by
  unfold f_Pro_moveGiven_12 at hK
  refine hX.1 35 I_Pro_moveGiven_12 ok_Pro_moveGiven_12 _ _ _ ?_
  refine s_Dec_nextOf (bnd_g hK fun r1 e1 hK => ?_)
  refine s_Reg_change (bnd_g hK fun r2 e2 hK => ?_)
  exact And.intro (Or.inr rfl) hK
def f_Pro_moveGiven (σ : Sg) (a1 : Int32) : Int32 × Sg := (if a1 < (184 : Int32) then (f_Pro_moveGiven_12 σ a1 (0 : Int32)) else (f_Pro_moveGiven_12 σ a1 (1 : Int32)))
theorem z_Pro_moveGiven {σ : Sg} {a1 : Int32}   : (f_Pro_moveGiven σ a1).1 = 0 ∨ (f_Pro_moveGiven σ a1).1 = 1 := by
  show Zb (f_Pro_moveGiven σ a1)
  unfold f_Pro_moveGiven
  refine ite_z (fun h1 => ?_) (fun h1 => ?_)
  · exact z_Pro_moveGiven_12 (Or.inl rfl)
  · exact z_Pro_moveGiven_12 (Or.inr rfl)
abbrev w_Pro_moveGiven : List (Nat × Option Nat) := [(3, some 2), (4, none)]
theorem p_Pro_moveGiven {P : Sg → Prop} (hP : WP w_Pro_moveGiven P) {σ : Sg} {a1 : Int32} (h : P σ) : PP P (f_Pro_moveGiven σ a1) := by
  unfold f_Pro_moveGiven
  refine ite_z (fun _ => ?_) (fun _ => ?_)
  · exact p_Pro_moveGiven_12 (wsub hP rfl) h
  · exact p_Pro_moveGiven_12 (wsub hP rfl) h
set_option maxRecDepth 100000 in
set_option maxHeartbeats 4000000 in
theorem s_Pro_moveGiven {l : Launch} {ad : Nat → Nat} {D : va_G} {cI : ClassId} {σ : Sg} {a1 : Int32} {K : Option Value → Sg → Prop}   (hK : KI K (f_Pro_moveGiven σ a1)) : MetJ l ad D cI mi_Pro_moveGiven [.ref 12, .int a1] σ K := by
  refine met_of mi_Pro_moveGiven pt_Pro pt_Pro_in rfl pl_Pro rfl (Nat.le_of_ble_eq_true rfl) fun X hX => ?_
  have hX : Cl l ad D cI mi_Pro_moveGiven pt_Pro K X := hX
  show X 0 [.ref 12, .int a1, .null] [] σ
  unfold f_Pro_moveGiven at hK
  refine hX.1 11 I_Pro_moveGiven_0 ok_Pro_moveGiven_0 _ _ _ ?_
  refine And.intro (fun h1 => ?_) (fun h1 => ?_)
  · have hK := ite_p hK h1
    refine hX.1 12 I_Pro_moveGiven_11 ok_Pro_moveGiven_11 _ _ _ ?_
    exact b_Pro_moveGiven_12 hX (Or.inl rfl) hK
  · have hK := ite_n hK h1
    exact b_Pro_moveGiven_12 hX (Or.inr rfl) hK
def I_Pro_leave_0 : List IT := [(0, .iload_n 1, 1, 0, 0, []), (1, .sipush 195, 3, 195, 0, []), (4, .if_icmp .ne 17, 3, 0, 21, []), (7, .aload_n 0, 1, 0, 0, []), (8, .getfield 13, 3, 0, 0, []), (11, .aload_n 0, 1, 0, 0, []), (12, .invokevirtual 163, 3, 0, 0, []), (15, .putfield 78, 3, 0, 0, []), (18, .goto 75, 3, 0, 93, [])]
theorem ok_Pro_leave_0 : blkOK b_Pro_leave pt_Pro 21 I_Pro_leave_0 = true := by decide +kernel
def I_Pro_leave_21 : List IT := [(21, .iload_n 1, 1, 0, 0, []), (22, .sipush 205, 3, 205, 0, []), (25, .if_icmp .ne 17, 3, 0, 42, []), (28, .aload_n 0, 1, 0, 0, []), (29, .aload_n 0, 1, 0, 0, []), (30, .getfield 34, 3, 0, 0, []), (33, .invokevirtual 213, 3, 0, 0, []), (36, .invokevirtual 61, 3, 0, 0, []), (39, .goto 54, 3, 0, 93, [])]
theorem ok_Pro_leave_21 : blkOK b_Pro_leave pt_Pro 42 I_Pro_leave_21 = true := by decide +kernel
def I_Pro_leave_42 : List IT := [(42, .iload_n 1, 1, 0, 0, []), (43, .sipush 207, 3, 207, 0, []), (46, .if_icmp .ne 45, 3, 0, 91, []), (49, .aload_n 0, 1, 0, 0, []), (50, .getfield 13, 3, 0, 0, []), (53, .aload_n 0, 1, 0, 0, []), (54, .invokevirtual 163, 3, 0, 0, []), (57, .putfield 78, 3, 0, 0, []), (60, .aload_n 0, 1, 0, 0, []), (61, .getfield 13, 3, 0, 0, []), (64, .getfield 156, 3, 0, 0, []), (67, .iconst 1, 1, 1, 0, []), (68, .aload_n 0, 1, 0, 0, []), (69, .invokevirtual 163, 3, 0, 0, []), (72, .iastore, 1, 0, 0, []), (73, .aload_n 0, 1, 0, 0, []), (74, .getfield 17, 3, 0, 0, []), (77, .aload_n 0, 1, 0, 0, []), (78, .invokevirtual 163, 3, 0, 0, []), (81, .sipush 3777, 3, 3777, 0, []), (84, .iand, 1, 0, 0, []), (85, .putfield 216, 3, 0, 0, []), (88, .goto 5, 3, 0, 93, [])]
theorem ok_Pro_leave_42 : blkOK b_Pro_leave pt_Pro 91 I_Pro_leave_42 = true := by decide +kernel
def I_Pro_leave_91 : List IT := [(91, .iconst 0, 1, 0, 0, []), (92, .ireturn, 1, 0, 0, [])]
theorem ok_Pro_leave_91 : blkOK b_Pro_leave pt_Pro 93 I_Pro_leave_91 = true := by decide +kernel
def I_Pro_leave_93 : List IT := [(93, .iconst 1, 1, 1, 0, []), (94, .ireturn, 1, 0, 0, [])]
theorem ok_Pro_leave_93 : blkOK b_Pro_leave pt_Pro 95 I_Pro_leave_93 = true := by decide +kernel
def f_Pro_leave (σ : Sg) (a1 : Int32) : Int32 × Sg := (if a1 = (195 : Int32) then (bnd (f_Pro_pop σ) fun r2 => bnd (up2 r2.2 3 2 r2.1) fun s3 => ((1 : Int32), s3)) else (if a1 = (205 : Int32) then (bnd (f_Dec_nextByte σ) fun r5 => bnd (f_Pro_interrupt r5.2 r5.1) fun r6 => ((1 : Int32), r6)) else (if a1 = (207 : Int32) then (bnd (f_Pro_pop σ) fun r8 => bnd (up2 r8.2 3 2 r8.1) fun s9 => bnd (f_Pro_pop s9) fun r10 => bnd (up2 r10.2 5 (Int32.toNatClampNeg (1 : Int32)) r10.1) fun s11 => bnd (f_Pro_pop s11) fun r12 => bnd (up2 r12.2 6 0 (r12.1 &&& (3777 : Int32))) fun s13 => ((1 : Int32), s13)) else ((0 : Int32), σ))))
theorem z_Pro_leave {σ : Sg} {a1 : Int32}   : (f_Pro_leave σ a1).1 = 0 ∨ (f_Pro_leave σ a1).1 = 1 := by
  show Zb (f_Pro_leave σ a1)
  unfold f_Pro_leave
  refine ite_z (fun h1 => ?_) (fun h1 => ?_)
  · refine bnd_z fun r2 e2 => ?_
    refine bnd_z fun s3 e3 => ?_
    exact (Or.inr rfl)
  · refine ite_z (fun h4 => ?_) (fun h4 => ?_)
    · refine bnd_z fun r5 e5 => ?_
      refine bnd_z fun r6 e6 => ?_
      exact (Or.inr rfl)
    · refine ite_z (fun h7 => ?_) (fun h7 => ?_)
      · refine bnd_z fun r8 e8 => ?_
        refine bnd_z fun s9 e9 => ?_
        refine bnd_z fun r10 e10 => ?_
        refine bnd_z fun s11 e11 => ?_
        refine bnd_z fun r12 e12 => ?_
        refine bnd_z fun s13 e13 => ?_
        exact (Or.inr rfl)
      · exact (Or.inl rfl)
abbrev w_Pro_leave : List (Nat × Option Nat) := [(2, none), (3, some 2), (4, none), (5, none), (6, some 0), (12, some 7)]
theorem p_Pro_leave {P : Sg → Prop} (hP : WP w_Pro_leave P) {σ : Sg} {a1 : Int32} (h : P σ) : PP P (f_Pro_leave σ a1) := by
  unfold f_Pro_leave
  refine ite_z (fun _ => ?_) (fun _ => ?_)
  · refine bnd_zz (Z := PP P) (p_Pro_pop (wsub hP rfl) h) fun r2 e2 q2 => ?_
    refine bnd_zz (Z := P) (hP _ _ _ _ (Or.inr (by decide)) q2) fun s3 e3 q3 => ?_
    exact q3
  · refine ite_z (fun _ => ?_) (fun _ => ?_)
    · refine bnd_zz (Z := PP P) (p_Dec_nextByte (wsub hP rfl) h) fun r5 e5 q5 => ?_
      refine bnd_zz (Z := P) (p_Pro_interrupt (wsub hP rfl) q5) fun r6 e6 q6 => ?_
      exact q6
    · refine ite_z (fun _ => ?_) (fun _ => ?_)
      · refine bnd_zz (Z := PP P) (p_Pro_pop (wsub hP rfl) h) fun r8 e8 q8 => ?_
        refine bnd_zz (Z := P) (hP _ _ _ _ (Or.inr (by decide)) q8) fun s9 e9 q9 => ?_
        refine bnd_zz (Z := PP P) (p_Pro_pop (wsub hP rfl) q9) fun r10 e10 q10 => ?_
        refine bnd_zz (Z := P) (hP _ _ _ _ (Or.inl (by decide)) q10) fun s11 e11 q11 => ?_
        refine bnd_zz (Z := PP P) (p_Pro_pop (wsub hP rfl) q11) fun r12 e12 q12 => ?_
        refine bnd_zz (Z := P) (hP _ _ _ _ (Or.inr (by decide)) q12) fun s13 e13 q13 => ?_
        exact q13
      · exact h
set_option maxRecDepth 100000 in
set_option maxHeartbeats 4000000 in
theorem s_Pro_leave {l : Launch} {ad : Nat → Nat} {D : va_G} {cI : ClassId} {σ : Sg} {a1 : Int32} {K : Option Value → Sg → Prop}   (hK : KI K (f_Pro_leave σ a1)) : MetJ l ad D cI mi_Pro_leave [.ref 12, .int a1] σ K := by
  refine met_of mi_Pro_leave pt_Pro pt_Pro_in rfl pl_Pro rfl (Nat.le_of_ble_eq_true rfl) fun X hX => ?_
  have hX : Cl l ad D cI mi_Pro_leave pt_Pro K X := hX
  show X 0 [.ref 12, .int a1] [] σ
  unfold f_Pro_leave at hK
  refine hX.1 21 I_Pro_leave_0 ok_Pro_leave_0 _ _ _ ?_
  refine And.intro (fun h1 => ?_) (fun h1 => ?_)
  · have hK := ite_p hK h1
    refine s_Pro_pop (bnd_g hK fun r2 e2 hK => ?_)
    refine And.intro trivial (SG_g hK fun s3 e3 hK => ?_)
    refine hX.1 95 I_Pro_leave_93 ok_Pro_leave_93 _ _ _ ?_
    exact And.intro (Or.inr rfl) hK
  · have hK := ite_n hK h1
    refine hX.1 42 I_Pro_leave_21 ok_Pro_leave_21 _ _ _ ?_
    refine And.intro (fun h4 => ?_) (fun h4 => ?_)
    · have hK := ite_p hK h4
      refine s_Dec_nextByte (bnd_g hK fun r5 e5 hK => ?_)
      refine s_Pro_interrupt (bnd_g hK fun r6 e6 hK => ?_)
      refine hX.1 95 I_Pro_leave_93 ok_Pro_leave_93 _ _ _ ?_
      exact And.intro (Or.inr rfl) hK
    · have hK := ite_n hK h4
      refine hX.1 91 I_Pro_leave_42 ok_Pro_leave_42 _ _ _ ?_
      refine And.intro (fun h7 => ?_) (fun h7 => ?_)
      · have hK := ite_p hK h7
        refine s_Pro_pop (bnd_g hK fun r8 e8 hK => ?_)
        refine And.intro trivial (SG_g hK fun s9 e9 hK => ?_)
        refine s_Pro_pop (bnd_g hK fun r10 e10 hK => ?_)
        refine And.intro (vin (by decide)) (SG_g hK fun s11 e11 hK => ?_)
        refine s_Pro_pop (bnd_g hK fun r12 e12 hK => ?_)
        refine And.intro trivial (SG_g hK fun s13 e13 hK => ?_)
        refine hX.1 95 I_Pro_leave_93 ok_Pro_leave_93 _ _ _ ?_
        exact And.intro (Or.inr rfl) hK
      · have hK := ite_n hK h7
        refine hX.1 93 I_Pro_leave_91 ok_Pro_leave_91 _ _ _ ?_
        exact And.intro (Or.inl rfl) hK
def I_Pro_loop_0 : List IT := [(0, .aload_n 0, 1, 0, 0, []), (1, .getfield 13, 3, 0, 0, []), (4, .getfield 166, 3, 0, 0, []), (7, .iconst 1, 1, 1, 0, []), (8, .iaload, 1, 0, 0, []), (9, .iconst 1, 1, 1, 0, []), (10, .isub, 1, 0, 0, []), (11, .ldc 155, 2, 65535, 0, []), (13, .iand, 1, 0, 0, []), (14, .istore_n 2, 1, 0, 0, []), (15, .aload_n 0, 1, 0, 0, []), (16, .getfield 13, 3, 0, 0, []), (19, .getfield 166, 3, 0, 0, []), (22, .iconst 1, 1, 1, 0, []), (23, .iload_n 2, 1, 0, 0, []), (24, .iastore, 1, 0, 0, []), (25, .iload_n 2, 1, 0, 0, []), (26, .ifCond .eq 11, 3, 0, 37, []), (29, .aload_n 0, 1, 0, 0, []), (30, .getfield 13, 3, 0, 0, []), (33, .iload_n 1, 1, 0, 0, []), (34, .invokevirtual 178, 3, 0, 0, [])]
theorem ok_Pro_loop_0 : blkOK b_Pro_loop pt_Pro 37 I_Pro_loop_0 = true := by decide +kernel
def I_Pro_loop_37 : List IT := [(37, .return_, 1, 0, 0, [])]
theorem ok_Pro_loop_37 : blkOK b_Pro_loop pt_Pro 38 I_Pro_loop_37 = true := by decide +kernel
def f_Pro_loop (σ : Sg) (a1 : Int32) : Sg := (bnd (up2 σ 4 (Int32.toNatClampNeg (1 : Int32)) (((σ 4 (Int32.toNatClampNeg (1 : Int32))) - (1 : Int32)) &&& (65535 : Int32))) fun s1 => (if (((σ 4 (Int32.toNatClampNeg (1 : Int32))) - (1 : Int32)) &&& (65535 : Int32)) = (0 : Int32) then s1 else (bnd (f_Reg_jump s1 a1) fun r3 => r3)))
abbrev w_Pro_loop : List (Nat × Option Nat) := [(3, some 2), (4, none)]
theorem p_Pro_loop {P : Sg → Prop} (hP : WP w_Pro_loop P) {σ : Sg} {a1 : Int32} (h : P σ) : P (f_Pro_loop σ a1) := by
  unfold f_Pro_loop
  refine bnd_zz (Z := P) (hP _ _ _ _ (Or.inl (by decide)) h) fun s1 e1 q1 => ?_
  refine ite_z (fun _ => ?_) (fun _ => ?_)
  · exact q1
  · refine bnd_zz (Z := P) (p_Reg_jump (wsub hP rfl) q1) fun r3 e3 q3 => ?_
    exact q3
set_option maxRecDepth 100000 in
set_option maxHeartbeats 4000000 in
theorem s_Pro_loop {l : Launch} {ad : Nat → Nat} {D : va_G} {cI : ClassId} {σ : Sg} {a1 : Int32} {K : Option Value → Sg → Prop}   (hK : KV K (f_Pro_loop σ a1)) : MetJ l ad D cI mi_Pro_loop [.ref 12, .int a1] σ K := by
  refine met_of mi_Pro_loop pt_Pro pt_Pro_in rfl pl_Pro rfl (Nat.le_of_ble_eq_true rfl) fun X hX => ?_
  have hX : Cl l ad D cI mi_Pro_loop pt_Pro K X := hX
  show X 0 [.ref 12, .int a1, .null] [] σ
  unfold f_Pro_loop at hK
  refine hX.1 37 I_Pro_loop_0 ok_Pro_loop_0 _ _ _ ?_
  refine And.intro (vin (by decide)) ?_
  refine And.intro (vin (by decide)) (SG_g hK fun s1 e1 hK => ?_)
  refine And.intro (fun h2 => ?_) (fun h2 => ?_)
  · have hK := ite_p hK h2
    refine hX.1 38 I_Pro_loop_37 ok_Pro_loop_37 _ _ _ ?_
    exact hK
  · have hK := ite_n hK h2
    refine s_Reg_jump (bnd_g hK fun r3 e3 hK => ?_)
    refine hX.1 38 I_Pro_loop_37 ok_Pro_loop_37 _ _ _ ?_
    exact hK
def I_Pro_visit_0 : List IT := [(0, .aload_n 0, 1, 0, 0, []), (1, .aload_n 0, 1, 0, 0, []), (2, .getfield 13, 3, 0, 0, []), (5, .getfield 78, 3, 0, 0, []), (8, .invokevirtual 160, 3, 0, 0, []), (11, .aload_n 0, 1, 0, 0, []), (12, .getfield 13, 3, 0, 0, []), (15, .iload_n 1, 1, 0, 0, []), (16, .invokevirtual 178, 3, 0, 0, []), (19, .return_, 1, 0, 0, [])]
theorem ok_Pro_visit_0 : blkOK b_Pro_visit pt_Pro 20 I_Pro_visit_0 = true := by decide +kernel
def f_Pro_visit (σ : Sg) (a1 : Int32) : Sg := (bnd (f_Pro_push σ (σ 3 2)) fun r1 => bnd (f_Reg_jump r1 a1) fun r2 => r2)
abbrev w_Pro_visit : List (Nat × Option Nat) := [(2, none), (3, some 2), (4, none)]
theorem p_Pro_visit {P : Sg → Prop} (hP : WP w_Pro_visit P) {σ : Sg} {a1 : Int32} (h : P σ) : P (f_Pro_visit σ a1) := by
  unfold f_Pro_visit
  refine bnd_zz (Z := P) (p_Pro_push (wsub hP rfl) h) fun r1 e1 q1 => ?_
  refine bnd_zz (Z := P) (p_Reg_jump (wsub hP rfl) q1) fun r2 e2 q2 => ?_
  exact q2
set_option maxRecDepth 100000 in
set_option maxHeartbeats 4000000 in
theorem s_Pro_visit {l : Launch} {ad : Nat → Nat} {D : va_G} {cI : ClassId} {σ : Sg} {a1 : Int32} {K : Option Value → Sg → Prop}   (hK : KV K (f_Pro_visit σ a1)) : MetJ l ad D cI mi_Pro_visit [.ref 12, .int a1] σ K := by
  refine met_of mi_Pro_visit pt_Pro pt_Pro_in rfl pl_Pro rfl (Nat.le_of_ble_eq_true rfl) fun X hX => ?_
  have hX : Cl l ad D cI mi_Pro_visit pt_Pro K X := hX
  show X 0 [.ref 12, .int a1] [] σ
  unfold f_Pro_visit at hK
  refine hX.1 20 I_Pro_visit_0 ok_Pro_visit_0 _ _ _ ?_
  refine s_Pro_push (bnd_g hK fun r1 e1 hK => ?_)
  refine s_Reg_jump (bnd_g hK fun r2 e2 hK => ?_)
  exact hK
