def I_Mod_less_0 : List IT := [(0, .iload_n 1, 1, 0, 0, []), (1, .iload_n 2, 1, 0, 0, []), (2, .isub, 1, 0, 0, []), (3, .iload_n 3, 1, 0, 0, []), (4, .isub, 1, 0, 0, []), (5, .istore 5, 2, 0, 0, []), (7, .aload_n 0, 1, 0, 0, []), (8, .iconst 1, 1, 1, 0, []), (9, .iload 5, 2, 0, 0, []), (11, .ifCond .ge 7, 3, 0, 18, []), (14, .iconst 1, 1, 1, 0, []), (15, .goto 4, 3, 0, 19, [])]
theorem ok_Mod_less_0 : blkOK b_Mod_less pt_Mod 18 I_Mod_less_0 = true := by decide +kernel
def I_Mod_less_18 : List IT := [(18, .iconst 0, 1, 0, 0, [])]
theorem ok_Mod_less_18 : blkOK b_Mod_less pt_Mod 19 I_Mod_less_18 = true := by decide +kernel
def I_Mod_less_19 : List IT := [(19, .invokevirtual 95, 3, 0, 0, []), (22, .aload_n 0, 1, 0, 0, []), (23, .sipush 2048, 3, 2048, 0, []), (26, .iload_n 1, 1, 0, 0, []), (27, .iload 4, 2, 0, 0, []), (29, .invokestatic 104, 3, 0, 0, []), (32, .iload_n 2, 1, 0, 0, []), (33, .iload 4, 2, 0, 0, []), (35, .invokestatic 104, 3, 0, 0, []), (38, .isub, 1, 0, 0, []), (39, .iload_n 3, 1, 0, 0, []), (40, .isub, 1, 0, 0, []), (41, .iload 4, 2, 0, 0, []), (43, .invokestatic 107, 3, 0, 0, []), (46, .ifCond .ne 7, 3, 0, 53, []), (49, .iconst 1, 1, 1, 0, []), (50, .goto 4, 3, 0, 54, [])]
theorem ok_Mod_less_19 : blkOK b_Mod_less pt_Mod 53 I_Mod_less_19 = true := by decide +kernel
def I_Mod_less_53 : List IT := [(53, .iconst 0, 1, 0, 0, [])]
theorem ok_Mod_less_53 : blkOK b_Mod_less pt_Mod 54 I_Mod_less_53 = true := by decide +kernel
def I_Mod_less_54 : List IT := [(54, .invokevirtual 95, 3, 0, 0, []), (57, .aload_n 0, 1, 0, 0, []), (58, .iload 5, 2, 0, 0, []), (60, .iload 4, 2, 0, 0, []), (62, .invokevirtual 111, 3, 0, 0, []), (65, .iload 5, 2, 0, 0, []), (67, .iload 4, 2, 0, 0, []), (69, .ifCond .eq 8, 3, 0, 77, []), (72, .ldc 32, 2, 65535, 0, []), (74, .goto 6, 3, 0, 80, [])]
theorem ok_Mod_less_54 : blkOK b_Mod_less pt_Mod 77 I_Mod_less_54 = true := by decide +kernel
def I_Mod_less_77 : List IT := [(77, .sipush 255, 3, 255, 0, [])]
theorem ok_Mod_less_77 : blkOK b_Mod_less pt_Mod 80 I_Mod_less_77 = true := by decide +kernel
def I_Mod_less_80 : List IT := [(80, .iand, 1, 0, 0, []), (81, .ireturn, 1, 0, 0, [])]
theorem ok_Mod_less_80 : blkOK b_Mod_less pt_Mod 82 I_Mod_less_80 = true := by decide +kernel
def f_Mod_less_54 (σ : Sg) (x4 : Int32) (x5 : Int32) (y0 : Int32) (y1 : Int32) : Int32 × Sg := (bnd (f_Mod_flag σ y1 y0) fun r1 => bnd (f_Mod_zeroAndSign r1 x5 x4) fun r2 => (if x4 = (0 : Int32) then ((x5 &&& (255 : Int32)), r2) else ((x5 &&& (65535 : Int32)), r2)))
abbrev w_Mod_less_54 : List (Nat × Option Nat) := [(15, some 4)]
theorem p_Mod_less_54 {P : Sg → Prop} (hP : WP w_Mod_less_54 P) {σ : Sg} {x4 : Int32} {x5 : Int32} {y0 : Int32} {y1 : Int32} (h : P σ) : PP P (f_Mod_less_54 σ x4 x5 y0 y1) := by
  unfold f_Mod_less_54
  refine bnd_zz (Z := P) (p_Mod_flag (wsub hP rfl) h) fun r1 e1 q1 => ?_
  refine bnd_zz (Z := P) (p_Mod_zeroAndSign (wsub hP rfl) q1) fun r2 e2 q2 => ?_
  refine ite_z (fun _ => ?_) (fun _ => ?_)
  · exact q2
  · exact q2
set_option maxRecDepth 100000 in
set_option maxHeartbeats 4000000 in
theorem b_Mod_less_54 {l : Launch} {ad : Nat → Nat} {D : va_G} {cI : ClassId} {K : Option Value → Sg → Prop} {X : Nat → List Value → List Value → Sg → Prop} (hX : Cl l ad D cI mi_Mod_less pt_Mod K X) {σ : Sg} {x4 : Int32} {x5 : Int32} {y0 : Int32} {y1 : Int32} (z_y0 : y0 = 0 ∨ y0 = 1)  (hK : KI K (f_Mod_less_54 σ x4 x5 y0 y1)) : X 54 [.ref 15, .null, .null, .null, .int x4, .int x5] [.int y0, .int y1, .ref 15] σ := by
  unfold f_Mod_less_54 at hK
  refine hX.1 77 I_Mod_less_54 ok_Mod_less_54 _ _ _ ?_
  refine s_Mod_flag (bnd_g hK fun r1 e1 hK => ?_)
  refine s_Mod_zeroAndSign (bnd_g hK fun r2 e2 hK => ?_)
  refine And.intro (fun h3 => ?_) (fun h3 => ?_)
  · have hK := ite_p hK h3
    refine hX.1 80 I_Mod_less_77 ok_Mod_less_77 _ _ _ ?_
    refine hX.1 82 I_Mod_less_80 ok_Mod_less_80 _ _ _ ?_
    exact hK
  · have hK := ite_n hK h3
    refine hX.1 82 I_Mod_less_80 ok_Mod_less_80 _ _ _ ?_
    exact hK
def f_Mod_less_19 (σ : Sg) (x1 : Int32) (x2 : Int32) (x3 : Int32) (x4 : Int32) (x5 : Int32) (y0 : Int32) (y1 : Int32) : Int32 × Sg := (bnd (f_Mod_flag σ y1 y0) fun r1 => bnd (f_Mod_signed r1 x1 x4) fun r2 => bnd (f_Mod_signed r2.2 x2 x4) fun r3 => bnd (f_Mod_hasRoom r3.2 ((r2.1 - r3.1) - x3) x4) fun r4 => (if r4.1 = (0 : Int32) then (f_Mod_less_54 r4.2 x4 x5 (1 : Int32) (2048 : Int32)) else (f_Mod_less_54 r4.2 x4 x5 (0 : Int32) (2048 : Int32))))
abbrev w_Mod_less_19 : List (Nat × Option Nat) := [(15, some 4)]
theorem p_Mod_less_19 {P : Sg → Prop} (hP : WP w_Mod_less_19 P) {σ : Sg} {x1 : Int32} {x2 : Int32} {x3 : Int32} {x4 : Int32} {x5 : Int32} {y0 : Int32} {y1 : Int32} (h : P σ) : PP P (f_Mod_less_19 σ x1 x2 x3 x4 x5 y0 y1) := by
  unfold f_Mod_less_19
  refine bnd_zz (Z := P) (p_Mod_flag (wsub hP rfl) h) fun r1 e1 q1 => ?_
  refine bnd_zz (Z := PP P) (p_Mod_signed (wsub hP rfl) q1) fun r2 e2 q2 => ?_
  refine bnd_zz (Z := PP P) (p_Mod_signed (wsub hP rfl) q2) fun r3 e3 q3 => ?_
  refine bnd_zz (Z := PP P) (p_Mod_hasRoom (wsub hP rfl) q3) fun r4 e4 q4 => ?_
  refine ite_z (fun _ => ?_) (fun _ => ?_)
  · exact p_Mod_less_54 (wsub hP rfl) q4
  · exact p_Mod_less_54 (wsub hP rfl) q4
set_option maxRecDepth 100000 in
set_option maxHeartbeats 4000000 in
theorem b_Mod_less_19 {l : Launch} {ad : Nat → Nat} {D : va_G} {cI : ClassId} {K : Option Value → Sg → Prop} {X : Nat → List Value → List Value → Sg → Prop} (hX : Cl l ad D cI mi_Mod_less pt_Mod K X) {σ : Sg} {x1 : Int32} {x2 : Int32} {x3 : Int32} {x4 : Int32} {x5 : Int32} {y0 : Int32} {y1 : Int32} (z_y0 : y0 = 0 ∨ y0 = 1) (z_y1 : y1 = 0 ∨ y1 = 1)  (hK : KI K (f_Mod_less_19 σ x1 x2 x3 x4 x5 y0 y1)) : X 19 [.ref 15, .int x1, .int x2, .int x3, .int x4, .int x5] [.int y0, .int y1, .ref 15] σ := by
  unfold f_Mod_less_19 at hK
  refine hX.1 53 I_Mod_less_19 ok_Mod_less_19 _ _ _ ?_
  refine s_Mod_flag (bnd_g hK fun r1 e1 hK => ?_)
  refine s_Mod_signed (bnd_g hK fun r2 e2 hK => ?_)
  refine s_Mod_signed (bnd_g hK fun r3 e3 hK => ?_)
  refine s_Mod_hasRoom (bnd_g hK fun r4 e4 hK => ?_)
  have z4 : r4.1 = 0 ∨ r4.1 = 1 := by rw [← e4]; exact z_Mod_hasRoom
  refine And.intro (fun h5 => ?_) (fun h5 => ?_)
  · have hK := ite_p hK h5
    refine hX.fg [1, 2, 3] ?_
    exact b_Mod_less_54 hX (Or.inr rfl)  hK
  · have hK := ite_n hK h5
    refine hX.1 54 I_Mod_less_53 ok_Mod_less_53 _ _ _ ?_
    refine hX.fg [1, 2, 3] ?_
    exact b_Mod_less_54 hX (Or.inl rfl)  hK
def f_Mod_less (σ : Sg) (a1 : Int32) (a2 : Int32) (a3 : Int32) (a4 : Int32) : Int32 × Sg := (if (0 : Int32) ≤ ((a1 - a2) - a3) then (f_Mod_less_19 σ a1 a2 a3 a4 ((a1 - a2) - a3) (0 : Int32) (1 : Int32)) else (f_Mod_less_19 σ a1 a2 a3 a4 ((a1 - a2) - a3) (1 : Int32) (1 : Int32)))
abbrev w_Mod_less : List (Nat × Option Nat) := [(15, some 4)]
theorem p_Mod_less {P : Sg → Prop} (hP : WP w_Mod_less P) {σ : Sg} {a1 : Int32} {a2 : Int32} {a3 : Int32} {a4 : Int32} (h : P σ) : PP P (f_Mod_less σ a1 a2 a3 a4) := by
  unfold f_Mod_less
  refine ite_z (fun _ => ?_) (fun _ => ?_)
  · exact p_Mod_less_19 (wsub hP rfl) h
  · exact p_Mod_less_19 (wsub hP rfl) h
set_option maxRecDepth 100000 in
set_option maxHeartbeats 4000000 in
theorem s_Mod_less {l : Launch} {ad : Nat → Nat} {D : va_G} {cI : ClassId} {σ : Sg} {a1 : Int32} {a2 : Int32} {a3 : Int32} {a4 : Int32} {K : Option Value → Sg → Prop}   (hK : KI K (f_Mod_less σ a1 a2 a3 a4)) : MetJ l ad D cI mi_Mod_less [.ref 15, .int a1, .int a2, .int a3, .int a4] σ K := by
  refine met_of mi_Mod_less pt_Mod pt_Mod_in rfl pl_Mod rfl (Nat.le_of_ble_eq_true rfl) fun X hX => ?_
  have hX : Cl l ad D cI mi_Mod_less pt_Mod K X := hX
  show X 0 [.ref 15, .int a1, .int a2, .int a3, .int a4, .null] [] σ
  unfold f_Mod_less at hK
  refine hX.1 18 I_Mod_less_0 ok_Mod_less_0 _ _ _ ?_
  refine And.intro (fun h1 => ?_) (fun h1 => ?_)
  · have hK := ite_p hK h1
    refine hX.1 19 I_Mod_less_18 ok_Mod_less_18 _ _ _ ?_
    exact b_Mod_less_19 hX (Or.inl rfl) (Or.inr rfl)  hK
  · have hK := ite_n hK h1
    exact b_Mod_less_19 hX (Or.inr rfl) (Or.inr rfl)  hK
def I_Mod_logic_0 : List IT := [(0, .aload_n 0, 1, 0, 0, []), (1, .iconst 1, 1, 1, 0, []), (2, .iconst 0, 1, 0, 0, []), (3, .invokevirtual 95, 3, 0, 0, []), (6, .aload_n 0, 1, 0, 0, []), (7, .sipush 2048, 3, 2048, 0, []), (10, .iconst 0, 1, 0, 0, []), (11, .invokevirtual 95, 3, 0, 0, []), (14, .aload_n 0, 1, 0, 0, []), (15, .iload_n 1, 1, 0, 0, []), (16, .iload_n 2, 1, 0, 0, []), (17, .invokevirtual 111, 3, 0, 0, []), (20, .iload_n 1, 1, 0, 0, []), (21, .ireturn, 1, 0, 0, [])]
theorem ok_Mod_logic_0 : blkOK b_Mod_logic pt_Mod 22 I_Mod_logic_0 = true := by decide +kernel
def f_Mod_logic (σ : Sg) (a1 : Int32) (a2 : Int32) : Int32 × Sg := (bnd (f_Mod_flag σ (1 : Int32) (0 : Int32)) fun r1 => bnd (f_Mod_flag r1 (2048 : Int32) (0 : Int32)) fun r2 => bnd (f_Mod_zeroAndSign r2 a1 a2) fun r3 => (a1, r3))
abbrev w_Mod_logic : List (Nat × Option Nat) := [(15, some 4)]
theorem p_Mod_logic {P : Sg → Prop} (hP : WP w_Mod_logic P) {σ : Sg} {a1 : Int32} {a2 : Int32} (h : P σ) : PP P (f_Mod_logic σ a1 a2) := by
  unfold f_Mod_logic
  refine bnd_zz (Z := P) (p_Mod_flag (wsub hP rfl) h) fun r1 e1 q1 => ?_
  refine bnd_zz (Z := P) (p_Mod_flag (wsub hP rfl) q1) fun r2 e2 q2 => ?_
  refine bnd_zz (Z := P) (p_Mod_zeroAndSign (wsub hP rfl) q2) fun r3 e3 q3 => ?_
  exact q3
set_option maxRecDepth 100000 in
set_option maxHeartbeats 4000000 in
theorem s_Mod_logic {l : Launch} {ad : Nat → Nat} {D : va_G} {cI : ClassId} {σ : Sg} {a1 : Int32} {a2 : Int32} {K : Option Value → Sg → Prop}   (hK : KI K (f_Mod_logic σ a1 a2)) : MetJ l ad D cI mi_Mod_logic [.ref 15, .int a1, .int a2] σ K := by
  refine met_of mi_Mod_logic pt_Mod pt_Mod_in rfl pl_Mod rfl (Nat.le_of_ble_eq_true rfl) fun X hX => ?_
  have hX : Cl l ad D cI mi_Mod_logic pt_Mod K X := hX
  show X 0 [.ref 15, .int a1, .int a2] [] σ
  unfold f_Mod_logic at hK
  refine hX.1 22 I_Mod_logic_0 ok_Mod_logic_0 _ _ _ ?_
  refine s_Mod_flag (bnd_g hK fun r1 e1 hK => ?_)
  refine s_Mod_flag (bnd_g hK fun r2 e2 hK => ?_)
  refine s_Mod_zeroAndSign (bnd_g hK fun r3 e3 hK => ?_)
  exact hK
def I_Mod_combine_0 : List IT := [(0, .aload_n 0, 1, 0, 0, []), (1, .iconst 1, 1, 1, 0, []), (2, .invokevirtual 114, 3, 0, 0, []), (5, .ifCond .eq 7, 3, 0, 12, []), (8, .iconst 1, 1, 1, 0, []), (9, .goto 4, 3, 0, 13, [])]
theorem ok_Mod_combine_0 : blkOK b_Mod_combine pt_Mod 12 I_Mod_combine_0 = true := by decide +kernel
def I_Mod_combine_12 : List IT := [(12, .iconst 0, 1, 0, 0, [])]
theorem ok_Mod_combine_12 : blkOK b_Mod_combine pt_Mod 13 I_Mod_combine_12 = true := by decide +kernel
def I_Mod_combine_13 : List IT := [(13, .istore 5, 2, 0, 0, []), (15, .iload_n 1, 1, 0, 0, []), (16, .tableswitch 116 0 6 #[44, 54, 64, 75, 86, 96, 106], 44, 0, 132, [(0, 60), (1, 70), (2, 80), (3, 91), (4, 102), (5, 112), (6, 122)])]
theorem ok_Mod_combine_13 : blkOK b_Mod_combine pt_Mod 60 I_Mod_combine_13 = true := by decide +kernel
def I_Mod_combine_60 : List IT := [(60, .aload_n 0, 1, 0, 0, []), (61, .iload_n 2, 1, 0, 0, []), (62, .iload_n 3, 1, 0, 0, []), (63, .iconst 0, 1, 0, 0, []), (64, .iload 4, 2, 0, 0, []), (66, .invokevirtual 118, 3, 0, 0, []), (69, .ireturn, 1, 0, 0, [])]
theorem ok_Mod_combine_60 : blkOK b_Mod_combine pt_Mod 70 I_Mod_combine_60 = true := by decide +kernel
def I_Mod_combine_70 : List IT := [(70, .aload_n 0, 1, 0, 0, []), (71, .iload_n 2, 1, 0, 0, []), (72, .iload_n 3, 1, 0, 0, []), (73, .ior, 1, 0, 0, []), (74, .iload 4, 2, 0, 0, []), (76, .invokevirtual 122, 3, 0, 0, []), (79, .ireturn, 1, 0, 0, [])]
theorem ok_Mod_combine_70 : blkOK b_Mod_combine pt_Mod 80 I_Mod_combine_70 = true := by decide +kernel
def I_Mod_combine_80 : List IT := [(80, .aload_n 0, 1, 0, 0, []), (81, .iload_n 2, 1, 0, 0, []), (82, .iload_n 3, 1, 0, 0, []), (83, .iload 5, 2, 0, 0, []), (85, .iload 4, 2, 0, 0, []), (87, .invokevirtual 118, 3, 0, 0, []), (90, .ireturn, 1, 0, 0, [])]
theorem ok_Mod_combine_80 : blkOK b_Mod_combine pt_Mod 91 I_Mod_combine_80 = true := by decide +kernel
def I_Mod_combine_91 : List IT := [(91, .aload_n 0, 1, 0, 0, []), (92, .iload_n 2, 1, 0, 0, []), (93, .iload_n 3, 1, 0, 0, []), (94, .iload 5, 2, 0, 0, []), (96, .iload 4, 2, 0, 0, []), (98, .invokevirtual 125, 3, 0, 0, []), (101, .ireturn, 1, 0, 0, [])]
theorem ok_Mod_combine_91 : blkOK b_Mod_combine pt_Mod 102 I_Mod_combine_91 = true := by decide +kernel
def I_Mod_combine_102 : List IT := [(102, .aload_n 0, 1, 0, 0, []), (103, .iload_n 2, 1, 0, 0, []), (104, .iload_n 3, 1, 0, 0, []), (105, .iand, 1, 0, 0, []), (106, .iload 4, 2, 0, 0, []), (108, .invokevirtual 122, 3, 0, 0, []), (111, .ireturn, 1, 0, 0, [])]
theorem ok_Mod_combine_102 : blkOK b_Mod_combine pt_Mod 112 I_Mod_combine_102 = true := by decide +kernel
def I_Mod_combine_112 : List IT := [(112, .aload_n 0, 1, 0, 0, []), (113, .iload_n 2, 1, 0, 0, []), (114, .iload_n 3, 1, 0, 0, []), (115, .iconst 0, 1, 0, 0, []), (116, .iload 4, 2, 0, 0, []), (118, .invokevirtual 125, 3, 0, 0, []), (121, .ireturn, 1, 0, 0, [])]
theorem ok_Mod_combine_112 : blkOK b_Mod_combine pt_Mod 122 I_Mod_combine_112 = true := by decide +kernel
def I_Mod_combine_122 : List IT := [(122, .aload_n 0, 1, 0, 0, []), (123, .iload_n 2, 1, 0, 0, []), (124, .iload_n 3, 1, 0, 0, []), (125, .ixor, 1, 0, 0, []), (126, .iload 4, 2, 0, 0, []), (128, .invokevirtual 122, 3, 0, 0, []), (131, .ireturn, 1, 0, 0, [])]
theorem ok_Mod_combine_122 : blkOK b_Mod_combine pt_Mod 132 I_Mod_combine_122 = true := by decide +kernel
def I_Mod_combine_132 : List IT := [(132, .aload_n 0, 1, 0, 0, []), (133, .iload_n 2, 1, 0, 0, []), (134, .iload_n 3, 1, 0, 0, []), (135, .iconst 0, 1, 0, 0, []), (136, .iload 4, 2, 0, 0, []), (138, .invokevirtual 125, 3, 0, 0, []), (141, .pop, 1, 0, 0, []), (142, .iload_n 2, 1, 0, 0, []), (143, .ireturn, 1, 0, 0, [])]
theorem ok_Mod_combine_132 : blkOK b_Mod_combine pt_Mod 144 I_Mod_combine_132 = true := by decide +kernel
def f_Mod_combine_13 (σ : Sg) (x1 : Int32) (x2 : Int32) (x3 : Int32) (x4 : Int32) (y0 : Int32) : Int32 × Sg := (if x1 = (0 : Int32) then (bnd (f_Mod_plus σ x2 x3 (0 : Int32) x4) fun r2 => (r2.1, r2.2)) else (if x1 = (1 : Int32) then (bnd (f_Mod_logic σ (x2 ||| x3) x4) fun r4 => (r4.1, r4.2)) else (if x1 = (2 : Int32) then (bnd (f_Mod_plus σ x2 x3 y0 x4) fun r6 => (r6.1, r6.2)) else (if x1 = (3 : Int32) then (bnd (f_Mod_less σ x2 x3 y0 x4) fun r8 => (r8.1, r8.2)) else (if x1 = (4 : Int32) then (bnd (f_Mod_logic σ (x2 &&& x3) x4) fun r10 => (r10.1, r10.2)) else (if x1 = (5 : Int32) then (bnd (f_Mod_less σ x2 x3 (0 : Int32) x4) fun r12 => (r12.1, r12.2)) else (if x1 = (6 : Int32) then (bnd (f_Mod_logic σ (x2 ^^^ x3) x4) fun r14 => (r14.1, r14.2)) else (bnd (f_Mod_less σ x2 x3 (0 : Int32) x4) fun r15 => (x2, r15.2)))))))))
abbrev w_Mod_combine_13 : List (Nat × Option Nat) := [(15, some 4)]
theorem p_Mod_combine_13 {P : Sg → Prop} (hP : WP w_Mod_combine_13 P) {σ : Sg} {x1 : Int32} {x2 : Int32} {x3 : Int32} {x4 : Int32} {y0 : Int32} (h : P σ) : PP P (f_Mod_combine_13 σ x1 x2 x3 x4 y0) := by
  unfold f_Mod_combine_13
  refine ite_z (fun _ => ?_) (fun _ => ?_)
  · refine bnd_zz (Z := PP P) (p_Mod_plus (wsub hP rfl) h) fun r2 e2 q2 => ?_
    exact q2
  refine ite_z (fun _ => ?_) (fun _ => ?_)
  · refine bnd_zz (Z := PP P) (p_Mod_logic (wsub hP rfl) h) fun r4 e4 q4 => ?_
    exact q4
  refine ite_z (fun _ => ?_) (fun _ => ?_)
  · refine bnd_zz (Z := PP P) (p_Mod_plus (wsub hP rfl) h) fun r6 e6 q6 => ?_
    exact q6
  refine ite_z (fun _ => ?_) (fun _ => ?_)
  · refine bnd_zz (Z := PP P) (p_Mod_less (wsub hP rfl) h) fun r8 e8 q8 => ?_
    exact q8
  refine ite_z (fun _ => ?_) (fun _ => ?_)
  · refine bnd_zz (Z := PP P) (p_Mod_logic (wsub hP rfl) h) fun r10 e10 q10 => ?_
    exact q10
  refine ite_z (fun _ => ?_) (fun _ => ?_)
  · refine bnd_zz (Z := PP P) (p_Mod_less (wsub hP rfl) h) fun r12 e12 q12 => ?_
    exact q12
  refine ite_z (fun _ => ?_) (fun _ => ?_)
  · refine bnd_zz (Z := PP P) (p_Mod_logic (wsub hP rfl) h) fun r14 e14 q14 => ?_
    exact q14
  refine bnd_zz (Z := PP P) (p_Mod_less (wsub hP rfl) h) fun r15 e15 q15 => ?_
  exact q15
set_option maxRecDepth 100000 in
set_option maxHeartbeats 4000000 in
theorem b_Mod_combine_13 {l : Launch} {ad : Nat → Nat} {D : va_G} {cI : ClassId} {K : Option Value → Sg → Prop} {X : Nat → List Value → List Value → Sg → Prop} (hX : Cl l ad D cI mi_Mod_combine pt_Mod K X) {σ : Sg} {x1 : Int32} {x2 : Int32} {x3 : Int32} {x4 : Int32} {y0 : Int32} (z_y0 : y0 = 0 ∨ y0 = 1)  (hK : KI K (f_Mod_combine_13 σ x1 x2 x3 x4 y0)) : X 13 [.ref 15, .int x1, .int x2, .int x3, .int x4, .null] [.int y0] σ := by
  unfold f_Mod_combine_13 at hK
  refine hX.1 60 I_Mod_combine_13 ok_Mod_combine_13 _ _ _ ?_
  refine And.intro (fun h1 => ?_) (fun h1 => ?_)
  · have hK := ite_p hK h1
    refine hX.1 70 I_Mod_combine_60 ok_Mod_combine_60 _ _ _ ?_
    refine s_Mod_plus (bnd_g hK fun r2 e2 hK => ?_)
    exact hK
  have hK := ite_n hK h1
  refine And.intro (fun h3 => ?_) (fun h3 => ?_)
  · have hK := ite_p hK h3
    refine hX.1 80 I_Mod_combine_70 ok_Mod_combine_70 _ _ _ ?_
    refine s_Mod_logic (bnd_g hK fun r4 e4 hK => ?_)
    exact hK
  have hK := ite_n hK h3
  refine And.intro (fun h5 => ?_) (fun h5 => ?_)
  · have hK := ite_p hK h5
    refine hX.1 91 I_Mod_combine_80 ok_Mod_combine_80 _ _ _ ?_
    refine s_Mod_plus (bnd_g hK fun r6 e6 hK => ?_)
    exact hK
  have hK := ite_n hK h5
  refine And.intro (fun h7 => ?_) (fun h7 => ?_)
  · have hK := ite_p hK h7
    refine hX.1 102 I_Mod_combine_91 ok_Mod_combine_91 _ _ _ ?_
    refine s_Mod_less (bnd_g hK fun r8 e8 hK => ?_)
    exact hK
  have hK := ite_n hK h7
  refine And.intro (fun h9 => ?_) (fun h9 => ?_)
  · have hK := ite_p hK h9
    refine hX.1 112 I_Mod_combine_102 ok_Mod_combine_102 _ _ _ ?_
    refine s_Mod_logic (bnd_g hK fun r10 e10 hK => ?_)
    exact hK
  have hK := ite_n hK h9
  refine And.intro (fun h11 => ?_) (fun h11 => ?_)
  · have hK := ite_p hK h11
    refine hX.1 122 I_Mod_combine_112 ok_Mod_combine_112 _ _ _ ?_
    refine s_Mod_less (bnd_g hK fun r12 e12 hK => ?_)
    exact hK
  have hK := ite_n hK h11
  refine And.intro (fun h13 => ?_) (fun h13 => ?_)
  · have hK := ite_p hK h13
    refine hX.1 132 I_Mod_combine_122 ok_Mod_combine_122 _ _ _ ?_
    refine s_Mod_logic (bnd_g hK fun r14 e14 hK => ?_)
    exact hK
  have hK := ite_n hK h13
  refine hX.1 144 I_Mod_combine_132 ok_Mod_combine_132 _ _ _ ?_
  refine s_Mod_less (bnd_g hK fun r15 e15 hK => ?_)
  exact hK
def f_Mod_combine (σ : Sg) (a1 : Int32) (a2 : Int32) (a3 : Int32) (a4 : Int32) : Int32 × Sg := (bnd (f_Mod_is σ (1 : Int32)) fun r1 => (if r1.1 = (0 : Int32) then (f_Mod_combine_13 r1.2 a1 a2 a3 a4 (0 : Int32)) else (f_Mod_combine_13 r1.2 a1 a2 a3 a4 (1 : Int32))))
abbrev w_Mod_combine : List (Nat × Option Nat) := [(15, some 4)]
theorem p_Mod_combine {P : Sg → Prop} (hP : WP w_Mod_combine P) {σ : Sg} {a1 : Int32} {a2 : Int32} {a3 : Int32} {a4 : Int32} (h : P σ) : PP P (f_Mod_combine σ a1 a2 a3 a4) := by
  unfold f_Mod_combine
  refine bnd_zz (Z := PP P) (p_Mod_is (wsub hP rfl) h) fun r1 e1 q1 => ?_
  refine ite_z (fun _ => ?_) (fun _ => ?_)
  · exact p_Mod_combine_13 (wsub hP rfl) q1
  · exact p_Mod_combine_13 (wsub hP rfl) q1
set_option maxRecDepth 100000 in
set_option maxHeartbeats 4000000 in
theorem s_Mod_combine {l : Launch} {ad : Nat → Nat} {D : va_G} {cI : ClassId} {σ : Sg} {a1 : Int32} {a2 : Int32} {a3 : Int32} {a4 : Int32} {K : Option Value → Sg → Prop}   (hK : KI K (f_Mod_combine σ a1 a2 a3 a4)) : MetJ l ad D cI mi_Mod_combine [.ref 15, .int a1, .int a2, .int a3, .int a4] σ K := by
  refine met_of mi_Mod_combine pt_Mod pt_Mod_in rfl pl_Mod rfl (Nat.le_of_ble_eq_true rfl) fun X hX => ?_
  have hX : Cl l ad D cI mi_Mod_combine pt_Mod K X := hX
  show X 0 [.ref 15, .int a1, .int a2, .int a3, .int a4, .null] [] σ
  unfold f_Mod_combine at hK
  refine hX.1 12 I_Mod_combine_0 ok_Mod_combine_0 _ _ _ ?_
  refine s_Mod_is (bnd_g hK fun r1 e1 hK => ?_)
  have z1 : r1.1 = 0 ∨ r1.1 = 1 := by rw [← e1]; exact z_Mod_is
  refine And.intro (fun h2 => ?_) (fun h2 => ?_)
  · have hK := ite_p hK h2
    refine hX.1 13 I_Mod_combine_12 ok_Mod_combine_12 _ _ _ ?_
    exact b_Mod_combine_13 hX (Or.inl rfl)  hK
  · have hK := ite_n hK h2
    exact b_Mod_combine_13 hX (Or.inr rfl)  hK
def I_Mod_byOne_0 : List IT := [(0, .aload_n 0, 1, 0, 0, []), (1, .iconst 1, 1, 1, 0, []), (2, .invokevirtual 114, 3, 0, 0, []), (5, .istore 4, 2, 0, 0, []), (7, .iload_n 2, 1, 0, 0, []), (8, .ifCond .eq 14, 3, 0, 22, []), (11, .aload_n 0, 1, 0, 0, []), (12, .iload_n 1, 1, 0, 0, []), (13, .iconst 1, 1, 1, 0, []), (14, .iconst 0, 1, 0, 0, []), (15, .iload_n 3, 1, 0, 0, []), (16, .invokevirtual 125, 3, 0, 0, []), (19, .goto 11, 3, 0, 30, [])]
theorem ok_Mod_byOne_0 : blkOK b_Mod_byOne pt_Mod 22 I_Mod_byOne_0 = true := by decide +kernel
def I_Mod_byOne_22 : List IT := [(22, .aload_n 0, 1, 0, 0, []), (23, .iload_n 1, 1, 0, 0, []), (24, .iconst 1, 1, 1, 0, []), (25, .iconst 0, 1, 0, 0, []), (26, .iload_n 3, 1, 0, 0, []), (27, .invokevirtual 118, 3, 0, 0, [])]
theorem ok_Mod_byOne_22 : blkOK b_Mod_byOne pt_Mod 30 I_Mod_byOne_22 = true := by decide +kernel
def I_Mod_byOne_30 : List IT := [(30, .istore 5, 2, 0, 0, []), (32, .aload_n 0, 1, 0, 0, []), (33, .iconst 1, 1, 1, 0, []), (34, .iload 4, 2, 0, 0, []), (36, .invokevirtual 95, 3, 0, 0, []), (39, .iload 5, 2, 0, 0, []), (41, .ireturn, 1, 0, 0, [])]
theorem ok_Mod_byOne_30 : blkOK b_Mod_byOne pt_Mod 42 I_Mod_byOne_30 = true := by decide +kernel
def f_Mod_byOne_30 (σ : Sg) (x4 : Int32) (y0 : Int32) : Int32 × Sg := (bnd (f_Mod_flag σ (1 : Int32) x4) fun r1 => (y0, r1))
abbrev w_Mod_byOne_30 : List (Nat × Option Nat) := [(15, some 4)]
theorem p_Mod_byOne_30 {P : Sg → Prop} (hP : WP w_Mod_byOne_30 P) {σ : Sg} {x4 : Int32} {y0 : Int32} (h : P σ) : PP P (f_Mod_byOne_30 σ x4 y0) := by
  unfold f_Mod_byOne_30
  refine bnd_zz (Z := P) (p_Mod_flag (wsub hP rfl) h) fun r1 e1 q1 => ?_
  exact q1
set_option maxRecDepth 100000 in
set_option maxHeartbeats 4000000 in
theorem b_Mod_byOne_30 {l : Launch} {ad : Nat → Nat} {D : va_G} {cI : ClassId} {K : Option Value → Sg → Prop} {X : Nat → List Value → List Value → Sg → Prop} (hX : Cl l ad D cI mi_Mod_byOne pt_Mod K X) {σ : Sg} {x4 : Int32} {y0 : Int32} (z_x4 : x4 = 0 ∨ x4 = 1)  (hK : KI K (f_Mod_byOne_30 σ x4 y0)) : X 30 [.ref 15, .null, .null, .null, .int x4, .null] [.int y0] σ := by
  unfold f_Mod_byOne_30 at hK
  refine hX.1 42 I_Mod_byOne_30 ok_Mod_byOne_30 _ _ _ ?_
  refine s_Mod_flag (bnd_g hK fun r1 e1 hK => ?_)
  exact hK
def f_Mod_byOne (σ : Sg) (a1 : Int32) (a2 : Int32) (a3 : Int32) : Int32 × Sg := (bnd (f_Mod_is σ (1 : Int32)) fun r1 => (if a2 = (0 : Int32) then (bnd (f_Mod_plus r1.2 a1 (1 : Int32) (0 : Int32) a3) fun r3 => (f_Mod_byOne_30 r3.2 r1.1 r3.1)) else (bnd (f_Mod_less r1.2 a1 (1 : Int32) (0 : Int32) a3) fun r4 => (f_Mod_byOne_30 r4.2 r1.1 r4.1))))
abbrev w_Mod_byOne : List (Nat × Option Nat) := [(15, some 4)]
theorem p_Mod_byOne {P : Sg → Prop} (hP : WP w_Mod_byOne P) {σ : Sg} {a1 : Int32} {a2 : Int32} {a3 : Int32} (h : P σ) : PP P (f_Mod_byOne σ a1 a2 a3) := by
  unfold f_Mod_byOne
  refine bnd_zz (Z := PP P) (p_Mod_is (wsub hP rfl) h) fun r1 e1 q1 => ?_
  refine ite_z (fun _ => ?_) (fun _ => ?_)
  · refine bnd_zz (Z := PP P) (p_Mod_plus (wsub hP rfl) q1) fun r3 e3 q3 => ?_
    exact p_Mod_byOne_30 (wsub hP rfl) q3
  · refine bnd_zz (Z := PP P) (p_Mod_less (wsub hP rfl) q1) fun r4 e4 q4 => ?_
    exact p_Mod_byOne_30 (wsub hP rfl) q4
set_option maxRecDepth 100000 in
set_option maxHeartbeats 4000000 in
theorem s_Mod_byOne {l : Launch} {ad : Nat → Nat} {D : va_G} {cI : ClassId} {σ : Sg} {a1 : Int32} {a2 : Int32} {a3 : Int32} {K : Option Value → Sg → Prop}   (hK : KI K (f_Mod_byOne σ a1 a2 a3)) : MetJ l ad D cI mi_Mod_byOne [.ref 15, .int a1, .int a2, .int a3] σ K := by
  refine met_of mi_Mod_byOne pt_Mod pt_Mod_in rfl pl_Mod rfl (Nat.le_of_ble_eq_true rfl) fun X hX => ?_
  have hX : Cl l ad D cI mi_Mod_byOne pt_Mod K X := hX
  show X 0 [.ref 15, .int a1, .int a2, .int a3, .null, .null] [] σ
  unfold f_Mod_byOne at hK
  refine hX.1 22 I_Mod_byOne_0 ok_Mod_byOne_0 _ _ _ ?_
  refine s_Mod_is (bnd_g hK fun r1 e1 hK => ?_)
  have z1 : r1.1 = 0 ∨ r1.1 = 1 := by rw [← e1]; exact z_Mod_is
  refine And.intro (fun h2 => ?_) (fun h2 => ?_)
  · have hK := ite_p hK h2
    refine hX.1 30 I_Mod_byOne_22 ok_Mod_byOne_22 _ _ _ ?_
    refine s_Mod_plus (bnd_g hK fun r3 e3 hK => ?_)
    refine hX.fg [1, 2, 3] ?_
    exact b_Mod_byOne_30 hX z1  hK
  · have hK := ite_n hK h2
    refine s_Mod_less (bnd_g hK fun r4 e4 hK => ?_)
    refine hX.fg [1, 2, 3] ?_
    exact b_Mod_byOne_30 hX z1  hK
def I_Mod_interrupt_0 : List IT := [(0, .aload_n 0, 1, 0, 0, []), (1, .aload_n 0, 1, 0, 0, []), (2, .getfield 92, 3, 0, 0, []), (5, .invokevirtual 128, 3, 0, 0, []), (8, .aload_n 0, 1, 0, 0, []), (9, .aload_n 0, 1, 0, 0, []), (10, .getfield 16, 3, 0, 0, []), (13, .iconst 1, 1, 1, 0, []), (14, .iaload, 1, 0, 0, []), (15, .invokevirtual 128, 3, 0, 0, []), (18, .aload_n 0, 1, 0, 0, []), (19, .aload_n 0, 1, 0, 0, []), (20, .getfield 22, 3, 0, 0, []), (23, .invokevirtual 128, 3, 0, 0, []), (26, .aload_n 0, 1, 0, 0, []), (27, .sipush 512, 3, 512, 0, []), (30, .iconst 0, 1, 0, 0, []), (31, .invokevirtual 95, 3, 0, 0, []), (34, .iconst 4, 1, 4, 0, []), (35, .iload_n 1, 1, 0, 0, []), (36, .bipush 15, 2, 15, 0, []), (38, .iand, 1, 0, 0, []), (39, .imul, 1, 0, 0, []), (40, .istore_n 2, 1, 0, 0, []), (41, .aload_n 0, 1, 0, 0, []), (42, .aload_n 0, 1, 0, 0, []), (43, .getfield 7, 3, 0, 0, []), (46, .iload_n 2, 1, 0, 0, []), (47, .iaload, 1, 0, 0, []), (48, .sipush 256, 3, 256, 0, []), (51, .aload_n 0, 1, 0, 0, []), (52, .getfield 7, 3, 0, 0, []), (55, .iload_n 2, 1, 0, 0, []), (56, .iconst 1, 1, 1, 0, []), (57, .iadd, 1, 0, 0, []), (58, .iaload, 1, 0, 0, []), (59, .imul, 1, 0, 0, []), (60, .iadd, 1, 0, 0, []), (61, .putfield 22, 3, 0, 0, []), (64, .aload_n 0, 1, 0, 0, []), (65, .getfield 16, 3, 0, 0, []), (68, .iconst 1, 1, 1, 0, []), (69, .aload_n 0, 1, 0, 0, []), (70, .getfield 7, 3, 0, 0, []), (73, .iload_n 2, 1, 0, 0, []), (74, .iconst 2, 1, 2, 0, []), (75, .iadd, 1, 0, 0, []), (76, .iaload, 1, 0, 0, []), (77, .sipush 256, 3, 256, 0, []), (80, .aload_n 0, 1, 0, 0, []), (81, .getfield 7, 3, 0, 0, []), (84, .iload_n 2, 1, 0, 0, []), (85, .iconst 3, 1, 3, 0, []), (86, .iadd, 1, 0, 0, []), (87, .iaload, 1, 0, 0, []), (88, .imul, 1, 0, 0, []), (89, .iadd, 1, 0, 0, []), (90, .iastore, 1, 0, 0, []), (91, .aload_n 0, 1, 0, 0, []), (92, .aload_n 0, 1, 0, 0, []), (93, .getfield 132, 3, 0, 0, []), (96, .iconst 1, 1, 1, 0, []), (97, .iadd, 1, 0, 0, []), (98, .putfield 132, 3, 0, 0, []), (101, .return_, 1, 0, 0, [])]
theorem ok_Mod_interrupt_0 : blkOK b_Mod_interrupt pt_Mod 102 I_Mod_interrupt_0 = true := by decide +kernel
def f_Mod_interrupt (σ : Sg) (a1 : Int32) : Sg := (bnd (f_Mod_push σ (σ 15 4)) fun r1 => bnd (f_Mod_push r1 (r1 18 (Int32.toNatClampNeg (1 : Int32)))) fun r2 => bnd (f_Mod_push r2 (r2 15 3)) fun r3 => bnd (f_Mod_flag r3 (512 : Int32) (0 : Int32)) fun r4 => bnd (up2 r4 15 3 ((r4 16 (Int32.toNatClampNeg ((4 : Int32) * (a1 &&& (15 : Int32))))) + ((256 : Int32) * (r4 16 (Int32.toNatClampNeg (((4 : Int32) * (a1 &&& (15 : Int32))) + (1 : Int32))))))) fun s5 => bnd (up2 s5 18 (Int32.toNatClampNeg (1 : Int32)) ((s5 16 (Int32.toNatClampNeg (((4 : Int32) * (a1 &&& (15 : Int32))) + (2 : Int32)))) + ((256 : Int32) * (s5 16 (Int32.toNatClampNeg (((4 : Int32) * (a1 &&& (15 : Int32))) + (3 : Int32))))))) fun s6 => bnd (up2 s6 15 7 ((s6 15 7) + (1 : Int32))) fun s7 => s7)
abbrev w_Mod_interrupt : List (Nat × Option Nat) := [(15, some 3), (15, some 4), (15, some 7), (16, none), (17, none), (18, none)]
theorem p_Mod_interrupt {P : Sg → Prop} (hP : WP w_Mod_interrupt P) {σ : Sg} {a1 : Int32} (h : P σ) : P (f_Mod_interrupt σ a1) := by
  unfold f_Mod_interrupt
  refine bnd_zz (Z := P) (p_Mod_push (wsub hP rfl) h) fun r1 e1 q1 => ?_
  refine bnd_zz (Z := P) (p_Mod_push (wsub hP rfl) q1) fun r2 e2 q2 => ?_
  refine bnd_zz (Z := P) (p_Mod_push (wsub hP rfl) q2) fun r3 e3 q3 => ?_
  refine bnd_zz (Z := P) (p_Mod_flag (wsub hP rfl) q3) fun r4 e4 q4 => ?_
  refine bnd_zz (Z := P) (hP _ _ _ _ (Or.inr (by decide)) q4) fun s5 e5 q5 => ?_
  refine bnd_zz (Z := P) (hP _ _ _ _ (Or.inl (by decide)) q5) fun s6 e6 q6 => ?_
  refine bnd_zz (Z := P) (hP _ _ _ _ (Or.inr (by decide)) q6) fun s7 e7 q7 => ?_
  exact q7
set_option maxRecDepth 100000 in
set_option maxHeartbeats 4000000 in
theorem s_Mod_interrupt {l : Launch} {ad : Nat → Nat} {D : va_G} {cI : ClassId} {σ : Sg} {a1 : Int32} {K : Option Value → Sg → Prop}   (hK : KV K (f_Mod_interrupt σ a1)) : MetJ l ad D cI mi_Mod_interrupt [.ref 15, .int a1] σ K := by
  refine met_of mi_Mod_interrupt pt_Mod pt_Mod_in rfl pl_Mod rfl (Nat.le_of_ble_eq_true rfl) fun X hX => ?_
  have hX : Cl l ad D cI mi_Mod_interrupt pt_Mod K X := hX
  show X 0 [.ref 15, .int a1, .null] [] σ
  unfold f_Mod_interrupt at hK
  refine hX.1 102 I_Mod_interrupt_0 ok_Mod_interrupt_0 _ _ _ ?_
  refine s_Mod_push (bnd_g hK fun r1 e1 hK => ?_)
  refine And.intro (vin (by decide)) ?_
  refine s_Mod_push (bnd_g hK fun r2 e2 hK => ?_)
  refine s_Mod_push (bnd_g hK fun r3 e3 hK => ?_)
  refine s_Mod_flag (bnd_g hK fun r4 e4 hK => ?_)
  refine And.intro (vin_vec0 a1) ?_
  refine And.intro (vin_vec1 a1) ?_
  refine And.intro trivial (SG_g hK fun s5 e5 hK => ?_)
  refine And.intro (vin_vec2 a1) ?_
  refine And.intro (vin_vec3 a1) ?_
  refine And.intro (vin (by decide)) (SG_g hK fun s6 e6 hK => ?_)
  refine And.intro trivial (SG_g hK fun s7 e7 hK => ?_)
  exact hK
