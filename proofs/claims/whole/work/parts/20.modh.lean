def I_Mod_multiply_0 : List IT := [(0, .aload_n 0, 1, 0, 0, []), (1, .iload_n 1, 1, 0, 0, []), (2, .invokevirtual 151, 3, 0, 0, []), (5, .istore_n 2, 1, 0, 0, []), (6, .iload_n 1, 1, 0, 0, []), (7, .ifCond .eq 44, 3, 0, 51, []), (10, .aload_n 0, 1, 0, 0, []), (11, .getfield 13, 3, 0, 0, []), (14, .iconst 0, 1, 0, 0, []), (15, .iaload, 1, 0, 0, []), (16, .i2l, 1, 0, 0, []), (17, .iload_n 2, 1, 0, 0, []), (18, .i2l, 1, 0, 0, []), (19, .lmul, 1, 0, 0, []), (20, .lstore_n 3, 1, 0, 0, []), (21, .aload_n 0, 1, 0, 0, []), (22, .getfield 13, 3, 0, 0, []), (25, .iconst 0, 1, 0, 0, []), (26, .lload_n 3, 1, 0, 0, []), (27, .ldc2_w 164, 3, 0, 0, []), (30, .land, 1, 0, 0, []), (31, .l2i, 1, 0, 0, []), (32, .iastore, 1, 0, 0, []), (33, .aload_n 0, 1, 0, 0, []), (34, .getfield 13, 3, 0, 0, []), (37, .iconst 2, 1, 2, 0, []), (38, .lload_n 3, 1, 0, 0, []), (39, .bipush 16, 2, 16, 0, []), (41, .lshr, 1, 0, 0, []), (42, .ldc2_w 164, 3, 0, 0, []), (45, .land, 1, 0, 0, []), (46, .l2i, 1, 0, 0, []), (47, .iastore, 1, 0, 0, []), (48, .goto 21, 3, 0, 69, [])]
theorem ok_Mod_multiply_0 : blkOK b_Mod_multiply pt_Mod 51 I_Mod_multiply_0 = true := by decide +kernel
def I_Mod_multiply_51 : List IT := [(51, .aload_n 0, 1, 0, 0, []), (52, .getfield 13, 3, 0, 0, []), (55, .iconst 0, 1, 0, 0, []), (56, .aload_n 0, 1, 0, 0, []), (57, .getfield 13, 3, 0, 0, []), (60, .iconst 0, 1, 0, 0, []), (61, .iaload, 1, 0, 0, []), (62, .sipush 255, 3, 255, 0, []), (65, .iand, 1, 0, 0, []), (66, .iload_n 2, 1, 0, 0, []), (67, .imul, 1, 0, 0, []), (68, .iastore, 1, 0, 0, [])]
theorem ok_Mod_multiply_51 : blkOK b_Mod_multiply pt_Mod 69 I_Mod_multiply_51 = true := by decide +kernel
def I_Mod_multiply_69 : List IT := [(69, .iload_n 1, 1, 0, 0, []), (70, .ifCond .eq 20, 3, 0, 90, []), (73, .aload_n 0, 1, 0, 0, []), (74, .getfield 13, 3, 0, 0, []), (77, .iconst 2, 1, 2, 0, []), (78, .iaload, 1, 0, 0, []), (79, .ifCond .eq 7, 3, 0, 86, []), (82, .iconst 1, 1, 1, 0, []), (83, .goto 24, 3, 0, 107, [])]
theorem ok_Mod_multiply_69 : blkOK b_Mod_multiply pt_Mod 86 I_Mod_multiply_69 = true := by decide +kernel
def I_Mod_multiply_86 : List IT := [(86, .iconst 0, 1, 0, 0, []), (87, .goto 20, 3, 0, 107, [])]
theorem ok_Mod_multiply_86 : blkOK b_Mod_multiply pt_Mod 90 I_Mod_multiply_86 = true := by decide +kernel
def I_Mod_multiply_90 : List IT := [(90, .aload_n 0, 1, 0, 0, []), (91, .getfield 13, 3, 0, 0, []), (94, .iconst 0, 1, 0, 0, []), (95, .iaload, 1, 0, 0, []), (96, .sipush 255, 3, 255, 0, []), (99, .if_icmp .le 7, 3, 0, 106, []), (102, .iconst 1, 1, 1, 0, []), (103, .goto 4, 3, 0, 107, [])]
theorem ok_Mod_multiply_90 : blkOK b_Mod_multiply pt_Mod 106 I_Mod_multiply_90 = true := by decide +kernel
def I_Mod_multiply_106 : List IT := [(106, .iconst 0, 1, 0, 0, [])]
theorem ok_Mod_multiply_106 : blkOK b_Mod_multiply pt_Mod 107 I_Mod_multiply_106 = true := by decide +kernel
def I_Mod_multiply_107 : List IT := [(107, .istore_n 3, 1, 0, 0, []), (108, .aload_n 0, 1, 0, 0, []), (109, .iconst 1, 1, 1, 0, []), (110, .iload_n 3, 1, 0, 0, []), (111, .invokevirtual 95, 3, 0, 0, []), (114, .aload_n 0, 1, 0, 0, []), (115, .sipush 2048, 3, 2048, 0, []), (118, .iload_n 3, 1, 0, 0, []), (119, .invokevirtual 95, 3, 0, 0, []), (122, .return_, 1, 0, 0, [])]
theorem ok_Mod_multiply_107 : blkOK b_Mod_multiply pt_Mod 123 I_Mod_multiply_107 = true := by decide +kernel
def f_Mod_multiply_107 (σ : Sg) (y0 : Int32) : Sg := (bnd (f_Mod_flag σ (1 : Int32) y0) fun r1 => bnd (f_Mod_flag r1 (2048 : Int32) y0) fun r2 => r2)
abbrev w_Mod_multiply_107 : List (Nat × Option Nat) := [(15, some 4)]
theorem p_Mod_multiply_107 {P : Sg → Prop} (hP : WP w_Mod_multiply_107 P) {σ : Sg} {y0 : Int32} (h : P σ) : P (f_Mod_multiply_107 σ y0) := by
  unfold f_Mod_multiply_107
  refine bnd_zz (Z := P) (p_Mod_flag (wsub hP rfl) h) fun r1 e1 q1 => ?_
  refine bnd_zz (Z := P) (p_Mod_flag (wsub hP rfl) q1) fun r2 e2 q2 => ?_
  exact q2
set_option maxRecDepth 100000 in
set_option maxHeartbeats 4000000 in
theorem b_Mod_multiply_107 {l : Launch} {ad : Nat → Nat} {D : va_G} {cI : ClassId} {K : Option Value → Sg → Prop} {X : Nat → List Value → List Value → Sg → Prop} (hX : Cl l ad D cI mi_Mod_multiply pt_Mod K X) {σ : Sg} {y0 : Int32} (z_y0 : y0 = 0 ∨ y0 = 1)  (hK : KV K (f_Mod_multiply_107 σ y0)) : X 107 [.ref 15, .null, .null, .null, .null] [.int y0] σ := by
  unfold f_Mod_multiply_107 at hK
  refine hX.1 123 I_Mod_multiply_107 ok_Mod_multiply_107 _ _ _ ?_
  refine s_Mod_flag (bnd_g hK fun r1 e1 hK => ?_)
  refine s_Mod_flag (bnd_g hK fun r2 e2 hK => ?_)
  exact hK
def f_Mod_multiply_69 (σ : Sg) (x1 : Int32) : Sg := (if x1 = (0 : Int32) then (if (σ 17 (Int32.toNatClampNeg (0 : Int32))) ≤ (255 : Int32) then (f_Mod_multiply_107 σ (0 : Int32)) else (f_Mod_multiply_107 σ (1 : Int32))) else (if (σ 17 (Int32.toNatClampNeg (2 : Int32))) = (0 : Int32) then (f_Mod_multiply_107 σ (0 : Int32)) else (f_Mod_multiply_107 σ (1 : Int32))))
abbrev w_Mod_multiply_69 : List (Nat × Option Nat) := [(15, some 4)]
theorem p_Mod_multiply_69 {P : Sg → Prop} (hP : WP w_Mod_multiply_69 P) {σ : Sg} {x1 : Int32} (h : P σ) : P (f_Mod_multiply_69 σ x1) := by
  unfold f_Mod_multiply_69
  refine ite_z (fun _ => ?_) (fun _ => ?_)
  · refine ite_z (fun _ => ?_) (fun _ => ?_)
    · exact p_Mod_multiply_107 (wsub hP rfl) h
    · exact p_Mod_multiply_107 (wsub hP rfl) h
  · refine ite_z (fun _ => ?_) (fun _ => ?_)
    · exact p_Mod_multiply_107 (wsub hP rfl) h
    · exact p_Mod_multiply_107 (wsub hP rfl) h
set_option maxRecDepth 100000 in
set_option maxHeartbeats 4000000 in
theorem b_Mod_multiply_69 {l : Launch} {ad : Nat → Nat} {D : va_G} {cI : ClassId} {K : Option Value → Sg → Prop} {X : Nat → List Value → List Value → Sg → Prop} (hX : Cl l ad D cI mi_Mod_multiply pt_Mod K X) {σ : Sg} {x1 : Int32}   (hK : KV K (f_Mod_multiply_69 σ x1)) : X 69 [.ref 15, .int x1, .null, .null, .null] [] σ := by
  unfold f_Mod_multiply_69 at hK
  refine hX.1 86 I_Mod_multiply_69 ok_Mod_multiply_69 _ _ _ ?_
  refine And.intro (fun h1 => ?_) (fun h1 => ?_)
  · have hK := ite_p hK h1
    refine hX.1 106 I_Mod_multiply_90 ok_Mod_multiply_90 _ _ _ ?_
    refine And.intro (vin (by decide)) ?_
    refine And.intro (fun h2 => ?_) (fun h2 => ?_)
    · have hK := ite_p hK h2
      refine hX.1 107 I_Mod_multiply_106 ok_Mod_multiply_106 _ _ _ ?_
      refine hX.fg [1] ?_
      exact b_Mod_multiply_107 hX (Or.inl rfl)  hK
    · have hK := ite_n hK h2
      refine hX.fg [1] ?_
      exact b_Mod_multiply_107 hX (Or.inr rfl)  hK
  · have hK := ite_n hK h1
    refine And.intro (vin (by decide)) ?_
    refine And.intro (fun h3 => ?_) (fun h3 => ?_)
    · have hK := ite_p hK h3
      refine hX.1 90 I_Mod_multiply_86 ok_Mod_multiply_86 _ _ _ ?_
      refine hX.fg [1] ?_
      exact b_Mod_multiply_107 hX (Or.inl rfl)  hK
    · have hK := ite_n hK h3
      refine hX.fg [1] ?_
      exact b_Mod_multiply_107 hX (Or.inr rfl)  hK
def f_Mod_multiply (σ : Sg) (a1 : Int32) : Sg := (bnd (f_Mod_getE σ a1) fun r1 => (if a1 = (0 : Int32) then (bnd (up2 r1.2 17 (Int32.toNatClampNeg (0 : Int32)) (((r1.2 17 (Int32.toNatClampNeg (0 : Int32))) &&& (255 : Int32)) * r1.1)) fun s3 => (f_Mod_multiply_69 s3 a1)) else (bnd (up2 r1.2 17 (Int32.toNatClampNeg (0 : Int32)) (((((r1.2 17 (Int32.toNatClampNeg (0 : Int32))) : Int32).toInt64 * (r1.1 : Int32).toInt64) &&& 65535) : Int64).toInt32) fun s4 => bnd (up2 s4 17 (Int32.toNatClampNeg (2 : Int32)) ((((((r1.2 17 (Int32.toNatClampNeg (0 : Int32))) : Int32).toInt64 * (r1.1 : Int32).toInt64) >>> (((16 : Int32) : Int32).toInt64 &&& 63)) &&& 65535) : Int64).toInt32) fun s5 => (f_Mod_multiply_69 s5 a1))))
abbrev w_Mod_multiply : List (Nat × Option Nat) := [(15, some 4), (17, none)]
theorem p_Mod_multiply {P : Sg → Prop} (hP : WP w_Mod_multiply P) {σ : Sg} {a1 : Int32} (h : P σ) : P (f_Mod_multiply σ a1) := by
  unfold f_Mod_multiply
  refine bnd_zz (Z := PP P) (p_Mod_getE (wsub hP rfl) h) fun r1 e1 q1 => ?_
  refine ite_z (fun _ => ?_) (fun _ => ?_)
  · refine bnd_zz (Z := P) (hP _ _ _ _ (Or.inl (by decide)) q1) fun s3 e3 q3 => ?_
    exact p_Mod_multiply_69 (wsub hP rfl) q3
  · refine bnd_zz (Z := P) (hP _ _ _ _ (Or.inl (by decide)) q1) fun s4 e4 q4 => ?_
    refine bnd_zz (Z := P) (hP _ _ _ _ (Or.inl (by decide)) q4) fun s5 e5 q5 => ?_
    exact p_Mod_multiply_69 (wsub hP rfl) q5
set_option maxRecDepth 100000 in
set_option maxHeartbeats 4000000 in
theorem s_Mod_multiply {l : Launch} {ad : Nat → Nat} {D : va_G} {cI : ClassId} {σ : Sg} {a1 : Int32} {K : Option Value → Sg → Prop}  (EK0 : EK σ) (hK : KV K (f_Mod_multiply σ a1)) : MetJ l ad D cI mi_Mod_multiply [.ref 15, .int a1] σ K := by
  refine met_of mi_Mod_multiply pt_Mod pt_Mod_in rfl pl_Mod rfl (Nat.le_of_ble_eq_true rfl) fun X hX => ?_
  have hX : Cl l ad D cI mi_Mod_multiply pt_Mod K X := hX
  show X 0 [.ref 15, .int a1, .null, .null, .null] [] σ
  unfold f_Mod_multiply at hK
  refine hX.1 51 I_Mod_multiply_0 ok_Mod_multiply_0 _ _ _ ?_
  refine s_Mod_getE EK0 (bnd_g hK fun r1 e1 hK => ?_)
  refine And.intro (fun h2 => ?_) (fun h2 => ?_)
  · have hK := ite_p hK h2
    refine hX.1 69 I_Mod_multiply_51 ok_Mod_multiply_51 _ _ _ ?_
    refine And.intro (vin (by decide)) ?_
    refine And.intro (vin (by decide)) (SG_g hK fun s3 e3 hK => ?_)
    refine hX.fg [2] ?_
    exact b_Mod_multiply_69 hX  hK
  · have hK := ite_n hK h2
    refine And.intro (vin (by decide)) ?_
    refine And.intro (vin (by decide)) (SG_g hK fun s4 e4 hK => ?_)
    refine And.intro (vin (by decide)) (SG_g hK fun s5 e5 hK => ?_)
    refine hX.fg [2, 3] ?_
    exact b_Mod_multiply_69 hX  hK
def I_Mod_divide_0 : List IT := [(0, .aload_n 0, 1, 0, 0, []), (1, .iload_n 1, 1, 0, 0, []), (2, .invokevirtual 151, 3, 0, 0, []), (5, .i2l, 1, 0, 0, []), (6, .lstore_n 2, 1, 0, 0, []), (7, .iload_n 1, 1, 0, 0, []), (8, .ifCond .eq 25, 3, 0, 33, []), (11, .aload_n 0, 1, 0, 0, []), (12, .getfield 13, 3, 0, 0, []), (15, .iconst 2, 1, 2, 0, []), (16, .iaload, 1, 0, 0, []), (17, .i2l, 1, 0, 0, []), (18, .ldc2_w 166, 3, 0, 0, []), (21, .lmul, 1, 0, 0, []), (22, .aload_n 0, 1, 0, 0, []), (23, .getfield 13, 3, 0, 0, []), (26, .iconst 0, 1, 0, 0, []), (27, .iaload, 1, 0, 0, []), (28, .i2l, 1, 0, 0, []), (29, .ladd, 1, 0, 0, []), (30, .goto 10, 3, 0, 40, [])]
theorem ok_Mod_divide_0 : blkOK b_Mod_divide pt_Mod 33 I_Mod_divide_0 = true := by decide +kernel
def I_Mod_divide_33 : List IT := [(33, .aload_n 0, 1, 0, 0, []), (34, .getfield 13, 3, 0, 0, []), (37, .iconst 0, 1, 0, 0, []), (38, .iaload, 1, 0, 0, []), (39, .i2l, 1, 0, 0, [])]
theorem ok_Mod_divide_33 : blkOK b_Mod_divide pt_Mod 40 I_Mod_divide_33 = true := by decide +kernel
def I_Mod_divide_40 : List IT := [(40, .lstore 4, 2, 0, 0, []), (42, .iload_n 1, 1, 0, 0, []), (43, .ifCond .eq 9, 3, 0, 52, []), (46, .ldc2_w 164, 3, 0, 0, []), (49, .goto 6, 3, 0, 55, [])]
theorem ok_Mod_divide_40 : blkOK b_Mod_divide pt_Mod 52 I_Mod_divide_40 = true := by decide +kernel
def I_Mod_divide_52 : List IT := [(52, .ldc2_w 168, 3, 0, 0, [])]
theorem ok_Mod_divide_52 : blkOK b_Mod_divide pt_Mod 55 I_Mod_divide_52 = true := by decide +kernel
def I_Mod_divide_55 : List IT := [(55, .lstore 6, 2, 0, 0, []), (57, .lload_n 2, 1, 0, 0, []), (58, .lconst 0, 1, 0, 0, []), (59, .lcmp, 1, 0, 0, []), (60, .ifCond .eq 13, 3, 0, 73, []), (63, .lload 4, 2, 0, 0, []), (65, .lload_n 2, 1, 0, 0, []), (66, .ldiv, 1, 0, 0, []), (67, .lload 6, 2, 0, 0, []), (69, .lcmp, 1, 0, 0, []), (70, .ifCond .le 9, 3, 0, 79, [])]
theorem ok_Mod_divide_55 : blkOK b_Mod_divide pt_Mod 73 I_Mod_divide_55 = true := by decide +kernel
def I_Mod_divide_73 : List IT := [(73, .aload_n 0, 1, 0, 0, []), (74, .iconst 0, 1, 0, 0, []), (75, .invokevirtual 170, 3, 0, 0, []), (78, .return_, 1, 0, 0, [])]
theorem ok_Mod_divide_73 : blkOK b_Mod_divide pt_Mod 79 I_Mod_divide_73 = true := by decide +kernel
def I_Mod_divide_79 : List IT := [(79, .lload 4, 2, 0, 0, []), (81, .lload_n 2, 1, 0, 0, []), (82, .ldiv, 1, 0, 0, []), (83, .l2i, 1, 0, 0, []), (84, .istore 8, 2, 0, 0, []), (86, .lload 4, 2, 0, 0, []), (88, .lload_n 2, 1, 0, 0, []), (89, .lrem, 1, 0, 0, []), (90, .l2i, 1, 0, 0, []), (91, .istore 9, 2, 0, 0, []), (93, .iload_n 1, 1, 0, 0, []), (94, .ifCond .eq 22, 3, 0, 116, []), (97, .aload_n 0, 1, 0, 0, []), (98, .getfield 13, 3, 0, 0, []), (101, .iconst 0, 1, 0, 0, []), (102, .iload 8, 2, 0, 0, []), (104, .iastore, 1, 0, 0, []), (105, .aload_n 0, 1, 0, 0, []), (106, .getfield 13, 3, 0, 0, []), (109, .iconst 2, 1, 2, 0, []), (110, .iload 9, 2, 0, 0, []), (112, .iastore, 1, 0, 0, []), (113, .goto 18, 3, 0, 131, [])]
theorem ok_Mod_divide_79 : blkOK b_Mod_divide pt_Mod 116 I_Mod_divide_79 = true := by decide +kernel
def I_Mod_divide_116 : List IT := [(116, .aload_n 0, 1, 0, 0, []), (117, .getfield 13, 3, 0, 0, []), (120, .iconst 0, 1, 0, 0, []), (121, .sipush 256, 3, 256, 0, []), (124, .iload 9, 2, 0, 0, []), (126, .imul, 1, 0, 0, []), (127, .iload 8, 2, 0, 0, []), (129, .iadd, 1, 0, 0, []), (130, .iastore, 1, 0, 0, [])]
theorem ok_Mod_divide_116 : blkOK b_Mod_divide pt_Mod 131 I_Mod_divide_116 = true := by decide +kernel
def I_Mod_divide_131 : List IT := [(131, .return_, 1, 0, 0, [])]
theorem ok_Mod_divide_131 : blkOK b_Mod_divide pt_Mod 132 I_Mod_divide_131 = true := by decide +kernel
def f_Mod_divide_73 (σ : Sg)  : Sg := (bnd (f_Mod_interrupt σ (0 : Int32)) fun r1 => r1)
abbrev w_Mod_divide_73 : List (Nat × Option Nat) := [(15, some 3), (15, some 4), (15, some 7), (16, none), (17, none), (18, none)]
theorem p_Mod_divide_73 {P : Sg → Prop} (hP : WP w_Mod_divide_73 P) {σ : Sg}  (h : P σ) : P (f_Mod_divide_73 σ ) := by
  unfold f_Mod_divide_73
  refine bnd_zz (Z := P) (p_Mod_interrupt (wsub hP rfl) h) fun r1 e1 q1 => ?_
  exact q1
set_option maxRecDepth 100000 in
set_option maxHeartbeats 4000000 in
theorem b_Mod_divide_73 {l : Launch} {ad : Nat → Nat} {D : va_G} {cI : ClassId} {K : Option Value → Sg → Prop} {X : Nat → List Value → List Value → Sg → Prop} (hX : Cl l ad D cI mi_Mod_divide pt_Mod K X) {σ : Sg}    (hK : KV K (f_Mod_divide_73 σ )) : X 73 [.ref 15, .null, .null, .null, .null, .null, .null, .null, .null, .null] [] σ := by
  unfold f_Mod_divide_73 at hK
  refine hX.1 79 I_Mod_divide_73 ok_Mod_divide_73 _ _ _ ?_
  refine s_Mod_interrupt (bnd_g hK fun r1 e1 hK => ?_)
  exact hK
def f_Mod_divide_55 (σ : Sg) (x1 : Int32) (x2 : Int64) (x4 : Int64) (y0 : Int64) : Sg := (if (lg_cmp x2 (Int64.ofNat (((0 : Fin 2) : Nat)))) = (0 : Int32) then (f_Mod_divide_73 σ) else (if (lg_cmp (x4 / x2) y0) ≤ (0 : Int32) then (if x1 = (0 : Int32) then (bnd (up2 σ 17 (Int32.toNatClampNeg (0 : Int32)) (((256 : Int32) * ((x4 - x4 / x2 * x2) : Int64).toInt32) + ((x4 / x2) : Int64).toInt32)) fun s4 => s4) else (bnd (up2 σ 17 (Int32.toNatClampNeg (0 : Int32)) ((x4 / x2) : Int64).toInt32) fun s5 => bnd (up2 s5 17 (Int32.toNatClampNeg (2 : Int32)) ((x4 - x4 / x2 * x2) : Int64).toInt32) fun s6 => s6)) else (f_Mod_divide_73 σ)))
abbrev w_Mod_divide_55 : List (Nat × Option Nat) := [(15, some 3), (15, some 4), (15, some 7), (16, none), (17, none), (18, none)]
theorem p_Mod_divide_55 {P : Sg → Prop} (hP : WP w_Mod_divide_55 P) {σ : Sg} {x1 : Int32} {x2 : Int64} {x4 : Int64} {y0 : Int64} (h : P σ) : P (f_Mod_divide_55 σ x1 x2 x4 y0) := by
  unfold f_Mod_divide_55
  refine ite_z (fun _ => ?_) (fun _ => ?_)
  · exact p_Mod_divide_73 (wsub hP rfl) h
  · refine ite_z (fun _ => ?_) (fun _ => ?_)
    · refine ite_z (fun _ => ?_) (fun _ => ?_)
      · refine bnd_zz (Z := P) (hP _ _ _ _ (Or.inl (by decide)) h) fun s4 e4 q4 => ?_
        exact q4
      · refine bnd_zz (Z := P) (hP _ _ _ _ (Or.inl (by decide)) h) fun s5 e5 q5 => ?_
        refine bnd_zz (Z := P) (hP _ _ _ _ (Or.inl (by decide)) q5) fun s6 e6 q6 => ?_
        exact q6
    · exact p_Mod_divide_73 (wsub hP rfl) h
set_option maxRecDepth 100000 in
set_option maxHeartbeats 4000000 in
theorem b_Mod_divide_55 {l : Launch} {ad : Nat → Nat} {D : va_G} {cI : ClassId} {K : Option Value → Sg → Prop} {X : Nat → List Value → List Value → Sg → Prop} (hX : Cl l ad D cI mi_Mod_divide pt_Mod K X) {σ : Sg} {x1 : Int32} {x2 : Int64} {x4 : Int64} {y0 : Int64}   (hK : KV K (f_Mod_divide_55 σ x1 x2 x4 y0)) : X 55 [.ref 15, .int x1, .long x2, .null, .long x4, .null, .null, .null, .null, .null] [.long y0] σ := by
  unfold f_Mod_divide_55 at hK
  refine hX.1 73 I_Mod_divide_55 ok_Mod_divide_55 _ _ _ ?_
  refine And.intro (fun h1 => ?_) (fun h1 => ?_)
  · have hK := ite_p hK h1
    refine hX.fg [1, 2, 4, 6] ?_
    exact b_Mod_divide_73 hX  hK
  · have hK := ite_n hK h1
    refine And.intro (lg_ne (by assumption)) ?_
    refine And.intro (fun h2 => ?_) (fun h2 => ?_)
    · have hK := ite_p hK h2
      refine hX.1 116 I_Mod_divide_79 ok_Mod_divide_79 _ _ _ ?_
      refine And.intro (lg_ne (by assumption)) ?_
      refine And.intro (lg_ne (by assumption)) ?_
      refine And.intro (fun h3 => ?_) (fun h3 => ?_)
      · have hK := ite_p hK h3
        refine hX.1 131 I_Mod_divide_116 ok_Mod_divide_116 _ _ _ ?_
        refine And.intro (vin (by decide)) (SG_g hK fun s4 e4 hK => ?_)
        refine hX.1 132 I_Mod_divide_131 ok_Mod_divide_131 _ _ _ ?_
        exact hK
      · have hK := ite_n hK h3
        refine And.intro (vin (by decide)) (SG_g hK fun s5 e5 hK => ?_)
        refine And.intro (vin (by decide)) (SG_g hK fun s6 e6 hK => ?_)
        refine hX.1 132 I_Mod_divide_131 ok_Mod_divide_131 _ _ _ ?_
        exact hK
    · have hK := ite_n hK h2
      refine hX.fg [1, 2, 4, 6] ?_
      exact b_Mod_divide_73 hX  hK
def f_Mod_divide_40 (σ : Sg) (x1 : Int32) (x2 : Int64) (y0 : Int64) : Sg := (if x1 = (0 : Int32) then (f_Mod_divide_55 σ x1 x2 y0 255) else (f_Mod_divide_55 σ x1 x2 y0 65535))
abbrev w_Mod_divide_40 : List (Nat × Option Nat) := [(15, some 3), (15, some 4), (15, some 7), (16, none), (17, none), (18, none)]
theorem p_Mod_divide_40 {P : Sg → Prop} (hP : WP w_Mod_divide_40 P) {σ : Sg} {x1 : Int32} {x2 : Int64} {y0 : Int64} (h : P σ) : P (f_Mod_divide_40 σ x1 x2 y0) := by
  unfold f_Mod_divide_40
  refine ite_z (fun _ => ?_) (fun _ => ?_)
  · exact p_Mod_divide_55 (wsub hP rfl) h
  · exact p_Mod_divide_55 (wsub hP rfl) h
set_option maxRecDepth 100000 in
set_option maxHeartbeats 4000000 in
theorem b_Mod_divide_40 {l : Launch} {ad : Nat → Nat} {D : va_G} {cI : ClassId} {K : Option Value → Sg → Prop} {X : Nat → List Value → List Value → Sg → Prop} (hX : Cl l ad D cI mi_Mod_divide pt_Mod K X) {σ : Sg} {x1 : Int32} {x2 : Int64} {y0 : Int64}   (hK : KV K (f_Mod_divide_40 σ x1 x2 y0)) : X 40 [.ref 15, .int x1, .long x2, .null, .null, .null, .null, .null, .null, .null] [.long y0] σ := by
  unfold f_Mod_divide_40 at hK
  refine hX.1 52 I_Mod_divide_40 ok_Mod_divide_40 _ _ _ ?_
  refine And.intro (fun h1 => ?_) (fun h1 => ?_)
  · have hK := ite_p hK h1
    refine hX.1 55 I_Mod_divide_52 ok_Mod_divide_52 _ _ _ ?_
    exact b_Mod_divide_55 hX  hK
  · have hK := ite_n hK h1
    exact b_Mod_divide_55 hX  hK
def f_Mod_divide (σ : Sg) (a1 : Int32) : Sg := (bnd (f_Mod_getE σ a1) fun r1 => (if a1 = (0 : Int32) then (f_Mod_divide_40 r1.2 a1 (r1.1 : Int32).toInt64 ((r1.2 17 (Int32.toNatClampNeg (0 : Int32))) : Int32).toInt64) else (f_Mod_divide_40 r1.2 a1 (r1.1 : Int32).toInt64 ((((r1.2 17 (Int32.toNatClampNeg (2 : Int32))) : Int32).toInt64 * 65536) + ((r1.2 17 (Int32.toNatClampNeg (0 : Int32))) : Int32).toInt64))))
abbrev w_Mod_divide : List (Nat × Option Nat) := [(15, some 3), (15, some 4), (15, some 7), (16, none), (17, none), (18, none)]
theorem p_Mod_divide {P : Sg → Prop} (hP : WP w_Mod_divide P) {σ : Sg} {a1 : Int32} (h : P σ) : P (f_Mod_divide σ a1) := by
  unfold f_Mod_divide
  refine bnd_zz (Z := PP P) (p_Mod_getE (wsub hP rfl) h) fun r1 e1 q1 => ?_
  refine ite_z (fun _ => ?_) (fun _ => ?_)
  · exact p_Mod_divide_40 (wsub hP rfl) q1
  · exact p_Mod_divide_40 (wsub hP rfl) q1
set_option maxRecDepth 100000 in
set_option maxHeartbeats 4000000 in
theorem s_Mod_divide {l : Launch} {ad : Nat → Nat} {D : va_G} {cI : ClassId} {σ : Sg} {a1 : Int32} {K : Option Value → Sg → Prop}  (EK0 : EK σ) (hK : KV K (f_Mod_divide σ a1)) : MetJ l ad D cI mi_Mod_divide [.ref 15, .int a1] σ K := by
  refine met_of mi_Mod_divide pt_Mod pt_Mod_in rfl pl_Mod rfl (Nat.le_of_ble_eq_true rfl) fun X hX => ?_
  have hX : Cl l ad D cI mi_Mod_divide pt_Mod K X := hX
  show X 0 [.ref 15, .int a1, .null, .null, .null, .null, .null, .null, .null, .null] [] σ
  unfold f_Mod_divide at hK
  refine hX.1 33 I_Mod_divide_0 ok_Mod_divide_0 _ _ _ ?_
  refine s_Mod_getE EK0 (bnd_g hK fun r1 e1 hK => ?_)
  refine And.intro (fun h2 => ?_) (fun h2 => ?_)
  · have hK := ite_p hK h2
    refine hX.1 40 I_Mod_divide_33 ok_Mod_divide_33 _ _ _ ?_
    refine And.intro (vin (by decide)) ?_
    exact b_Mod_divide_40 hX  hK
  · have hK := ite_n hK h2
    refine And.intro (vin (by decide)) ?_
    refine And.intro (vin (by decide)) ?_
    exact b_Mod_divide_40 hX  hK
def I_Mod_ones_0 : List IT := [(0, .iload_n 1, 1, 0, 0, []), (1, .iconst 1, 1, 1, 0, []), (2, .iand, 1, 0, 0, []), (3, .iconst 1, 1, 1, 0, []), (4, .if_icmp .ne 7, 3, 0, 11, []), (7, .iconst 1, 1, 1, 0, []), (8, .goto 4, 3, 0, 12, [])]
theorem ok_Mod_ones_0 : blkOK b_Mod_ones pt_Mod 11 I_Mod_ones_0 = true := by decide +kernel
def I_Mod_ones_11 : List IT := [(11, .iconst 0, 1, 0, 0, [])]
theorem ok_Mod_ones_11 : blkOK b_Mod_ones pt_Mod 12 I_Mod_ones_11 = true := by decide +kernel
def I_Mod_ones_12 : List IT := [(12, .istore_n 2, 1, 0, 0, []), (13, .aload_n 0, 1, 0, 0, []), (14, .invokevirtual 148, 3, 0, 0, []), (17, .aload_n 0, 1, 0, 0, []), (18, .iload_n 1, 1, 0, 0, []), (19, .sipush 250, 3, 250, 0, []), (22, .if_icmp .ge 36, 3, 0, 58, []), (25, .aload_n 0, 1, 0, 0, []), (26, .getfield 58, 3, 0, 0, []), (29, .iconst 2, 1, 2, 0, []), (30, .if_icmp .lt 20, 3, 0, 50, []), (33, .aload_n 0, 1, 0, 0, []), (34, .getfield 58, 3, 0, 0, []), (37, .iconst 5, 1, 5, 0, []), (38, .if_icmp .eq 12, 3, 0, 50, []), (41, .aload_n 0, 1, 0, 0, []), (42, .getfield 58, 3, 0, 0, []), (45, .bipush 7, 2, 7, 0, []), (47, .if_icmp .ne 7, 3, 0, 54, [])]
theorem ok_Mod_ones_12 : blkOK b_Mod_ones pt_Mod 50 I_Mod_ones_12 = true := by decide +kernel
def I_Mod_ones_50 : List IT := [(50, .iconst 1, 1, 1, 0, []), (51, .goto 20, 3, 0, 71, [])]
theorem ok_Mod_ones_50 : blkOK b_Mod_ones pt_Mod 54 I_Mod_ones_50 = true := by decide +kernel
def I_Mod_ones_54 : List IT := [(54, .iconst 0, 1, 0, 0, []), (55, .goto 16, 3, 0, 71, [])]
theorem ok_Mod_ones_54 : blkOK b_Mod_ones pt_Mod 58 I_Mod_ones_54 = true := by decide +kernel
def I_Mod_ones_58 : List IT := [(58, .aload_n 0, 1, 0, 0, []), (59, .getfield 58, 3, 0, 0, []), (62, .iconst 1, 1, 1, 0, []), (63, .if_icmp .le 7, 3, 0, 70, []), (66, .iconst 1, 1, 1, 0, []), (67, .goto 4, 3, 0, 71, [])]
theorem ok_Mod_ones_58 : blkOK b_Mod_ones pt_Mod 70 I_Mod_ones_58 = true := by decide +kernel
def I_Mod_ones_70 : List IT := [(70, .iconst 0, 1, 0, 0, [])]
theorem ok_Mod_ones_70 : blkOK b_Mod_ones pt_Mod 71 I_Mod_ones_70 = true := by decide +kernel
def I_Mod_ones_71 : List IT := [(71, .putfield 157, 3, 0, 0, []), (74, .aload_n 0, 1, 0, 0, []), (75, .getfield 157, 3, 0, 0, []), (78, .ifCond .eq 4, 3, 0, 82, []), (81, .return_, 1, 0, 0, [])]
theorem ok_Mod_ones_71 : blkOK b_Mod_ones pt_Mod 82 I_Mod_ones_71 = true := by decide +kernel
def I_Mod_ones_82 : List IT := [(82, .aload_n 0, 1, 0, 0, []), (83, .iload_n 2, 1, 0, 0, []), (84, .invokevirtual 151, 3, 0, 0, []), (87, .istore_n 3, 1, 0, 0, []), (88, .iload_n 1, 1, 0, 0, []), (89, .sipush 250, 3, 250, 0, []), (92, .if_icmp .le 30, 3, 0, 122, []), (95, .aload_n 0, 1, 0, 0, []), (96, .aload_n 0, 1, 0, 0, []), (97, .iload_n 3, 1, 0, 0, []), (98, .aload_n 0, 1, 0, 0, []), (99, .getfield 58, 3, 0, 0, []), (102, .iconst 1, 1, 1, 0, []), (103, .if_icmp .ne 7, 3, 0, 110, []), (106, .iconst 1, 1, 1, 0, []), (107, .goto 4, 3, 0, 111, [])]
theorem ok_Mod_ones_82 : blkOK b_Mod_ones pt_Mod 110 I_Mod_ones_82 = true := by decide +kernel
def I_Mod_ones_110 : List IT := [(110, .iconst 0, 1, 0, 0, [])]
theorem ok_Mod_ones_110 : blkOK b_Mod_ones pt_Mod 111 I_Mod_ones_110 = true := by decide +kernel
def I_Mod_ones_111 : List IT := [(111, .iload_n 2, 1, 0, 0, []), (112, .invokevirtual 173, 3, 0, 0, []), (115, .iload_n 2, 1, 0, 0, []), (116, .invokevirtual 154, 3, 0, 0, []), (119, .goto 67, 3, 0, 186, [])]
theorem ok_Mod_ones_111 : blkOK b_Mod_ones pt_Mod 122 I_Mod_ones_111 = true := by decide +kernel
def I_Mod_ones_122 : List IT := [(122, .aload_n 0, 1, 0, 0, []), (123, .getfield 58, 3, 0, 0, []), (126, .iconst 2, 1, 2, 0, []), (127, .if_icmp .ne 14, 3, 0, 141, []), (130, .aload_n 0, 1, 0, 0, []), (131, .iload_n 3, 1, 0, 0, []), (132, .iconst (-1), 1, (-1), 0, []), (133, .ixor, 1, 0, 0, []), (134, .iload_n 2, 1, 0, 0, []), (135, .invokevirtual 154, 3, 0, 0, []), (138, .goto 48, 3, 0, 186, [])]
theorem ok_Mod_ones_122 : blkOK b_Mod_ones pt_Mod 141 I_Mod_ones_122 = true := by decide +kernel
def I_Mod_ones_141 : List IT := [(141, .aload_n 0, 1, 0, 0, []), (142, .getfield 58, 3, 0, 0, []), (145, .iconst 3, 1, 3, 0, []), (146, .if_icmp .ne 19, 3, 0, 165, []), (149, .aload_n 0, 1, 0, 0, []), (150, .aload_n 0, 1, 0, 0, []), (151, .iconst 0, 1, 0, 0, []), (152, .iload_n 3, 1, 0, 0, []), (153, .iconst 0, 1, 0, 0, []), (154, .iload_n 2, 1, 0, 0, []), (155, .invokevirtual 125, 3, 0, 0, []), (158, .iload_n 2, 1, 0, 0, []), (159, .invokevirtual 154, 3, 0, 0, []), (162, .goto 24, 3, 0, 186, [])]
theorem ok_Mod_ones_141 : blkOK b_Mod_ones pt_Mod 165 I_Mod_ones_141 = true := by decide +kernel
def I_Mod_ones_165 : List IT := [(165, .aload_n 0, 1, 0, 0, []), (166, .getfield 58, 3, 0, 0, []), (169, .iconst 4, 1, 4, 0, []), (170, .if_icmp .ne 11, 3, 0, 181, []), (173, .aload_n 0, 1, 0, 0, []), (174, .iload_n 2, 1, 0, 0, []), (175, .invokevirtual 177, 3, 0, 0, []), (178, .goto 8, 3, 0, 186, [])]
theorem ok_Mod_ones_165 : blkOK b_Mod_ones pt_Mod 181 I_Mod_ones_165 = true := by decide +kernel
def I_Mod_ones_181 : List IT := [(181, .aload_n 0, 1, 0, 0, []), (182, .iload_n 2, 1, 0, 0, []), (183, .invokevirtual 181, 3, 0, 0, [])]
theorem ok_Mod_ones_181 : blkOK b_Mod_ones pt_Mod 186 I_Mod_ones_181 = true := by decide +kernel
def I_Mod_ones_186 : List IT := [(186, .return_, 1, 0, 0, [])]
theorem ok_Mod_ones_186 : blkOK b_Mod_ones pt_Mod 187 I_Mod_ones_186 = true := by decide +kernel
def f_Mod_ones_111 (σ : Sg) (x2 : Int32) (y0 : Int32) (y1 : Int32) : Sg := (bnd (f_Mod_byOne σ y1 y0 x2) fun r1 => bnd (f_Mod_setE r1.2 r1.1 x2) fun r2 => r2)
abbrev w_Mod_ones_111 : List (Nat × Option Nat) := [(15, some 4), (16, none), (17, none)]
theorem p_Mod_ones_111 {P : Sg → Prop} (hP : WP w_Mod_ones_111 P) {σ : Sg} {x2 : Int32} {y0 : Int32} {y1 : Int32} (h : P σ) : P (f_Mod_ones_111 σ x2 y0 y1) := by
  unfold f_Mod_ones_111
  refine bnd_zz (Z := PP P) (p_Mod_byOne (wsub hP rfl) h) fun r1 e1 q1 => ?_
  refine bnd_zz (Z := P) (p_Mod_setE (wsub hP rfl) q1) fun r2 e2 q2 => ?_
  exact q2
set_option maxRecDepth 100000 in
set_option maxHeartbeats 4000000 in
theorem b_Mod_ones_111 {l : Launch} {ad : Nat → Nat} {D : va_G} {cI : ClassId} {K : Option Value → Sg → Prop} {X : Nat → List Value → List Value → Sg → Prop} (hX : Cl l ad D cI mi_Mod_ones pt_Mod K X) {σ : Sg} {x2 : Int32} {y0 : Int32} {y1 : Int32} (z_x2 : x2 = 0 ∨ x2 = 1) (z_y0 : y0 = 0 ∨ y0 = 1) (EK0 : EK σ) (hK : KV K (f_Mod_ones_111 σ x2 y0 y1)) : X 111 [.null, .null, .int x2, .null] [.int y0, .int y1, .ref 15, .ref 15] σ := by
  unfold f_Mod_ones_111 at hK
  refine hX.1 122 I_Mod_ones_111 ok_Mod_ones_111 _ _ _ ?_
  refine s_Mod_byOne (bnd_g hK fun r1 e1 hK => ?_)
  have EK1 : EK r1.2 := by rw [← e1]; exact p_Mod_byOne (P := EK) (EKw rfl) EK0
  refine s_Mod_setE EK1 (bnd_g hK fun r2 e2 hK => ?_)
  refine hX.1 187 I_Mod_ones_186 ok_Mod_ones_186 _ _ _ ?_
  exact hK
def f_Mod_ones_71 (σ : Sg) (x1 : Int32) (x2 : Int32) (y0 : Int32) : Sg := (bnd (up2 σ 15 16 y0) fun s1 => (if (s1 15 16) = (0 : Int32) then (bnd (f_Mod_getE s1 x2) fun r3 => (if x1 ≤ (250 : Int32) then (if (r3.2 15 12) = (2 : Int32) then (bnd (f_Mod_setE r3.2 (r3.1 ^^^ (-1 : Int32)) x2) fun r6 => r6) else (if (r3.2 15 12) = (3 : Int32) then (bnd (f_Mod_less r3.2 (0 : Int32) r3.1 (0 : Int32) x2) fun r8 => bnd (f_Mod_setE r8.2 r8.1 x2) fun r9 => r9) else (if (r3.2 15 12) = (4 : Int32) then (bnd (f_Mod_multiply r3.2 x2) fun r11 => r11) else (bnd (f_Mod_divide r3.2 x2) fun r12 => r12)))) else (if (r3.2 15 12) = (1 : Int32) then (f_Mod_ones_111 r3.2 x2 (1 : Int32) r3.1) else (f_Mod_ones_111 r3.2 x2 (0 : Int32) r3.1)))) else s1))
abbrev w_Mod_ones_71 : List (Nat × Option Nat) := [(15, some 3), (15, some 4), (15, some 7), (15, some 16), (16, none), (17, none), (18, none)]
theorem p_Mod_ones_71 {P : Sg → Prop} (hP : WP w_Mod_ones_71 P) {σ : Sg} {x1 : Int32} {x2 : Int32} {y0 : Int32} (h : P σ) : P (f_Mod_ones_71 σ x1 x2 y0) := by
  unfold f_Mod_ones_71
  refine bnd_zz (Z := P) (hP _ _ _ _ (Or.inr (by decide)) h) fun s1 e1 q1 => ?_
  refine ite_z (fun _ => ?_) (fun _ => ?_)
  · refine bnd_zz (Z := PP P) (p_Mod_getE (wsub hP rfl) q1) fun r3 e3 q3 => ?_
    refine ite_z (fun _ => ?_) (fun _ => ?_)
    · refine ite_z (fun _ => ?_) (fun _ => ?_)
      · refine bnd_zz (Z := P) (p_Mod_setE (wsub hP rfl) q3) fun r6 e6 q6 => ?_
        exact q6
      · refine ite_z (fun _ => ?_) (fun _ => ?_)
        · refine bnd_zz (Z := PP P) (p_Mod_less (wsub hP rfl) q3) fun r8 e8 q8 => ?_
          refine bnd_zz (Z := P) (p_Mod_setE (wsub hP rfl) q8) fun r9 e9 q9 => ?_
          exact q9
        · refine ite_z (fun _ => ?_) (fun _ => ?_)
          · refine bnd_zz (Z := P) (p_Mod_multiply (wsub hP rfl) q3) fun r11 e11 q11 => ?_
            exact q11
          · refine bnd_zz (Z := P) (p_Mod_divide (wsub hP rfl) q3) fun r12 e12 q12 => ?_
            exact q12
    · refine ite_z (fun _ => ?_) (fun _ => ?_)
      · exact p_Mod_ones_111 (wsub hP rfl) q3
      · exact p_Mod_ones_111 (wsub hP rfl) q3
  · exact q1
set_option maxRecDepth 100000 in
set_option maxHeartbeats 4000000 in
theorem b_Mod_ones_71 {l : Launch} {ad : Nat → Nat} {D : va_G} {cI : ClassId} {K : Option Value → Sg → Prop} {X : Nat → List Value → List Value → Sg → Prop} (hX : Cl l ad D cI mi_Mod_ones pt_Mod K X) {σ : Sg} {x1 : Int32} {x2 : Int32} {y0 : Int32} (z_x2 : x2 = 0 ∨ x2 = 1) (z_y0 : y0 = 0 ∨ y0 = 1) (EK0 : EK σ) (hK : KV K (f_Mod_ones_71 σ x1 x2 y0)) : X 71 [.ref 15, .int x1, .int x2, .null] [.int y0, .ref 15] σ := by
  unfold f_Mod_ones_71 at hK
  refine hX.1 82 I_Mod_ones_71 ok_Mod_ones_71 _ _ _ ?_
  refine And.intro z_y0 (SG_g hK fun s1 e1 hK => ?_)
  have EK1 : EK s1 := by rw [← e1]; exact EKw (W := [(15, some 16)]) rfl _ _ _ _ (Or.inr (by decide)) EK0
  refine And.intro (fun h2 => ?_) (fun h2 => ?_)
  · have hK := ite_p hK h2
    refine hX.1 110 I_Mod_ones_82 ok_Mod_ones_82 _ _ _ ?_
    refine s_Mod_getE EK1 (bnd_g hK fun r3 e3 hK => ?_)
    have EK3 : EK r3.2 := by rw [← e3]; exact p_Mod_getE (P := EK) (EKw rfl) EK1
    refine And.intro (fun h4 => ?_) (fun h4 => ?_)
    · have hK := ite_p hK h4
      refine hX.1 141 I_Mod_ones_122 ok_Mod_ones_122 _ _ _ ?_
      refine And.intro (fun h5 => ?_) (fun h5 => ?_)
      · have hK := ite_p hK h5
        refine s_Mod_setE EK3 (bnd_g hK fun r6 e6 hK => ?_)
        refine hX.1 187 I_Mod_ones_186 ok_Mod_ones_186 _ _ _ ?_
        exact hK
      · have hK := ite_n hK h5
        refine hX.1 165 I_Mod_ones_141 ok_Mod_ones_141 _ _ _ ?_
        refine And.intro (fun h7 => ?_) (fun h7 => ?_)
        · have hK := ite_p hK h7
          refine s_Mod_less (bnd_g hK fun r8 e8 hK => ?_)
          have EK8 : EK r8.2 := by rw [← e8]; exact p_Mod_less (P := EK) (EKw rfl) EK3
          refine s_Mod_setE EK8 (bnd_g hK fun r9 e9 hK => ?_)
          refine hX.1 187 I_Mod_ones_186 ok_Mod_ones_186 _ _ _ ?_
          exact hK
        · have hK := ite_n hK h7
          refine hX.1 181 I_Mod_ones_165 ok_Mod_ones_165 _ _ _ ?_
          refine And.intro (fun h10 => ?_) (fun h10 => ?_)
          · have hK := ite_p hK h10
            refine s_Mod_multiply EK3 (bnd_g hK fun r11 e11 hK => ?_)
            refine hX.1 187 I_Mod_ones_186 ok_Mod_ones_186 _ _ _ ?_
            exact hK
          · have hK := ite_n hK h10
            refine hX.1 186 I_Mod_ones_181 ok_Mod_ones_181 _ _ _ ?_
            refine s_Mod_divide EK3 (bnd_g hK fun r12 e12 hK => ?_)
            refine hX.1 187 I_Mod_ones_186 ok_Mod_ones_186 _ _ _ ?_
            exact hK
    · have hK := ite_n hK h4
      refine And.intro (fun h13 => ?_) (fun h13 => ?_)
      · have hK := ite_p hK h13
        refine hX.fg [0, 1, 3] ?_
        exact b_Mod_ones_111 hX z_x2 (Or.inr rfl) EK3 hK
      · have hK := ite_n hK h13
        refine hX.1 111 I_Mod_ones_110 ok_Mod_ones_110 _ _ _ ?_
        refine hX.fg [0, 1, 3] ?_
        exact b_Mod_ones_111 hX z_x2 (Or.inl rfl) EK3 hK
  · have hK := ite_n hK h2
    exact hK
def f_Mod_ones_50 (σ : Sg) (x1 : Int32) (x2 : Int32) : Sg := (f_Mod_ones_71 σ x1 x2 (1 : Int32))
abbrev w_Mod_ones_50 : List (Nat × Option Nat) := [(15, some 3), (15, some 4), (15, some 7), (15, some 16), (16, none), (17, none), (18, none)]
theorem p_Mod_ones_50 {P : Sg → Prop} (hP : WP w_Mod_ones_50 P) {σ : Sg} {x1 : Int32} {x2 : Int32} (h : P σ) : P (f_Mod_ones_50 σ x1 x2) := by
  unfold f_Mod_ones_50
  exact p_Mod_ones_71 (wsub hP rfl) h
set_option maxRecDepth 100000 in
set_option maxHeartbeats 4000000 in
theorem b_Mod_ones_50 {l : Launch} {ad : Nat → Nat} {D : va_G} {cI : ClassId} {K : Option Value → Sg → Prop} {X : Nat → List Value → List Value → Sg → Prop} (hX : Cl l ad D cI mi_Mod_ones pt_Mod K X) {σ : Sg} {x1 : Int32} {x2 : Int32} (z_x2 : x2 = 0 ∨ x2 = 1) (EK0 : EK σ) (hK : KV K (f_Mod_ones_50 σ x1 x2)) : X 50 [.ref 15, .int x1, .int x2, .null] [.ref 15] σ := by
  unfold f_Mod_ones_50 at hK
  refine hX.1 54 I_Mod_ones_50 ok_Mod_ones_50 _ _ _ ?_
  exact b_Mod_ones_71 hX z_x2 (Or.inr rfl) EK0 hK
def f_Mod_ones_12 (σ : Sg) (x1 : Int32) (y0 : Int32) : Sg := (bnd (f_Mod_readModrm σ) fun r1 => (if (250 : Int32) ≤ x1 then (if (r1 15 12) ≤ (1 : Int32) then (f_Mod_ones_71 r1 x1 y0 (0 : Int32)) else (f_Mod_ones_71 r1 x1 y0 (1 : Int32))) else (if (r1 15 12) < (2 : Int32) then (f_Mod_ones_50 r1 x1 y0) else (if (r1 15 12) = (5 : Int32) then (f_Mod_ones_50 r1 x1 y0) else (if (r1 15 12) = (7 : Int32) then (f_Mod_ones_50 r1 x1 y0) else (f_Mod_ones_71 r1 x1 y0 (0 : Int32)))))))
abbrev w_Mod_ones_12 : List (Nat × Option Nat) := [(15, some 3), (15, some 4), (15, some 7), (15, some 12), (15, some 13), (15, some 14), (15, some 15), (15, some 16), (16, none), (17, none), (18, none)]
theorem p_Mod_ones_12 {P : Sg → Prop} (hP : WP w_Mod_ones_12 P) {σ : Sg} {x1 : Int32} {y0 : Int32} (h : P σ) : P (f_Mod_ones_12 σ x1 y0) := by
  unfold f_Mod_ones_12
  refine bnd_zz (Z := P) (p_Mod_readModrm (wsub hP rfl) h) fun r1 e1 q1 => ?_
  refine ite_z (fun _ => ?_) (fun _ => ?_)
  · refine ite_z (fun _ => ?_) (fun _ => ?_)
    · exact p_Mod_ones_71 (wsub hP rfl) q1
    · exact p_Mod_ones_71 (wsub hP rfl) q1
  · refine ite_z (fun _ => ?_) (fun _ => ?_)
    · exact p_Mod_ones_50 (wsub hP rfl) q1
    · refine ite_z (fun _ => ?_) (fun _ => ?_)
      · exact p_Mod_ones_50 (wsub hP rfl) q1
      · refine ite_z (fun _ => ?_) (fun _ => ?_)
        · exact p_Mod_ones_50 (wsub hP rfl) q1
        · exact p_Mod_ones_71 (wsub hP rfl) q1
set_option maxRecDepth 100000 in
set_option maxHeartbeats 4000000 in
theorem b_Mod_ones_12 {l : Launch} {ad : Nat → Nat} {D : va_G} {cI : ClassId} {K : Option Value → Sg → Prop} {X : Nat → List Value → List Value → Sg → Prop} (hX : Cl l ad D cI mi_Mod_ones pt_Mod K X) {σ : Sg} {x1 : Int32} {y0 : Int32} (z_y0 : y0 = 0 ∨ y0 = 1) (OV0 : OV σ) (hK : KV K (f_Mod_ones_12 σ x1 y0)) : X 12 [.ref 15, .int x1, .null, .null] [.int y0] σ := by
  unfold f_Mod_ones_12 at hK
  refine hX.1 50 I_Mod_ones_12 ok_Mod_ones_12 _ _ _ ?_
  refine s_Mod_readModrm (bnd_g hK fun r1 e1 hK => ?_)
  have EK1 : EK r1 := by rw [← e1]; exact rm_EK OV0
  refine And.intro (fun h2 => ?_) (fun h2 => ?_)
  · have hK := ite_p hK h2
    refine hX.1 70 I_Mod_ones_58 ok_Mod_ones_58 _ _ _ ?_
    refine And.intro (fun h3 => ?_) (fun h3 => ?_)
    · have hK := ite_p hK h3
      refine hX.1 71 I_Mod_ones_70 ok_Mod_ones_70 _ _ _ ?_
      exact b_Mod_ones_71 hX z_y0 (Or.inl rfl) EK1 hK
    · have hK := ite_n hK h3
      exact b_Mod_ones_71 hX z_y0 (Or.inr rfl) EK1 hK
  · have hK := ite_n hK h2
    refine And.intro (fun h4 => ?_) (fun h4 => ?_)
    · have hK := ite_p hK h4
      exact b_Mod_ones_50 hX z_y0 EK1 hK
    · have hK := ite_n hK h4
      refine And.intro (fun h5 => ?_) (fun h5 => ?_)
      · have hK := ite_p hK h5
        exact b_Mod_ones_50 hX z_y0 EK1 hK
      · have hK := ite_n hK h5
        refine And.intro (fun h6 => ?_) (fun h6 => ?_)
        · have hK := ite_p hK h6
          exact b_Mod_ones_50 hX z_y0 EK1 hK
        · have hK := ite_n hK h6
          refine hX.1 58 I_Mod_ones_54 ok_Mod_ones_54 _ _ _ ?_
          exact b_Mod_ones_71 hX z_y0 (Or.inl rfl) EK1 hK
def f_Mod_ones (σ : Sg) (a1 : Int32) : Sg := (if (a1 &&& (1 : Int32)) = (1 : Int32) then (f_Mod_ones_12 σ a1 (1 : Int32)) else (f_Mod_ones_12 σ a1 (0 : Int32)))
abbrev w_Mod_ones : List (Nat × Option Nat) := [(15, some 3), (15, some 4), (15, some 7), (15, some 12), (15, some 13), (15, some 14), (15, some 15), (15, some 16), (16, none), (17, none), (18, none)]
theorem p_Mod_ones {P : Sg → Prop} (hP : WP w_Mod_ones P) {σ : Sg} {a1 : Int32} (h : P σ) : P (f_Mod_ones σ a1) := by
  unfold f_Mod_ones
  refine ite_z (fun _ => ?_) (fun _ => ?_)
  · exact p_Mod_ones_12 (wsub hP rfl) h
  · exact p_Mod_ones_12 (wsub hP rfl) h
set_option maxRecDepth 100000 in
set_option maxHeartbeats 4000000 in
theorem s_Mod_ones {l : Launch} {ad : Nat → Nat} {D : va_G} {cI : ClassId} {σ : Sg} {a1 : Int32} {K : Option Value → Sg → Prop}  (OV0 : OV σ) (hK : KV K (f_Mod_ones σ a1)) : MetJ l ad D cI mi_Mod_ones [.ref 15, .int a1] σ K := by
  refine met_of mi_Mod_ones pt_Mod pt_Mod_in rfl pl_Mod rfl (Nat.le_of_ble_eq_true rfl) fun X hX => ?_
  have hX : Cl l ad D cI mi_Mod_ones pt_Mod K X := hX
  show X 0 [.ref 15, .int a1, .null, .null] [] σ
  unfold f_Mod_ones at hK
  refine hX.1 11 I_Mod_ones_0 ok_Mod_ones_0 _ _ _ ?_
  refine And.intro (fun h1 => ?_) (fun h1 => ?_)
  · have hK := ite_p hK h1
    exact b_Mod_ones_12 hX (Or.inr rfl) OV0 hK
  · have hK := ite_n hK h1
    refine hX.1 12 I_Mod_ones_11 ok_Mod_ones_11 _ _ _ ?_
    exact b_Mod_ones_12 hX (Or.inl rfl) OV0 hK
def I_Mod_go_0 : List IT := [(0, .iload_n 2, 1, 0, 0, []), (1, .ifCond .eq 7, 3, 0, 8, []), (4, .iconst 2, 1, 2, 0, []), (5, .goto 4, 3, 0, 9, [])]
theorem ok_Mod_go_0 : blkOK b_Mod_go pt_Mod 8 I_Mod_go_0 = true := by decide +kernel
def I_Mod_go_8 : List IT := [(8, .iconst 1, 1, 1, 0, [])]
theorem ok_Mod_go_8 : blkOK b_Mod_go pt_Mod 9 I_Mod_go_8 = true := by decide +kernel
def I_Mod_go_9 : List IT := [(9, .istore_n 3, 1, 0, 0, []), (10, .aload_n 0, 1, 0, 0, []), (11, .getfield 13, 3, 0, 0, []), (14, .iload_n 1, 1, 0, 0, []), (15, .aload_n 0, 1, 0, 0, []), (16, .sipush 1024, 3, 1024, 0, []), (19, .invokevirtual 114, 3, 0, 0, []), (22, .ifCond .eq 14, 3, 0, 36, []), (25, .aload_n 0, 1, 0, 0, []), (26, .getfield 13, 3, 0, 0, []), (29, .iload_n 1, 1, 0, 0, []), (30, .iaload, 1, 0, 0, []), (31, .iload_n 3, 1, 0, 0, []), (32, .isub, 1, 0, 0, []), (33, .goto 11, 3, 0, 44, [])]
theorem ok_Mod_go_9 : blkOK b_Mod_go pt_Mod 36 I_Mod_go_9 = true := by decide +kernel
def I_Mod_go_36 : List IT := [(36, .aload_n 0, 1, 0, 0, []), (37, .getfield 13, 3, 0, 0, []), (40, .iload_n 1, 1, 0, 0, []), (41, .iaload, 1, 0, 0, []), (42, .iload_n 3, 1, 0, 0, []), (43, .iadd, 1, 0, 0, [])]
theorem ok_Mod_go_36 : blkOK b_Mod_go pt_Mod 44 I_Mod_go_36 = true := by decide +kernel
def I_Mod_go_44 : List IT := [(44, .ldc 32, 2, 65535, 0, []), (46, .iand, 1, 0, 0, []), (47, .iastore, 1, 0, 0, []), (48, .return_, 1, 0, 0, [])]
theorem ok_Mod_go_44 : blkOK b_Mod_go pt_Mod 49 I_Mod_go_44 = true := by decide +kernel
def f_Mod_go_9 (σ : Sg) (x1 : Int32) (y0 : Int32) : Sg := (bnd (f_Mod_is σ (1024 : Int32)) fun r1 => (if r1.1 = (0 : Int32) then (bnd (up2 r1.2 17 (Int32.toNatClampNeg x1) (((r1.2 17 (Int32.toNatClampNeg x1)) + y0) &&& (65535 : Int32))) fun s3 => s3) else (bnd (up2 r1.2 17 (Int32.toNatClampNeg x1) (((r1.2 17 (Int32.toNatClampNeg x1)) - y0) &&& (65535 : Int32))) fun s4 => s4)))
abbrev w_Mod_go_9 : List (Nat × Option Nat) := [(17, none)]
theorem p_Mod_go_9 {P : Sg → Prop} (hP : WP w_Mod_go_9 P) {σ : Sg} {x1 : Int32} {y0 : Int32} (h : P σ) : P (f_Mod_go_9 σ x1 y0) := by
  unfold f_Mod_go_9
  refine bnd_zz (Z := PP P) (p_Mod_is (wsub hP rfl) h) fun r1 e1 q1 => ?_
  refine ite_z (fun _ => ?_) (fun _ => ?_)
  · refine bnd_zz (Z := P) (hP _ _ _ _ (Or.inl (by decide)) q1) fun s3 e3 q3 => ?_
    exact q3
  · refine bnd_zz (Z := P) (hP _ _ _ _ (Or.inl (by decide)) q1) fun s4 e4 q4 => ?_
    exact q4
set_option maxRecDepth 100000 in
set_option maxHeartbeats 4000000 in
theorem b_Mod_go_9 {l : Launch} {ad : Nat → Nat} {D : va_G} {cI : ClassId} {K : Option Value → Sg → Prop} {X : Nat → List Value → List Value → Sg → Prop} (hX : Cl l ad D cI mi_Mod_go pt_Mod K X) {σ : Sg} {x1 : Int32} {y0 : Int32} (v8_x1 : vp_in x1 8) (v8_y0 : vp_in y0 8)  (hK : KV K (f_Mod_go_9 σ x1 y0)) : X 9 [.ref 15, .int x1, .null, .null] [.int y0] σ := by
  unfold f_Mod_go_9 at hK
  refine hX.1 36 I_Mod_go_9 ok_Mod_go_9 _ _ _ ?_
  refine s_Mod_is (bnd_g hK fun r1 e1 hK => ?_)
  have z1 : r1.1 = 0 ∨ r1.1 = 1 := by rw [← e1]; exact z_Mod_is
  refine And.intro (fun h2 => ?_) (fun h2 => ?_)
  · have hK := ite_p hK h2
    refine hX.1 44 I_Mod_go_36 ok_Mod_go_36 _ _ _ ?_
    refine And.intro v8_x1 ?_
    refine hX.1 49 I_Mod_go_44 ok_Mod_go_44 _ _ _ ?_
    refine And.intro v8_x1 (SG_g hK fun s3 e3 hK => ?_)
    exact hK
  · have hK := ite_n hK h2
    refine And.intro v8_x1 ?_
    refine hX.1 49 I_Mod_go_44 ok_Mod_go_44 _ _ _ ?_
    refine And.intro v8_x1 (SG_g hK fun s4 e4 hK => ?_)
    exact hK
def f_Mod_go (σ : Sg) (a1 : Int32) (a2 : Int32) : Sg := (if a2 = (0 : Int32) then (f_Mod_go_9 σ a1 (1 : Int32)) else (f_Mod_go_9 σ a1 (2 : Int32)))
abbrev w_Mod_go : List (Nat × Option Nat) := [(17, none)]
theorem p_Mod_go {P : Sg → Prop} (hP : WP w_Mod_go P) {σ : Sg} {a1 : Int32} {a2 : Int32} (h : P σ) : P (f_Mod_go σ a1 a2) := by
  unfold f_Mod_go
  refine ite_z (fun _ => ?_) (fun _ => ?_)
  · exact p_Mod_go_9 (wsub hP rfl) h
  · exact p_Mod_go_9 (wsub hP rfl) h
set_option maxRecDepth 100000 in
set_option maxHeartbeats 4000000 in
theorem s_Mod_go {l : Launch} {ad : Nat → Nat} {D : va_G} {cI : ClassId} {σ : Sg} {a1 : Int32} {a2 : Int32} {K : Option Value → Sg → Prop} (v8_a1 : vp_in a1 8)  (hK : KV K (f_Mod_go σ a1 a2)) : MetJ l ad D cI mi_Mod_go [.ref 15, .int a1, .int a2] σ K := by
  refine met_of mi_Mod_go pt_Mod pt_Mod_in rfl pl_Mod rfl (Nat.le_of_ble_eq_true rfl) fun X hX => ?_
  have hX : Cl l ad D cI mi_Mod_go pt_Mod K X := hX
  show X 0 [.ref 15, .int a1, .int a2, .null] [] σ
  unfold f_Mod_go at hK
  refine hX.1 8 I_Mod_go_0 ok_Mod_go_0 _ _ _ ?_
  refine And.intro (fun h1 => ?_) (fun h1 => ?_)
  · have hK := ite_p hK h1
    refine hX.1 9 I_Mod_go_8 ok_Mod_go_8 _ _ _ ?_
    refine hX.fg [2] ?_
    exact b_Mod_go_9 hX v8_a1 (vin (by decide))  hK
  · have hK := ite_n hK h1
    refine hX.fg [2] ?_
    exact b_Mod_go_9 hX v8_a1 (vin (by decide))  hK
def I_Mod_string_0 : List IT := [(0, .iload_n 1, 1, 0, 0, []), (1, .iconst 1, 1, 1, 0, []), (2, .iand, 1, 0, 0, []), (3, .iconst 1, 1, 1, 0, []), (4, .if_icmp .ne 7, 3, 0, 11, []), (7, .iconst 1, 1, 1, 0, []), (8, .goto 4, 3, 0, 12, [])]
theorem ok_Mod_string_0 : blkOK b_Mod_string pt_Mod 11 I_Mod_string_0 = true := by decide +kernel
def I_Mod_string_11 : List IT := [(11, .iconst 0, 1, 0, 0, [])]
theorem ok_Mod_string_11 : blkOK b_Mod_string pt_Mod 12 I_Mod_string_11 = true := by decide +kernel
def I_Mod_string_12 : List IT := [(12, .istore_n 2, 1, 0, 0, []), (13, .iload_n 1, 1, 0, 0, []), (14, .sipush 254, 3, 254, 0, []), (17, .iand, 1, 0, 0, []), (18, .istore_n 3, 1, 0, 0, []), (19, .aload_n 0, 1, 0, 0, []), (20, .getfield 16, 3, 0, 0, []), (23, .aload_n 0, 1, 0, 0, []), (24, .getfield 70, 3, 0, 0, []), (27, .ifCond .lt 10, 3, 0, 37, []), (30, .aload_n 0, 1, 0, 0, []), (31, .getfield 70, 3, 0, 0, []), (34, .goto 4, 3, 0, 38, [])]
theorem ok_Mod_string_12 : blkOK b_Mod_string pt_Mod 37 I_Mod_string_12 = true := by decide +kernel
def I_Mod_string_37 : List IT := [(37, .iconst 3, 1, 3, 0, [])]
theorem ok_Mod_string_37 : blkOK b_Mod_string pt_Mod 38 I_Mod_string_37 = true := by decide +kernel
def I_Mod_string_38 : List IT := [(38, .iaload, 1, 0, 0, []), (39, .istore 4, 2, 0, 0, []), (41, .iload_n 3, 1, 0, 0, []), (42, .sipush 164, 3, 164, 0, []), (45, .if_icmp .ne 35, 3, 0, 80, []), (48, .aload_n 0, 1, 0, 0, []), (49, .aload_n 0, 1, 0, 0, []), (50, .getfield 16, 3, 0, 0, []), (53, .iconst 0, 1, 0, 0, []), (54, .iaload, 1, 0, 0, []), (55, .aload_n 0, 1, 0, 0, []), (56, .getfield 13, 3, 0, 0, []), (59, .bipush 7, 2, 7, 0, []), (61, .iaload, 1, 0, 0, []), (62, .aload_n 0, 1, 0, 0, []), (63, .iload 4, 2, 0, 0, []), (65, .aload_n 0, 1, 0, 0, []), (66, .getfield 13, 3, 0, 0, []), (69, .bipush 6, 2, 6, 0, []), (71, .iaload, 1, 0, 0, []), (72, .iload_n 2, 1, 0, 0, []), (73, .invokevirtual 80, 3, 0, 0, []), (76, .iload_n 2, 1, 0, 0, []), (77, .invokevirtual 88, 3, 0, 0, [])]
theorem ok_Mod_string_38 : blkOK b_Mod_string pt_Mod 80 I_Mod_string_38 = true := by decide +kernel
def I_Mod_string_80 : List IT := [(80, .iload_n 3, 1, 0, 0, []), (81, .sipush 170, 3, 170, 0, []), (84, .if_icmp .ne 27, 3, 0, 111, []), (87, .aload_n 0, 1, 0, 0, []), (88, .aload_n 0, 1, 0, 0, []), (89, .getfield 16, 3, 0, 0, []), (92, .iconst 0, 1, 0, 0, []), (93, .iaload, 1, 0, 0, []), (94, .aload_n 0, 1, 0, 0, []), (95, .getfield 13, 3, 0, 0, []), (98, .bipush 7, 2, 7, 0, []), (100, .iaload, 1, 0, 0, []), (101, .aload_n 0, 1, 0, 0, []), (102, .iconst 0, 1, 0, 0, []), (103, .iload_n 2, 1, 0, 0, []), (104, .invokevirtual 76, 3, 0, 0, []), (107, .iload_n 2, 1, 0, 0, []), (108, .invokevirtual 88, 3, 0, 0, [])]
theorem ok_Mod_string_80 : blkOK b_Mod_string pt_Mod 111 I_Mod_string_80 = true := by decide +kernel
def I_Mod_string_111 : List IT := [(111, .iload_n 3, 1, 0, 0, []), (112, .sipush 172, 3, 172, 0, []), (115, .if_icmp .ne 23, 3, 0, 138, []), (118, .aload_n 0, 1, 0, 0, []), (119, .iconst 0, 1, 0, 0, []), (120, .aload_n 0, 1, 0, 0, []), (121, .iload 4, 2, 0, 0, []), (123, .aload_n 0, 1, 0, 0, []), (124, .getfield 13, 3, 0, 0, []), (127, .bipush 6, 2, 6, 0, []), (129, .iaload, 1, 0, 0, []), (130, .iload_n 2, 1, 0, 0, []), (131, .invokevirtual 80, 3, 0, 0, []), (134, .iload_n 2, 1, 0, 0, []), (135, .invokevirtual 84, 3, 0, 0, [])]
theorem ok_Mod_string_111 : blkOK b_Mod_string pt_Mod 138 I_Mod_string_111 = true := by decide +kernel
def I_Mod_string_138 : List IT := [(138, .iload_n 3, 1, 0, 0, []), (139, .sipush 174, 3, 174, 0, []), (142, .if_icmp .ne 34, 3, 0, 176, []), (145, .aload_n 0, 1, 0, 0, []), (146, .aload_n 0, 1, 0, 0, []), (147, .iconst 0, 1, 0, 0, []), (148, .iload_n 2, 1, 0, 0, []), (149, .invokevirtual 76, 3, 0, 0, []), (152, .aload_n 0, 1, 0, 0, []), (153, .aload_n 0, 1, 0, 0, []), (154, .getfield 16, 3, 0, 0, []), (157, .iconst 0, 1, 0, 0, []), (158, .iaload, 1, 0, 0, []), (159, .aload_n 0, 1, 0, 0, []), (160, .getfield 13, 3, 0, 0, []), (163, .bipush 7, 2, 7, 0, []), (165, .iaload, 1, 0, 0, []), (166, .iload_n 2, 1, 0, 0, []), (167, .invokevirtual 80, 3, 0, 0, []), (170, .iconst 0, 1, 0, 0, []), (171, .iload_n 2, 1, 0, 0, []), (172, .invokevirtual 125, 3, 0, 0, []), (175, .pop, 1, 0, 0, [])]
theorem ok_Mod_string_138 : blkOK b_Mod_string pt_Mod 176 I_Mod_string_138 = true := by decide +kernel
def I_Mod_string_176 : List IT := [(176, .iload_n 3, 1, 0, 0, []), (177, .sipush 164, 3, 164, 0, []), (180, .if_icmp .eq 10, 3, 0, 190, []), (183, .iload_n 3, 1, 0, 0, []), (184, .sipush 172, 3, 172, 0, []), (187, .if_icmp .ne 10, 3, 0, 197, [])]
theorem ok_Mod_string_176 : blkOK b_Mod_string pt_Mod 190 I_Mod_string_176 = true := by decide +kernel
def I_Mod_string_190 : List IT := [(190, .aload_n 0, 1, 0, 0, []), (191, .bipush 6, 2, 6, 0, []), (193, .iload_n 2, 1, 0, 0, []), (194, .invokevirtual 184, 3, 0, 0, [])]
theorem ok_Mod_string_190 : blkOK b_Mod_string pt_Mod 197 I_Mod_string_190 = true := by decide +kernel
def I_Mod_string_197 : List IT := [(197, .iload_n 3, 1, 0, 0, []), (198, .sipush 172, 3, 172, 0, []), (201, .if_icmp .eq 10, 3, 0, 211, []), (204, .aload_n 0, 1, 0, 0, []), (205, .bipush 7, 2, 7, 0, []), (207, .iload_n 2, 1, 0, 0, []), (208, .invokevirtual 184, 3, 0, 0, [])]
theorem ok_Mod_string_197 : blkOK b_Mod_string pt_Mod 211 I_Mod_string_197 = true := by decide +kernel
def I_Mod_string_211 : List IT := [(211, .return_, 1, 0, 0, [])]
theorem ok_Mod_string_211 : blkOK b_Mod_string pt_Mod 212 I_Mod_string_211 = true := by decide +kernel
def f_Mod_string_197 (σ : Sg) (x2 : Int32) (x3 : Int32) : Sg := (if x3 = (172 : Int32) then σ else (bnd (f_Mod_go σ (7 : Int32) x2) fun r2 => r2))
abbrev w_Mod_string_197 : List (Nat × Option Nat) := [(17, none)]
theorem p_Mod_string_197 {P : Sg → Prop} (hP : WP w_Mod_string_197 P) {σ : Sg} {x2 : Int32} {x3 : Int32} (h : P σ) : P (f_Mod_string_197 σ x2 x3) := by
  unfold f_Mod_string_197
  refine ite_z (fun _ => ?_) (fun _ => ?_)
  · exact h
  · refine bnd_zz (Z := P) (p_Mod_go (wsub hP rfl) h) fun r2 e2 q2 => ?_
    exact q2
set_option maxRecDepth 100000 in
set_option maxHeartbeats 4000000 in
theorem b_Mod_string_197 {l : Launch} {ad : Nat → Nat} {D : va_G} {cI : ClassId} {K : Option Value → Sg → Prop} {X : Nat → List Value → List Value → Sg → Prop} (hX : Cl l ad D cI mi_Mod_string pt_Mod K X) {σ : Sg} {x2 : Int32} {x3 : Int32} (z_x2 : x2 = 0 ∨ x2 = 1)  (hK : KV K (f_Mod_string_197 σ x2 x3)) : X 197 [.ref 15, .null, .int x2, .int x3, .null] [] σ := by
  unfold f_Mod_string_197 at hK
  refine hX.1 211 I_Mod_string_197 ok_Mod_string_197 _ _ _ ?_
  refine And.intro (fun h1 => ?_) (fun h1 => ?_)
  · have hK := ite_p hK h1
    refine hX.1 212 I_Mod_string_211 ok_Mod_string_211 _ _ _ ?_
    exact hK
  · have hK := ite_n hK h1
    refine s_Mod_go (vin (by decide)) (bnd_g hK fun r2 e2 hK => ?_)
    refine hX.1 212 I_Mod_string_211 ok_Mod_string_211 _ _ _ ?_
    exact hK
def f_Mod_string_190 (σ : Sg) (x2 : Int32) (x3 : Int32) : Sg := (bnd (f_Mod_go σ (6 : Int32) x2) fun r1 => (f_Mod_string_197 r1 x2 x3))
abbrev w_Mod_string_190 : List (Nat × Option Nat) := [(17, none)]
theorem p_Mod_string_190 {P : Sg → Prop} (hP : WP w_Mod_string_190 P) {σ : Sg} {x2 : Int32} {x3 : Int32} (h : P σ) : P (f_Mod_string_190 σ x2 x3) := by
  unfold f_Mod_string_190
  refine bnd_zz (Z := P) (p_Mod_go (wsub hP rfl) h) fun r1 e1 q1 => ?_
  exact p_Mod_string_197 (wsub hP rfl) q1
set_option maxRecDepth 100000 in
set_option maxHeartbeats 4000000 in
theorem b_Mod_string_190 {l : Launch} {ad : Nat → Nat} {D : va_G} {cI : ClassId} {K : Option Value → Sg → Prop} {X : Nat → List Value → List Value → Sg → Prop} (hX : Cl l ad D cI mi_Mod_string pt_Mod K X) {σ : Sg} {x2 : Int32} {x3 : Int32} (z_x2 : x2 = 0 ∨ x2 = 1)  (hK : KV K (f_Mod_string_190 σ x2 x3)) : X 190 [.ref 15, .null, .int x2, .int x3, .null] [] σ := by
  unfold f_Mod_string_190 at hK
  refine hX.1 197 I_Mod_string_190 ok_Mod_string_190 _ _ _ ?_
  refine s_Mod_go (vin (by decide)) (bnd_g hK fun r1 e1 hK => ?_)
  exact b_Mod_string_197 hX z_x2  hK
def f_Mod_string_176 (σ : Sg) (x2 : Int32) (x3 : Int32) : Sg := (if x3 = (164 : Int32) then (f_Mod_string_190 σ x2 x3) else (if x3 = (172 : Int32) then (f_Mod_string_190 σ x2 x3) else (f_Mod_string_197 σ x2 x3)))
abbrev w_Mod_string_176 : List (Nat × Option Nat) := [(17, none)]
theorem p_Mod_string_176 {P : Sg → Prop} (hP : WP w_Mod_string_176 P) {σ : Sg} {x2 : Int32} {x3 : Int32} (h : P σ) : P (f_Mod_string_176 σ x2 x3) := by
  unfold f_Mod_string_176
  refine ite_z (fun _ => ?_) (fun _ => ?_)
  · exact p_Mod_string_190 (wsub hP rfl) h
  · refine ite_z (fun _ => ?_) (fun _ => ?_)
    · exact p_Mod_string_190 (wsub hP rfl) h
    · exact p_Mod_string_197 (wsub hP rfl) h
set_option maxRecDepth 100000 in
set_option maxHeartbeats 4000000 in
theorem b_Mod_string_176 {l : Launch} {ad : Nat → Nat} {D : va_G} {cI : ClassId} {K : Option Value → Sg → Prop} {X : Nat → List Value → List Value → Sg → Prop} (hX : Cl l ad D cI mi_Mod_string pt_Mod K X) {σ : Sg} {x2 : Int32} {x3 : Int32} (z_x2 : x2 = 0 ∨ x2 = 1)  (hK : KV K (f_Mod_string_176 σ x2 x3)) : X 176 [.ref 15, .null, .int x2, .int x3, .null] [] σ := by
  unfold f_Mod_string_176 at hK
  refine hX.1 190 I_Mod_string_176 ok_Mod_string_176 _ _ _ ?_
  refine And.intro (fun h1 => ?_) (fun h1 => ?_)
  · have hK := ite_p hK h1
    exact b_Mod_string_190 hX z_x2  hK
  · have hK := ite_n hK h1
    refine And.intro (fun h2 => ?_) (fun h2 => ?_)
    · have hK := ite_p hK h2
      exact b_Mod_string_190 hX z_x2  hK
    · have hK := ite_n hK h2
      exact b_Mod_string_197 hX z_x2  hK
def f_Mod_string_138 (σ : Sg) (x2 : Int32) (x3 : Int32) : Sg := (if x3 = (174 : Int32) then (bnd (f_Mod_getRegister σ (0 : Int32) x2) fun r2 => bnd (f_Mod_get r2.2 (r2.2 18 (Int32.toNatClampNeg (0 : Int32))) (r2.2 17 (Int32.toNatClampNeg (7 : Int32))) x2) fun r3 => bnd (f_Mod_less r3.2 r2.1 r3.1 (0 : Int32) x2) fun r4 => (f_Mod_string_176 r4.2 x2 x3)) else (f_Mod_string_176 σ x2 x3))
abbrev w_Mod_string_138 : List (Nat × Option Nat) := [(15, some 4), (17, none)]
theorem p_Mod_string_138 {P : Sg → Prop} (hP : WP w_Mod_string_138 P) {σ : Sg} {x2 : Int32} {x3 : Int32} (h : P σ) : P (f_Mod_string_138 σ x2 x3) := by
  unfold f_Mod_string_138
  refine ite_z (fun _ => ?_) (fun _ => ?_)
  · refine bnd_zz (Z := PP P) (p_Mod_getRegister (wsub hP rfl) h) fun r2 e2 q2 => ?_
    refine bnd_zz (Z := PP P) (p_Mod_get (wsub hP rfl) q2) fun r3 e3 q3 => ?_
    refine bnd_zz (Z := PP P) (p_Mod_less (wsub hP rfl) q3) fun r4 e4 q4 => ?_
    exact p_Mod_string_176 (wsub hP rfl) q4
  · exact p_Mod_string_176 (wsub hP rfl) h
set_option maxRecDepth 100000 in
set_option maxHeartbeats 4000000 in
theorem b_Mod_string_138 {l : Launch} {ad : Nat → Nat} {D : va_G} {cI : ClassId} {K : Option Value → Sg → Prop} {X : Nat → List Value → List Value → Sg → Prop} (hX : Cl l ad D cI mi_Mod_string pt_Mod K X) {σ : Sg} {x2 : Int32} {x3 : Int32} (z_x2 : x2 = 0 ∨ x2 = 1)  (hK : KV K (f_Mod_string_138 σ x2 x3)) : X 138 [.ref 15, .null, .int x2, .int x3, .null] [] σ := by
  unfold f_Mod_string_138 at hK
  refine hX.1 176 I_Mod_string_138 ok_Mod_string_138 _ _ _ ?_
  refine And.intro (fun h1 => ?_) (fun h1 => ?_)
  · have hK := ite_p hK h1
    refine s_Mod_getRegister (vin (by decide)) (bnd_g hK fun r2 e2 hK => ?_)
    refine And.intro (vin (by decide)) ?_
    refine And.intro (vin (by decide)) ?_
    refine s_Mod_get (bnd_g hK fun r3 e3 hK => ?_)
    refine s_Mod_less (bnd_g hK fun r4 e4 hK => ?_)
    exact b_Mod_string_176 hX z_x2  hK
  · have hK := ite_n hK h1
    exact b_Mod_string_176 hX z_x2  hK
def f_Mod_string_111 (σ : Sg) (x2 : Int32) (x3 : Int32) (x4 : Int32) : Sg := (if x3 = (172 : Int32) then (bnd (f_Mod_get σ x4 (σ 17 (Int32.toNatClampNeg (6 : Int32))) x2) fun r2 => bnd (f_Mod_setRegister r2.2 (0 : Int32) r2.1 x2) fun r3 => (f_Mod_string_138 r3 x2 x3)) else (f_Mod_string_138 σ x2 x3))
abbrev w_Mod_string_111 : List (Nat × Option Nat) := [(15, some 4), (17, none)]
theorem p_Mod_string_111 {P : Sg → Prop} (hP : WP w_Mod_string_111 P) {σ : Sg} {x2 : Int32} {x3 : Int32} {x4 : Int32} (h : P σ) : P (f_Mod_string_111 σ x2 x3 x4) := by
  unfold f_Mod_string_111
  refine ite_z (fun _ => ?_) (fun _ => ?_)
  · refine bnd_zz (Z := PP P) (p_Mod_get (wsub hP rfl) h) fun r2 e2 q2 => ?_
    refine bnd_zz (Z := P) (p_Mod_setRegister (wsub hP rfl) q2) fun r3 e3 q3 => ?_
    exact p_Mod_string_138 (wsub hP rfl) q3
  · exact p_Mod_string_138 (wsub hP rfl) h
set_option maxRecDepth 100000 in
set_option maxHeartbeats 4000000 in
theorem b_Mod_string_111 {l : Launch} {ad : Nat → Nat} {D : va_G} {cI : ClassId} {K : Option Value → Sg → Prop} {X : Nat → List Value → List Value → Sg → Prop} (hX : Cl l ad D cI mi_Mod_string pt_Mod K X) {σ : Sg} {x2 : Int32} {x3 : Int32} {x4 : Int32} (z_x2 : x2 = 0 ∨ x2 = 1)  (hK : KV K (f_Mod_string_111 σ x2 x3 x4)) : X 111 [.ref 15, .null, .int x2, .int x3, .int x4] [] σ := by
  unfold f_Mod_string_111 at hK
  refine hX.1 138 I_Mod_string_111 ok_Mod_string_111 _ _ _ ?_
  refine And.intro (fun h1 => ?_) (fun h1 => ?_)
  · have hK := ite_p hK h1
    refine And.intro (vin (by decide)) ?_
    refine s_Mod_get (bnd_g hK fun r2 e2 hK => ?_)
    refine s_Mod_setRegister (vin (by decide)) (bnd_g hK fun r3 e3 hK => ?_)
    refine hX.fg [4] ?_
    exact b_Mod_string_138 hX z_x2  hK
  · have hK := ite_n hK h1
    refine hX.fg [4] ?_
    exact b_Mod_string_138 hX z_x2  hK
def f_Mod_string_80 (σ : Sg) (x2 : Int32) (x3 : Int32) (x4 : Int32) : Sg := (if x3 = (170 : Int32) then (bnd (f_Mod_getRegister σ (0 : Int32) x2) fun r2 => bnd (f_Mod_set r2.2 (σ 18 (Int32.toNatClampNeg (0 : Int32))) (σ 17 (Int32.toNatClampNeg (7 : Int32))) r2.1 x2) fun r3 => (f_Mod_string_111 r3 x2 x3 x4)) else (f_Mod_string_111 σ x2 x3 x4))
abbrev w_Mod_string_80 : List (Nat × Option Nat) := [(15, some 4), (16, none), (17, none)]
theorem p_Mod_string_80 {P : Sg → Prop} (hP : WP w_Mod_string_80 P) {σ : Sg} {x2 : Int32} {x3 : Int32} {x4 : Int32} (h : P σ) : P (f_Mod_string_80 σ x2 x3 x4) := by
  unfold f_Mod_string_80
  refine ite_z (fun _ => ?_) (fun _ => ?_)
  · refine bnd_zz (Z := PP P) (p_Mod_getRegister (wsub hP rfl) h) fun r2 e2 q2 => ?_
    refine bnd_zz (Z := P) (p_Mod_set (wsub hP rfl) q2) fun r3 e3 q3 => ?_
    exact p_Mod_string_111 (wsub hP rfl) q3
  · exact p_Mod_string_111 (wsub hP rfl) h
set_option maxRecDepth 100000 in
set_option maxHeartbeats 4000000 in
theorem b_Mod_string_80 {l : Launch} {ad : Nat → Nat} {D : va_G} {cI : ClassId} {K : Option Value → Sg → Prop} {X : Nat → List Value → List Value → Sg → Prop} (hX : Cl l ad D cI mi_Mod_string pt_Mod K X) {σ : Sg} {x2 : Int32} {x3 : Int32} {x4 : Int32} (z_x2 : x2 = 0 ∨ x2 = 1)  (hK : KV K (f_Mod_string_80 σ x2 x3 x4)) : X 80 [.ref 15, .null, .int x2, .int x3, .int x4] [] σ := by
  unfold f_Mod_string_80 at hK
  refine hX.1 111 I_Mod_string_80 ok_Mod_string_80 _ _ _ ?_
  refine And.intro (fun h1 => ?_) (fun h1 => ?_)
  · have hK := ite_p hK h1
    refine And.intro (vin (by decide)) ?_
    refine And.intro (vin (by decide)) ?_
    refine s_Mod_getRegister (vin (by decide)) (bnd_g hK fun r2 e2 hK => ?_)
    refine s_Mod_set (bnd_g hK fun r3 e3 hK => ?_)
    exact b_Mod_string_111 hX z_x2  hK
  · have hK := ite_n hK h1
    exact b_Mod_string_111 hX z_x2  hK
def f_Mod_string_38 (σ : Sg) (x2 : Int32) (x3 : Int32) (y0 : Int32) : Sg := (if x3 = (164 : Int32) then (bnd (f_Mod_get σ (σ 18 (Int32.toNatClampNeg y0)) (σ 17 (Int32.toNatClampNeg (6 : Int32))) x2) fun r2 => bnd (f_Mod_set r2.2 (σ 18 (Int32.toNatClampNeg (0 : Int32))) (σ 17 (Int32.toNatClampNeg (7 : Int32))) r2.1 x2) fun r3 => (f_Mod_string_80 r3 x2 x3 (σ 18 (Int32.toNatClampNeg y0)))) else (f_Mod_string_80 σ x2 x3 (σ 18 (Int32.toNatClampNeg y0))))
abbrev w_Mod_string_38 : List (Nat × Option Nat) := [(15, some 4), (16, none), (17, none)]
theorem p_Mod_string_38 {P : Sg → Prop} (hP : WP w_Mod_string_38 P) {σ : Sg} {x2 : Int32} {x3 : Int32} {y0 : Int32} (h : P σ) : P (f_Mod_string_38 σ x2 x3 y0) := by
  unfold f_Mod_string_38
  refine ite_z (fun _ => ?_) (fun _ => ?_)
  · refine bnd_zz (Z := PP P) (p_Mod_get (wsub hP rfl) h) fun r2 e2 q2 => ?_
    refine bnd_zz (Z := P) (p_Mod_set (wsub hP rfl) q2) fun r3 e3 q3 => ?_
    exact p_Mod_string_80 (wsub hP rfl) q3
  · exact p_Mod_string_80 (wsub hP rfl) h
set_option maxRecDepth 100000 in
set_option maxHeartbeats 4000000 in
theorem b_Mod_string_38 {l : Launch} {ad : Nat → Nat} {D : va_G} {cI : ClassId} {K : Option Value → Sg → Prop} {X : Nat → List Value → List Value → Sg → Prop} (hX : Cl l ad D cI mi_Mod_string pt_Mod K X) {σ : Sg} {x2 : Int32} {x3 : Int32} {y0 : Int32} (z_x2 : x2 = 0 ∨ x2 = 1) (hy : vp_in y0 4) (hK : KV K (f_Mod_string_38 σ x2 x3 y0)) : X 38 [.ref 15, .null, .int x2, .int x3, .null] [.int y0, .ref 18] σ := by
  unfold f_Mod_string_38 at hK
  refine hX.1 80 I_Mod_string_38 ok_Mod_string_38 _ _ _ ?_
  refine And.intro hy ?_
  refine And.intro (fun h1 => ?_) (fun h1 => ?_)
  · have hK := ite_p hK h1
    refine And.intro (vin (by decide)) ?_
    refine And.intro (vin (by decide)) ?_
    refine And.intro (vin (by decide)) ?_
    refine s_Mod_get (bnd_g hK fun r2 e2 hK => ?_)
    refine s_Mod_set (bnd_g hK fun r3 e3 hK => ?_)
    exact b_Mod_string_80 hX z_x2  hK
  · have hK := ite_n hK h1
    exact b_Mod_string_80 hX z_x2  hK
def f_Mod_string_12 (σ : Sg) (x1 : Int32) (y0 : Int32) : Sg := (if (σ 15 10) < (0 : Int32) then (f_Mod_string_38 σ y0 (x1 &&& (254 : Int32)) (3 : Int32)) else (f_Mod_string_38 σ y0 (x1 &&& (254 : Int32)) (σ 15 10)))
abbrev w_Mod_string_12 : List (Nat × Option Nat) := [(15, some 4), (16, none), (17, none)]
theorem p_Mod_string_12 {P : Sg → Prop} (hP : WP w_Mod_string_12 P) {σ : Sg} {x1 : Int32} {y0 : Int32} (h : P σ) : P (f_Mod_string_12 σ x1 y0) := by
  unfold f_Mod_string_12
  refine ite_z (fun _ => ?_) (fun _ => ?_)
  · exact p_Mod_string_38 (wsub hP rfl) h
  · exact p_Mod_string_38 (wsub hP rfl) h
set_option maxRecDepth 100000 in
set_option maxHeartbeats 4000000 in
theorem b_Mod_string_12 {l : Launch} {ad : Nat → Nat} {D : va_G} {cI : ClassId} {K : Option Value → Sg → Prop} {X : Nat → List Value → List Value → Sg → Prop} (hX : Cl l ad D cI mi_Mod_string pt_Mod K X) {σ : Sg} {x1 : Int32} {y0 : Int32} (z_y0 : y0 = 0 ∨ y0 = 1) (OV0 : OV σ) (hK : KV K (f_Mod_string_12 σ x1 y0)) : X 12 [.ref 15, .int x1, .null, .null, .null] [.int y0] σ := by
  unfold f_Mod_string_12 at hK
  refine hX.1 37 I_Mod_string_12 ok_Mod_string_12 _ _ _ ?_
  refine And.intro (fun h1 => ?_) (fun h1 => ?_)
  · have hK := ite_p hK h1
    refine hX.1 38 I_Mod_string_37 ok_Mod_string_37 _ _ _ ?_
    refine hX.fg [1] ?_
    exact b_Mod_string_38 hX z_y0 (by first | exact vin (by decide) | exact OV_in OV0 (by assumption)) hK
  · have hK := ite_n hK h1
    refine hX.fg [1] ?_
    exact b_Mod_string_38 hX z_y0 (by first | exact vin (by decide) | exact OV_in OV0 (by assumption)) hK
def f_Mod_string (σ : Sg) (a1 : Int32) : Sg := (if (a1 &&& (1 : Int32)) = (1 : Int32) then (f_Mod_string_12 σ a1 (1 : Int32)) else (f_Mod_string_12 σ a1 (0 : Int32)))
abbrev w_Mod_string : List (Nat × Option Nat) := [(15, some 4), (16, none), (17, none)]
theorem p_Mod_string {P : Sg → Prop} (hP : WP w_Mod_string P) {σ : Sg} {a1 : Int32} (h : P σ) : P (f_Mod_string σ a1) := by
  unfold f_Mod_string
  refine ite_z (fun _ => ?_) (fun _ => ?_)
  · exact p_Mod_string_12 (wsub hP rfl) h
  · exact p_Mod_string_12 (wsub hP rfl) h
set_option maxRecDepth 100000 in
set_option maxHeartbeats 4000000 in
theorem s_Mod_string {l : Launch} {ad : Nat → Nat} {D : va_G} {cI : ClassId} {σ : Sg} {a1 : Int32} {K : Option Value → Sg → Prop}  (OV0 : OV σ) (hK : KV K (f_Mod_string σ a1)) : MetJ l ad D cI mi_Mod_string [.ref 15, .int a1] σ K := by
  refine met_of mi_Mod_string pt_Mod pt_Mod_in rfl pl_Mod rfl (Nat.le_of_ble_eq_true rfl) fun X hX => ?_
  have hX : Cl l ad D cI mi_Mod_string pt_Mod K X := hX
  show X 0 [.ref 15, .int a1, .null, .null, .null] [] σ
  unfold f_Mod_string at hK
  refine hX.1 11 I_Mod_string_0 ok_Mod_string_0 _ _ _ ?_
  refine And.intro (fun h1 => ?_) (fun h1 => ?_)
  · have hK := ite_p hK h1
    exact b_Mod_string_12 hX (Or.inr rfl) OV0 hK
  · have hK := ite_n hK h1
    refine hX.1 12 I_Mod_string_11 ok_Mod_string_11 _ _ _ ?_
    exact b_Mod_string_12 hX (Or.inl rfl) OV0 hK
