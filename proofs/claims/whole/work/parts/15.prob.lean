def I_Pro_registerOnStack_0 : List IT := [(0, .iload_n 1, 1, 0, 0, []), (1, .bipush 7, 2, 7, 0, []), (3, .iand, 1, 0, 0, []), (4, .istore_n 2, 1, 0, 0, []), (5, .iload_n 1, 1, 0, 0, []), (6, .bipush 88, 2, 88, 0, []), (8, .if_icmp .ge 19, 3, 0, 27, []), (11, .aload_n 0, 1, 0, 0, []), (12, .aload_n 0, 1, 0, 0, []), (13, .getfield 13, 3, 0, 0, []), (16, .getfield 166, 3, 0, 0, []), (19, .iload_n 2, 1, 0, 0, []), (20, .iaload, 1, 0, 0, []), (21, .invokevirtual 160, 3, 0, 0, []), (24, .goto 16, 3, 0, 40, [])]
theorem ok_Pro_registerOnStack_0 : blkOK b_Pro_registerOnStack pt_Pro 27 I_Pro_registerOnStack_0 = true := by decide +kernel
def I_Pro_registerOnStack_27 : List IT := [(27, .aload_n 0, 1, 0, 0, []), (28, .getfield 13, 3, 0, 0, []), (31, .getfield 166, 3, 0, 0, []), (34, .iload_n 2, 1, 0, 0, []), (35, .aload_n 0, 1, 0, 0, []), (36, .invokevirtual 163, 3, 0, 0, []), (39, .iastore, 1, 0, 0, [])]
theorem ok_Pro_registerOnStack_27 : blkOK b_Pro_registerOnStack pt_Pro 40 I_Pro_registerOnStack_27 = true := by decide +kernel
def I_Pro_registerOnStack_40 : List IT := [(40, .iconst 1, 1, 1, 0, []), (41, .ireturn, 1, 0, 0, [])]
theorem ok_Pro_registerOnStack_40 : blkOK b_Pro_registerOnStack pt_Pro 42 I_Pro_registerOnStack_40 = true := by decide +kernel
def f_Pro_registerOnStack (σ : Sg) (a1 : Int32) : Int32 × Sg := (if (88 : Int32) ≤ a1 then (bnd (f_Pro_pop σ) fun r2 => bnd (up2 r2.2 4 (Int32.toNatClampNeg (a1 &&& (7 : Int32))) r2.1) fun s3 => ((1 : Int32), s3)) else (bnd (f_Pro_push σ (σ 4 (Int32.toNatClampNeg (a1 &&& (7 : Int32))))) fun r4 => ((1 : Int32), r4)))
theorem z_Pro_registerOnStack {σ : Sg} {a1 : Int32}   : (f_Pro_registerOnStack σ a1).1 = 0 ∨ (f_Pro_registerOnStack σ a1).1 = 1 := by
  show Zb (f_Pro_registerOnStack σ a1)
  unfold f_Pro_registerOnStack
  refine ite_z (fun h1 => ?_) (fun h1 => ?_)
  · refine bnd_z fun r2 e2 => ?_
    refine bnd_z fun s3 e3 => ?_
    exact (Or.inr rfl)
  · refine bnd_z fun r4 e4 => ?_
    exact (Or.inr rfl)
abbrev w_Pro_registerOnStack : List (Nat × Option Nat) := [(2, none), (4, none)]
theorem p_Pro_registerOnStack {P : Sg → Prop} (hP : WP w_Pro_registerOnStack P) {σ : Sg} {a1 : Int32} (h : P σ) : PP P (f_Pro_registerOnStack σ a1) := by
  unfold f_Pro_registerOnStack
  refine ite_z (fun _ => ?_) (fun _ => ?_)
  · refine bnd_zz (Z := PP P) (p_Pro_pop (wsub hP rfl) h) fun r2 e2 q2 => ?_
    refine bnd_zz (Z := P) (hP _ _ _ _ (Or.inl (by decide)) q2) fun s3 e3 q3 => ?_
    exact q3
  · refine bnd_zz (Z := P) (p_Pro_push (wsub hP rfl) h) fun r4 e4 q4 => ?_
    exact q4
set_option maxRecDepth 100000 in
set_option maxHeartbeats 4000000 in
theorem s_Pro_registerOnStack {l : Launch} {ad : Nat → Nat} {D : va_G} {cI : ClassId} {σ : Sg} {a1 : Int32} {K : Option Value → Sg → Prop}   (hK : KI K (f_Pro_registerOnStack σ a1)) : MetJ l ad D cI mi_Pro_registerOnStack [.ref 12, .int a1] σ K := by
  refine met_of mi_Pro_registerOnStack pt_Pro pt_Pro_in rfl pl_Pro rfl (Nat.le_of_ble_eq_true rfl) fun X hX => ?_
  have hX : Cl l ad D cI mi_Pro_registerOnStack pt_Pro K X := hX
  show X 0 [.ref 12, .int a1, .null] [] σ
  unfold f_Pro_registerOnStack at hK
  refine hX.1 27 I_Pro_registerOnStack_0 ok_Pro_registerOnStack_0 _ _ _ ?_
  refine And.intro (fun h1 => ?_) (fun h1 => ?_)
  · have hK := ite_p hK h1
    refine hX.1 40 I_Pro_registerOnStack_27 ok_Pro_registerOnStack_27 _ _ _ ?_
    refine s_Pro_pop (bnd_g hK fun r2 e2 hK => ?_)
    refine And.intro (pk_andIn _ 3 rfl (by decide)) (SG_g hK fun s3 e3 hK => ?_)
    refine hX.1 42 I_Pro_registerOnStack_40 ok_Pro_registerOnStack_40 _ _ _ ?_
    exact And.intro (Or.inr rfl) hK
  · have hK := ite_n hK h1
    refine And.intro (pk_andIn _ 3 rfl (by decide)) ?_
    refine s_Pro_push (bnd_g hK fun r4 e4 hK => ?_)
    refine hX.1 42 I_Pro_registerOnStack_40 ok_Pro_registerOnStack_40 _ _ _ ?_
    exact And.intro (Or.inr rfl) hK
def I_Pro_holds_0 : List IT := [(0, .aload_n 0, 1, 0, 0, []), (1, .getfield 17, 3, 0, 0, []), (4, .sipush 128, 3, 128, 0, []), (7, .invokevirtual 40, 3, 0, 0, []), (10, .aload_n 0, 1, 0, 0, []), (11, .getfield 17, 3, 0, 0, []), (14, .sipush 2048, 3, 2048, 0, []), (17, .invokevirtual 40, 3, 0, 0, []), (20, .if_icmp .eq 7, 3, 0, 27, []), (23, .iconst 1, 1, 1, 0, []), (24, .goto 4, 3, 0, 28, [])]
theorem ok_Pro_holds_0 : blkOK b_Pro_holds pt_Pro 27 I_Pro_holds_0 = true := by decide +kernel
def I_Pro_holds_27 : List IT := [(27, .iconst 0, 1, 0, 0, [])]
theorem ok_Pro_holds_27 : blkOK b_Pro_holds pt_Pro 28 I_Pro_holds_27 = true := by decide +kernel
def I_Pro_holds_28 : List IT := [(28, .istore_n 2, 1, 0, 0, []), (29, .iload_n 1, 1, 0, 0, []), (30, .tableswitch 95 0 6 #[42, 53, 62, 72, 82, 95, 93], 42, 0, 125, [(0, 72), (1, 83), (2, 92), (3, 102), (4, 112), (5, 125), (6, 123)])]
theorem ok_Pro_holds_28 : blkOK b_Pro_holds pt_Pro 72 I_Pro_holds_28 = true := by decide +kernel
def I_Pro_holds_72 : List IT := [(72, .aload_n 0, 1, 0, 0, []), (73, .getfield 17, 3, 0, 0, []), (76, .sipush 2048, 3, 2048, 0, []), (79, .invokevirtual 40, 3, 0, 0, []), (82, .ireturn, 1, 0, 0, [])]
theorem ok_Pro_holds_72 : blkOK b_Pro_holds pt_Pro 83 I_Pro_holds_72 = true := by decide +kernel
def I_Pro_holds_83 : List IT := [(83, .aload_n 0, 1, 0, 0, []), (84, .getfield 17, 3, 0, 0, []), (87, .iconst 1, 1, 1, 0, []), (88, .invokevirtual 40, 3, 0, 0, []), (91, .ireturn, 1, 0, 0, [])]
theorem ok_Pro_holds_83 : blkOK b_Pro_holds pt_Pro 92 I_Pro_holds_83 = true := by decide +kernel
def I_Pro_holds_92 : List IT := [(92, .aload_n 0, 1, 0, 0, []), (93, .getfield 17, 3, 0, 0, []), (96, .bipush 64, 2, 64, 0, []), (98, .invokevirtual 40, 3, 0, 0, []), (101, .ireturn, 1, 0, 0, [])]
theorem ok_Pro_holds_92 : blkOK b_Pro_holds pt_Pro 102 I_Pro_holds_92 = true := by decide +kernel
def I_Pro_holds_102 : List IT := [(102, .aload_n 0, 1, 0, 0, []), (103, .getfield 17, 3, 0, 0, []), (106, .bipush 65, 2, 65, 0, []), (108, .invokevirtual 40, 3, 0, 0, []), (111, .ireturn, 1, 0, 0, [])]
theorem ok_Pro_holds_102 : blkOK b_Pro_holds pt_Pro 112 I_Pro_holds_102 = true := by decide +kernel
def I_Pro_holds_112 : List IT := [(112, .aload_n 0, 1, 0, 0, []), (113, .getfield 17, 3, 0, 0, []), (116, .sipush 128, 3, 128, 0, []), (119, .invokevirtual 40, 3, 0, 0, []), (122, .ireturn, 1, 0, 0, [])]
theorem ok_Pro_holds_112 : blkOK b_Pro_holds pt_Pro 123 I_Pro_holds_112 = true := by decide +kernel
def I_Pro_holds_123 : List IT := [(123, .iload_n 2, 1, 0, 0, []), (124, .ireturn, 1, 0, 0, [])]
theorem ok_Pro_holds_123 : blkOK b_Pro_holds pt_Pro 125 I_Pro_holds_123 = true := by decide +kernel
def I_Pro_holds_125 : List IT := [(125, .iload_n 2, 1, 0, 0, []), (126, .ifCond .ne 15, 3, 0, 141, []), (129, .aload_n 0, 1, 0, 0, []), (130, .getfield 17, 3, 0, 0, []), (133, .bipush 64, 2, 64, 0, []), (135, .invokevirtual 40, 3, 0, 0, []), (138, .ifCond .eq 7, 3, 0, 145, [])]
theorem ok_Pro_holds_125 : blkOK b_Pro_holds pt_Pro 141 I_Pro_holds_125 = true := by decide +kernel
def I_Pro_holds_141 : List IT := [(141, .iconst 1, 1, 1, 0, []), (142, .goto 4, 3, 0, 146, [])]
theorem ok_Pro_holds_141 : blkOK b_Pro_holds pt_Pro 145 I_Pro_holds_141 = true := by decide +kernel
def I_Pro_holds_145 : List IT := [(145, .iconst 0, 1, 0, 0, [])]
theorem ok_Pro_holds_145 : blkOK b_Pro_holds pt_Pro 146 I_Pro_holds_145 = true := by decide +kernel
def I_Pro_holds_146 : List IT := [(146, .ireturn, 1, 0, 0, [])]
theorem ok_Pro_holds_146 : blkOK b_Pro_holds pt_Pro 147 I_Pro_holds_146 = true := by decide +kernel
def f_Pro_holds_125 (σ : Sg) (x2 : Int32) : Int32 × Sg := (if x2 = (0 : Int32) then (bnd (f_Fla_on σ (64 : Int32)) fun r2 => (if r2.1 = (0 : Int32) then ((0 : Int32), r2.2) else ((1 : Int32), r2.2))) else ((1 : Int32), σ))
theorem z_Pro_holds_125 {σ : Sg} {x2 : Int32} (z_x2 : x2 = 0 ∨ x2 = 1)  : (f_Pro_holds_125 σ x2).1 = 0 ∨ (f_Pro_holds_125 σ x2).1 = 1 := by
  show Zb (f_Pro_holds_125 σ x2)
  unfold f_Pro_holds_125
  refine ite_z (fun h1 => ?_) (fun h1 => ?_)
  · refine bnd_zz (Z := Zb) (z_Fla_on) fun r2 e2 z2 => ?_
    refine ite_z (fun h3 => ?_) (fun h3 => ?_)
    · exact (Or.inl rfl)
    · exact (Or.inr rfl)
  · exact (Or.inr rfl)
abbrev w_Pro_holds_125 : List (Nat × Option Nat) := []
theorem p_Pro_holds_125 {P : Sg → Prop} (hP : WP w_Pro_holds_125 P) {σ : Sg} {x2 : Int32} (h : P σ) : PP P (f_Pro_holds_125 σ x2) := by
  unfold f_Pro_holds_125
  refine ite_z (fun _ => ?_) (fun _ => ?_)
  · refine bnd_zz (Z := PP P) (p_Fla_on (wsub hP rfl) h) fun r2 e2 q2 => ?_
    refine ite_z (fun _ => ?_) (fun _ => ?_)
    · exact q2
    · exact q2
  · exact h
set_option maxRecDepth 100000 in
set_option maxHeartbeats 4000000 in
theorem b_Pro_holds_125 {l : Launch} {ad : Nat → Nat} {D : va_G} {cI : ClassId} {K : Option Value → Sg → Prop} {X : Nat → List Value → List Value → Sg → Prop} (hX : Cl l ad D cI mi_Pro_holds pt_Pro K X) {σ : Sg} {x2 : Int32} (z_x2 : x2 = 0 ∨ x2 = 1)  (hK : KI K (f_Pro_holds_125 σ x2)) : X 125 [.ref 12, .null, .int x2] [] σ := by
  unfold f_Pro_holds_125 at hK
  refine hX.1 141 I_Pro_holds_125 ok_Pro_holds_125 _ _ _ ?_
  refine And.intro (fun h1 => ?_) (fun h1 => ?_)
  · have hK := ite_p hK h1
    refine s_Fla_on (bnd_g hK fun r2 e2 hK => ?_)
    have z2 : r2.1 = 0 ∨ r2.1 = 1 := by rw [← e2]; exact z_Fla_on
    refine And.intro (fun h3 => ?_) (fun h3 => ?_)
    · have hK := ite_p hK h3
      refine hX.1 146 I_Pro_holds_145 ok_Pro_holds_145 _ _ _ ?_
      refine hX.1 147 I_Pro_holds_146 ok_Pro_holds_146 _ _ _ ?_
      exact And.intro (Or.inl rfl) hK
    · have hK := ite_n hK h3
      refine hX.1 145 I_Pro_holds_141 ok_Pro_holds_141 _ _ _ ?_
      refine hX.1 147 I_Pro_holds_146 ok_Pro_holds_146 _ _ _ ?_
      exact And.intro (Or.inr rfl) hK
  · have hK := ite_n hK h1
    refine hX.1 145 I_Pro_holds_141 ok_Pro_holds_141 _ _ _ ?_
    refine hX.1 147 I_Pro_holds_146 ok_Pro_holds_146 _ _ _ ?_
    exact And.intro (Or.inr rfl) hK
def f_Pro_holds_28 (σ : Sg) (x1 : Int32) (y0 : Int32) : Int32 × Sg := (if x1 = (0 : Int32) then (bnd (f_Fla_on σ (2048 : Int32)) fun r2 => (r2.1, r2.2)) else (if x1 = (1 : Int32) then (bnd (f_Fla_on σ (1 : Int32)) fun r4 => (r4.1, r4.2)) else (if x1 = (2 : Int32) then (bnd (f_Fla_on σ (64 : Int32)) fun r6 => (r6.1, r6.2)) else (if x1 = (3 : Int32) then (bnd (f_Fla_on σ (65 : Int32)) fun r8 => (r8.1, r8.2)) else (if x1 = (4 : Int32) then (bnd (f_Fla_on σ (128 : Int32)) fun r10 => (r10.1, r10.2)) else (if x1 = (5 : Int32) then (f_Pro_holds_125 σ y0) else (if x1 = (6 : Int32) then (y0, σ) else (f_Pro_holds_125 σ y0))))))))
theorem z_Pro_holds_28 {σ : Sg} {x1 : Int32} {y0 : Int32} (z_y0 : y0 = 0 ∨ y0 = 1)  : (f_Pro_holds_28 σ x1 y0).1 = 0 ∨ (f_Pro_holds_28 σ x1 y0).1 = 1 := by
  show Zb (f_Pro_holds_28 σ x1 y0)
  unfold f_Pro_holds_28
  refine ite_z (fun h1 => ?_) (fun h1 => ?_)
  · refine bnd_zz (Z := Zb) (z_Fla_on) fun r2 e2 z2 => ?_
    exact z2
  refine ite_z (fun h3 => ?_) (fun h3 => ?_)
  · refine bnd_zz (Z := Zb) (z_Fla_on) fun r4 e4 z4 => ?_
    exact z4
  refine ite_z (fun h5 => ?_) (fun h5 => ?_)
  · refine bnd_zz (Z := Zb) (z_Fla_on) fun r6 e6 z6 => ?_
    exact z6
  refine ite_z (fun h7 => ?_) (fun h7 => ?_)
  · refine bnd_zz (Z := Zb) (z_Fla_on) fun r8 e8 z8 => ?_
    exact z8
  refine ite_z (fun h9 => ?_) (fun h9 => ?_)
  · refine bnd_zz (Z := Zb) (z_Fla_on) fun r10 e10 z10 => ?_
    exact z10
  refine ite_z (fun h11 => ?_) (fun h11 => ?_)
  · exact z_Pro_holds_125 z_y0
  refine ite_z (fun h12 => ?_) (fun h12 => ?_)
  · exact z_y0
  exact z_Pro_holds_125 z_y0 
abbrev w_Pro_holds_28 : List (Nat × Option Nat) := []
theorem p_Pro_holds_28 {P : Sg → Prop} (hP : WP w_Pro_holds_28 P) {σ : Sg} {x1 : Int32} {y0 : Int32} (h : P σ) : PP P (f_Pro_holds_28 σ x1 y0) := by
  unfold f_Pro_holds_28
  refine ite_z (fun _ => ?_) (fun _ => ?_)
  · refine bnd_zz (Z := PP P) (p_Fla_on (wsub hP rfl) h) fun r2 e2 q2 => ?_
    exact q2
  refine ite_z (fun _ => ?_) (fun _ => ?_)
  · refine bnd_zz (Z := PP P) (p_Fla_on (wsub hP rfl) h) fun r4 e4 q4 => ?_
    exact q4
  refine ite_z (fun _ => ?_) (fun _ => ?_)
  · refine bnd_zz (Z := PP P) (p_Fla_on (wsub hP rfl) h) fun r6 e6 q6 => ?_
    exact q6
  refine ite_z (fun _ => ?_) (fun _ => ?_)
  · refine bnd_zz (Z := PP P) (p_Fla_on (wsub hP rfl) h) fun r8 e8 q8 => ?_
    exact q8
  refine ite_z (fun _ => ?_) (fun _ => ?_)
  · refine bnd_zz (Z := PP P) (p_Fla_on (wsub hP rfl) h) fun r10 e10 q10 => ?_
    exact q10
  refine ite_z (fun _ => ?_) (fun _ => ?_)
  · exact p_Pro_holds_125 (wsub hP rfl) h
  refine ite_z (fun _ => ?_) (fun _ => ?_)
  · exact h
  exact p_Pro_holds_125 (wsub hP rfl) h
set_option maxRecDepth 100000 in
set_option maxHeartbeats 4000000 in
theorem b_Pro_holds_28 {l : Launch} {ad : Nat → Nat} {D : va_G} {cI : ClassId} {K : Option Value → Sg → Prop} {X : Nat → List Value → List Value → Sg → Prop} (hX : Cl l ad D cI mi_Pro_holds pt_Pro K X) {σ : Sg} {x1 : Int32} {y0 : Int32} (z_y0 : y0 = 0 ∨ y0 = 1)  (hK : KI K (f_Pro_holds_28 σ x1 y0)) : X 28 [.ref 12, .int x1, .null] [.int y0] σ := by
  unfold f_Pro_holds_28 at hK
  refine hX.1 72 I_Pro_holds_28 ok_Pro_holds_28 _ _ _ ?_
  refine And.intro (fun h1 => ?_) (fun h1 => ?_)
  · have hK := ite_p hK h1
    refine hX.1 83 I_Pro_holds_72 ok_Pro_holds_72 _ _ _ ?_
    refine s_Fla_on (bnd_g hK fun r2 e2 hK => ?_)
    have z2 : r2.1 = 0 ∨ r2.1 = 1 := by rw [← e2]; exact z_Fla_on
    exact And.intro z2 hK
  have hK := ite_n hK h1
  refine And.intro (fun h3 => ?_) (fun h3 => ?_)
  · have hK := ite_p hK h3
    refine hX.1 92 I_Pro_holds_83 ok_Pro_holds_83 _ _ _ ?_
    refine s_Fla_on (bnd_g hK fun r4 e4 hK => ?_)
    have z4 : r4.1 = 0 ∨ r4.1 = 1 := by rw [← e4]; exact z_Fla_on
    exact And.intro z4 hK
  have hK := ite_n hK h3
  refine And.intro (fun h5 => ?_) (fun h5 => ?_)
  · have hK := ite_p hK h5
    refine hX.1 102 I_Pro_holds_92 ok_Pro_holds_92 _ _ _ ?_
    refine s_Fla_on (bnd_g hK fun r6 e6 hK => ?_)
    have z6 : r6.1 = 0 ∨ r6.1 = 1 := by rw [← e6]; exact z_Fla_on
    exact And.intro z6 hK
  have hK := ite_n hK h5
  refine And.intro (fun h7 => ?_) (fun h7 => ?_)
  · have hK := ite_p hK h7
    refine hX.1 112 I_Pro_holds_102 ok_Pro_holds_102 _ _ _ ?_
    refine s_Fla_on (bnd_g hK fun r8 e8 hK => ?_)
    have z8 : r8.1 = 0 ∨ r8.1 = 1 := by rw [← e8]; exact z_Fla_on
    exact And.intro z8 hK
  have hK := ite_n hK h7
  refine And.intro (fun h9 => ?_) (fun h9 => ?_)
  · have hK := ite_p hK h9
    refine hX.1 123 I_Pro_holds_112 ok_Pro_holds_112 _ _ _ ?_
    refine s_Fla_on (bnd_g hK fun r10 e10 hK => ?_)
    have z10 : r10.1 = 0 ∨ r10.1 = 1 := by rw [← e10]; exact z_Fla_on
    exact And.intro z10 hK
  have hK := ite_n hK h9
  refine And.intro (fun h11 => ?_) (fun h11 => ?_)
  · have hK := ite_p hK h11
    refine hX.fg [1] ?_
    exact b_Pro_holds_125 hX z_y0 hK
  have hK := ite_n hK h11
  refine And.intro (fun h12 => ?_) (fun h12 => ?_)
  · have hK := ite_p hK h12
    refine hX.1 125 I_Pro_holds_123 ok_Pro_holds_123 _ _ _ ?_
    exact And.intro z_y0 hK
  have hK := ite_n hK h12
  refine hX.fg [1] ?_
  exact b_Pro_holds_125 hX z_y0 hK
def f_Pro_holds (σ : Sg) (a1 : Int32) : Int32 × Sg := (bnd (f_Fla_on σ (128 : Int32)) fun r1 => bnd (f_Fla_on r1.2 (2048 : Int32)) fun r2 => (if r1.1 = r2.1 then (f_Pro_holds_28 r2.2 a1 (0 : Int32)) else (f_Pro_holds_28 r2.2 a1 (1 : Int32))))
theorem z_Pro_holds {σ : Sg} {a1 : Int32}   : (f_Pro_holds σ a1).1 = 0 ∨ (f_Pro_holds σ a1).1 = 1 := by
  show Zb (f_Pro_holds σ a1)
  unfold f_Pro_holds
  refine bnd_zz (Z := Zb) (z_Fla_on) fun r1 e1 z1 => ?_
  refine bnd_zz (Z := Zb) (z_Fla_on) fun r2 e2 z2 => ?_
  refine ite_z (fun h3 => ?_) (fun h3 => ?_)
  · exact z_Pro_holds_28 (Or.inl rfl)
  · exact z_Pro_holds_28 (Or.inr rfl)
abbrev w_Pro_holds : List (Nat × Option Nat) := []
theorem p_Pro_holds {P : Sg → Prop} (hP : WP w_Pro_holds P) {σ : Sg} {a1 : Int32} (h : P σ) : PP P (f_Pro_holds σ a1) := by
  unfold f_Pro_holds
  refine bnd_zz (Z := PP P) (p_Fla_on (wsub hP rfl) h) fun r1 e1 q1 => ?_
  refine bnd_zz (Z := PP P) (p_Fla_on (wsub hP rfl) q1) fun r2 e2 q2 => ?_
  refine ite_z (fun _ => ?_) (fun _ => ?_)
  · exact p_Pro_holds_28 (wsub hP rfl) q2
  · exact p_Pro_holds_28 (wsub hP rfl) q2
set_option maxRecDepth 100000 in
set_option maxHeartbeats 4000000 in
theorem s_Pro_holds {l : Launch} {ad : Nat → Nat} {D : va_G} {cI : ClassId} {σ : Sg} {a1 : Int32} {K : Option Value → Sg → Prop}   (hK : KI K (f_Pro_holds σ a1)) : MetJ l ad D cI mi_Pro_holds [.ref 12, .int a1] σ K := by
  refine met_of mi_Pro_holds pt_Pro pt_Pro_in rfl pl_Pro rfl (Nat.le_of_ble_eq_true rfl) fun X hX => ?_
  have hX : Cl l ad D cI mi_Pro_holds pt_Pro K X := hX
  show X 0 [.ref 12, .int a1, .null] [] σ
  unfold f_Pro_holds at hK
  refine hX.1 27 I_Pro_holds_0 ok_Pro_holds_0 _ _ _ ?_
  refine s_Fla_on (bnd_g hK fun r1 e1 hK => ?_)
  have z1 : r1.1 = 0 ∨ r1.1 = 1 := by rw [← e1]; exact z_Fla_on
  refine s_Fla_on (bnd_g hK fun r2 e2 hK => ?_)
  have z2 : r2.1 = 0 ∨ r2.1 = 1 := by rw [← e2]; exact z_Fla_on
  refine And.intro (fun h3 => ?_) (fun h3 => ?_)
  · have hK := ite_p hK h3
    refine hX.1 28 I_Pro_holds_27 ok_Pro_holds_27 _ _ _ ?_
    exact b_Pro_holds_28 hX (Or.inl rfl) hK
  · have hK := ite_n hK h3
    exact b_Pro_holds_28 hX (Or.inr rfl) hK
def I_Pro_jumpIf_0 : List IT := [(0, .iload_n 1, 1, 0, 0, []), (1, .bipush 10, 2, 10, 0, []), (3, .if_icmp .eq 9, 3, 0, 12, []), (6, .iload_n 1, 1, 0, 0, []), (7, .bipush 11, 2, 11, 0, []), (9, .if_icmp .ne 5, 3, 0, 14, [])]
theorem ok_Pro_jumpIf_0 : blkOK b_Pro_jumpIf pt_Pro 12 I_Pro_jumpIf_0 = true := by decide +kernel
def I_Pro_jumpIf_12 : List IT := [(12, .iconst 0, 1, 0, 0, []), (13, .ireturn, 1, 0, 0, [])]
theorem ok_Pro_jumpIf_12 : blkOK b_Pro_jumpIf pt_Pro 14 I_Pro_jumpIf_12 = true := by decide +kernel
def I_Pro_jumpIf_14 : List IT := [(14, .aload_n 0, 1, 0, 0, []), (15, .getfield 34, 3, 0, 0, []), (18, .invokevirtual 152, 3, 0, 0, []), (21, .istore_n 2, 1, 0, 0, []), (22, .aload_n 0, 1, 0, 0, []), (23, .iload_n 1, 1, 0, 0, []), (24, .iconst 1, 1, 1, 0, []), (25, .ishr, 1, 0, 0, []), (26, .invokevirtual 175, 3, 0, 0, []), (29, .iload_n 1, 1, 0, 0, []), (30, .iconst 1, 1, 1, 0, []), (31, .iand, 1, 0, 0, []), (32, .ifCond .ne 7, 3, 0, 39, []), (35, .iconst 1, 1, 1, 0, []), (36, .goto 4, 3, 0, 40, [])]
theorem ok_Pro_jumpIf_14 : blkOK b_Pro_jumpIf pt_Pro 39 I_Pro_jumpIf_14 = true := by decide +kernel
def I_Pro_jumpIf_39 : List IT := [(39, .iconst 0, 1, 0, 0, [])]
theorem ok_Pro_jumpIf_39 : blkOK b_Pro_jumpIf pt_Pro 40 I_Pro_jumpIf_39 = true := by decide +kernel
def I_Pro_jumpIf_40 : List IT := [(40, .if_icmp .ne 11, 3, 0, 51, []), (43, .aload_n 0, 1, 0, 0, []), (44, .getfield 13, 3, 0, 0, []), (47, .iload_n 2, 1, 0, 0, []), (48, .invokevirtual 178, 3, 0, 0, [])]
theorem ok_Pro_jumpIf_40 : blkOK b_Pro_jumpIf pt_Pro 51 I_Pro_jumpIf_40 = true := by decide +kernel
def I_Pro_jumpIf_51 : List IT := [(51, .iconst 1, 1, 1, 0, []), (52, .ireturn, 1, 0, 0, [])]
theorem ok_Pro_jumpIf_51 : blkOK b_Pro_jumpIf pt_Pro 53 I_Pro_jumpIf_51 = true := by decide +kernel
def f_Pro_jumpIf_40 (σ : Sg) (x2 : Int32) (y0 : Int32) (y1 : Int32) : Int32 × Sg := (if y1 = y0 then (bnd (f_Reg_jump σ x2) fun r2 => ((1 : Int32), r2)) else ((1 : Int32), σ))
theorem z_Pro_jumpIf_40 {σ : Sg} {x2 : Int32} {y0 : Int32} {y1 : Int32} (z_y0 : y0 = 0 ∨ y0 = 1) (z_y1 : y1 = 0 ∨ y1 = 1)  : (f_Pro_jumpIf_40 σ x2 y0 y1).1 = 0 ∨ (f_Pro_jumpIf_40 σ x2 y0 y1).1 = 1 := by
  show Zb (f_Pro_jumpIf_40 σ x2 y0 y1)
  unfold f_Pro_jumpIf_40
  refine ite_z (fun h1 => ?_) (fun h1 => ?_)
  · refine bnd_z fun r2 e2 => ?_
    exact (Or.inr rfl)
  · exact (Or.inr rfl)
abbrev w_Pro_jumpIf_40 : List (Nat × Option Nat) := [(3, some 2)]
theorem p_Pro_jumpIf_40 {P : Sg → Prop} (hP : WP w_Pro_jumpIf_40 P) {σ : Sg} {x2 : Int32} {y0 : Int32} {y1 : Int32} (h : P σ) : PP P (f_Pro_jumpIf_40 σ x2 y0 y1) := by
  unfold f_Pro_jumpIf_40
  refine ite_z (fun _ => ?_) (fun _ => ?_)
  · refine bnd_zz (Z := P) (p_Reg_jump (wsub hP rfl) h) fun r2 e2 q2 => ?_
    exact q2
  · exact h
set_option maxRecDepth 100000 in
set_option maxHeartbeats 4000000 in
theorem b_Pro_jumpIf_40 {l : Launch} {ad : Nat → Nat} {D : va_G} {cI : ClassId} {K : Option Value → Sg → Prop} {X : Nat → List Value → List Value → Sg → Prop} (hX : Cl l ad D cI mi_Pro_jumpIf pt_Pro K X) {σ : Sg} {x2 : Int32} {y0 : Int32} {y1 : Int32} (z_y0 : y0 = 0 ∨ y0 = 1) (z_y1 : y1 = 0 ∨ y1 = 1)  (hK : KI K (f_Pro_jumpIf_40 σ x2 y0 y1)) : X 40 [.ref 12, .null, .int x2] [.int y0, .int y1] σ := by
  unfold f_Pro_jumpIf_40 at hK
  refine hX.1 51 I_Pro_jumpIf_40 ok_Pro_jumpIf_40 _ _ _ ?_
  refine And.intro (fun h1 => ?_) (fun h1 => ?_)
  · have hK := ite_p hK h1
    refine s_Reg_jump (bnd_g hK fun r2 e2 hK => ?_)
    refine hX.1 53 I_Pro_jumpIf_51 ok_Pro_jumpIf_51 _ _ _ ?_
    exact And.intro (Or.inr rfl) hK
  · have hK := ite_n hK h1
    refine hX.1 53 I_Pro_jumpIf_51 ok_Pro_jumpIf_51 _ _ _ ?_
    exact And.intro (Or.inr rfl) hK
def f_Pro_jumpIf (σ : Sg) (a1 : Int32) : Int32 × Sg := (if a1 = (10 : Int32) then ((0 : Int32), σ) else (if a1 = (11 : Int32) then ((0 : Int32), σ) else (bnd (f_Dec_nextSigned σ) fun r3 => bnd (f_Pro_holds r3.2 (a1 >>> ((1 : Int32) &&& 31 : Int32))) fun r4 => (if (a1 &&& (1 : Int32)) = (0 : Int32) then (f_Pro_jumpIf_40 r4.2 r3.1 (1 : Int32) r4.1) else (f_Pro_jumpIf_40 r4.2 r3.1 (0 : Int32) r4.1)))))
theorem z_Pro_jumpIf {σ : Sg} {a1 : Int32}   : (f_Pro_jumpIf σ a1).1 = 0 ∨ (f_Pro_jumpIf σ a1).1 = 1 := by
  show Zb (f_Pro_jumpIf σ a1)
  unfold f_Pro_jumpIf
  refine ite_z (fun h1 => ?_) (fun h1 => ?_)
  · exact (Or.inl rfl)
  · refine ite_z (fun h2 => ?_) (fun h2 => ?_)
    · exact (Or.inl rfl)
    · refine bnd_z fun r3 e3 => ?_
      refine bnd_zz (Z := Zb) (z_Pro_holds) fun r4 e4 z4 => ?_
      refine ite_z (fun h5 => ?_) (fun h5 => ?_)
      · exact z_Pro_jumpIf_40 (Or.inr rfl) z4
      · exact z_Pro_jumpIf_40 (Or.inl rfl) z4
abbrev w_Pro_jumpIf : List (Nat × Option Nat) := [(3, some 2)]
theorem p_Pro_jumpIf {P : Sg → Prop} (hP : WP w_Pro_jumpIf P) {σ : Sg} {a1 : Int32} (h : P σ) : PP P (f_Pro_jumpIf σ a1) := by
  unfold f_Pro_jumpIf
  refine ite_z (fun _ => ?_) (fun _ => ?_)
  · exact h
  · refine ite_z (fun _ => ?_) (fun _ => ?_)
    · exact h
    · refine bnd_zz (Z := PP P) (p_Dec_nextSigned (wsub hP rfl) h) fun r3 e3 q3 => ?_
      refine bnd_zz (Z := PP P) (p_Pro_holds (wsub hP rfl) q3) fun r4 e4 q4 => ?_
      refine ite_z (fun _ => ?_) (fun _ => ?_)
      · exact p_Pro_jumpIf_40 (wsub hP rfl) q4
      · exact p_Pro_jumpIf_40 (wsub hP rfl) q4
set_option maxRecDepth 100000 in
set_option maxHeartbeats 4000000 in
theorem s_Pro_jumpIf {l : Launch} {ad : Nat → Nat} {D : va_G} {cI : ClassId} {σ : Sg} {a1 : Int32} {K : Option Value → Sg → Prop}   (hK : KI K (f_Pro_jumpIf σ a1)) : MetJ l ad D cI mi_Pro_jumpIf [.ref 12, .int a1] σ K := by
  refine met_of mi_Pro_jumpIf pt_Pro pt_Pro_in rfl pl_Pro rfl (Nat.le_of_ble_eq_true rfl) fun X hX => ?_
  have hX : Cl l ad D cI mi_Pro_jumpIf pt_Pro K X := hX
  show X 0 [.ref 12, .int a1, .null] [] σ
  unfold f_Pro_jumpIf at hK
  refine hX.1 12 I_Pro_jumpIf_0 ok_Pro_jumpIf_0 _ _ _ ?_
  refine And.intro (fun h1 => ?_) (fun h1 => ?_)
  · have hK := ite_p hK h1
    refine hX.1 14 I_Pro_jumpIf_12 ok_Pro_jumpIf_12 _ _ _ ?_
    exact And.intro (Or.inl rfl) hK
  · have hK := ite_n hK h1
    refine And.intro (fun h2 => ?_) (fun h2 => ?_)
    · have hK := ite_p hK h2
      refine hX.1 14 I_Pro_jumpIf_12 ok_Pro_jumpIf_12 _ _ _ ?_
      exact And.intro (Or.inl rfl) hK
    · have hK := ite_n hK h2
      refine hX.1 39 I_Pro_jumpIf_14 ok_Pro_jumpIf_14 _ _ _ ?_
      refine s_Dec_nextSigned (bnd_g hK fun r3 e3 hK => ?_)
      refine s_Pro_holds (bnd_g hK fun r4 e4 hK => ?_)
      have z4 : r4.1 = 0 ∨ r4.1 = 1 := by rw [← e4]; exact z_Pro_holds
      refine And.intro (fun h5 => ?_) (fun h5 => ?_)
      · have hK := ite_p hK h5
        refine hX.fg [1] ?_
        exact b_Pro_jumpIf_40 hX (Or.inr rfl) z4 hK
      · have hK := ite_n hK h5
        refine hX.1 40 I_Pro_jumpIf_39 ok_Pro_jumpIf_39 _ _ _ ?_
        refine hX.fg [1] ?_
        exact b_Pro_jumpIf_40 hX (Or.inl rfl) z4 hK
def I_Pro_combineGiven_0 : List IT := [(0, .iload_n 1, 1, 0, 0, []), (1, .sipush 131, 3, 131, 0, []), (4, .if_icmp .gt 10, 3, 0, 14, []), (7, .iload_n 1, 1, 0, 0, []), (8, .sipush 130, 3, 130, 0, []), (11, .if_icmp .ne 5, 3, 0, 16, [])]
theorem ok_Pro_combineGiven_0 : blkOK b_Pro_combineGiven pt_Pro 14 I_Pro_combineGiven_0 = true := by decide +kernel
def I_Pro_combineGiven_14 : List IT := [(14, .iconst 0, 1, 0, 0, []), (15, .ireturn, 1, 0, 0, [])]
theorem ok_Pro_combineGiven_14 : blkOK b_Pro_combineGiven pt_Pro 16 I_Pro_combineGiven_14 = true := by decide +kernel
def I_Pro_combineGiven_16 : List IT := [(16, .iload_n 1, 1, 0, 0, []), (17, .sipush 128, 3, 128, 0, []), (20, .if_icmp .eq 7, 3, 0, 27, []), (23, .iconst 1, 1, 1, 0, []), (24, .goto 4, 3, 0, 28, [])]
theorem ok_Pro_combineGiven_16 : blkOK b_Pro_combineGiven pt_Pro 27 I_Pro_combineGiven_16 = true := by decide +kernel
def I_Pro_combineGiven_27 : List IT := [(27, .iconst 0, 1, 0, 0, [])]
theorem ok_Pro_combineGiven_27 : blkOK b_Pro_combineGiven pt_Pro 28 I_Pro_combineGiven_27 = true := by decide +kernel
def I_Pro_combineGiven_28 : List IT := [(28, .istore_n 2, 1, 0, 0, []), (29, .aload_n 0, 1, 0, 0, []), (30, .getfield 34, 3, 0, 0, []), (33, .iload_n 2, 1, 0, 0, []), (34, .invokevirtual 141, 3, 0, 0, []), (37, .iload_n 1, 1, 0, 0, []), (38, .sipush 131, 3, 131, 0, []), (41, .if_icmp .ne 16, 3, 0, 57, []), (44, .aload_n 0, 1, 0, 0, []), (45, .getfield 34, 3, 0, 0, []), (48, .invokevirtual 152, 3, 0, 0, []), (51, .ldc 155, 2, 65535, 0, []), (53, .iand, 1, 0, 0, []), (54, .goto 11, 3, 0, 65, [])]
theorem ok_Pro_combineGiven_28 : blkOK b_Pro_combineGiven pt_Pro 57 I_Pro_combineGiven_28 = true := by decide +kernel
def I_Pro_combineGiven_57 : List IT := [(57, .aload_n 0, 1, 0, 0, []), (58, .getfield 34, 3, 0, 0, []), (61, .iload_n 2, 1, 0, 0, []), (62, .invokevirtual 126, 3, 0, 0, [])]
theorem ok_Pro_combineGiven_57 : blkOK b_Pro_combineGiven pt_Pro 65 I_Pro_combineGiven_57 = true := by decide +kernel
def I_Pro_combineGiven_65 : List IT := [(65, .istore_n 3, 1, 0, 0, []), (66, .aload_n 0, 1, 0, 0, []), (67, .getfield 34, 3, 0, 0, []), (70, .aload_n 0, 1, 0, 0, []), (71, .getfield 17, 3, 0, 0, []), (74, .aload_n 0, 1, 0, 0, []), (75, .getfield 34, 3, 0, 0, []), (78, .getfield 147, 3, 0, 0, []), (81, .aload_n 0, 1, 0, 0, []), (82, .getfield 34, 3, 0, 0, []), (85, .invokevirtual 145, 3, 0, 0, []), (88, .iload_n 3, 1, 0, 0, []), (89, .iload_n 2, 1, 0, 0, []), (90, .invokevirtual 134, 3, 0, 0, []), (93, .invokevirtual 150, 3, 0, 0, []), (96, .iconst 1, 1, 1, 0, []), (97, .ireturn, 1, 0, 0, [])]
theorem ok_Pro_combineGiven_65 : blkOK b_Pro_combineGiven pt_Pro 98 I_Pro_combineGiven_65 = true := by decide +kernel
def f_Pro_combineGiven_65 (σ : Sg) (x2 : Int32) (y0 : Int32) : Int32 × Sg := (bnd (f_Dec_value σ) fun r1 => bnd (f_Fla_combine r1.2 (σ 14 5) r1.1 y0 x2) fun r2 => bnd (f_Dec_change r2.2 r2.1) fun r3 => ((1 : Int32), r3))
theorem z_Pro_combineGiven_65 {σ : Sg} {x2 : Int32} {y0 : Int32} (z_x2 : x2 = 0 ∨ x2 = 1)  : (f_Pro_combineGiven_65 σ x2 y0).1 = 0 ∨ (f_Pro_combineGiven_65 σ x2 y0).1 = 1 := by
  show Zb (f_Pro_combineGiven_65 σ x2 y0)
  unfold f_Pro_combineGiven_65
  refine bnd_z fun r1 e1 => ?_
  refine bnd_z fun r2 e2 => ?_
  refine bnd_z fun r3 e3 => ?_
  exact (Or.inr rfl)
abbrev w_Pro_combineGiven_65 : List (Nat × Option Nat) := [(2, none), (4, none), (6, some 0)]
theorem p_Pro_combineGiven_65 {P : Sg → Prop} (hP : WP w_Pro_combineGiven_65 P) {σ : Sg} {x2 : Int32} {y0 : Int32} (h : P σ) : PP P (f_Pro_combineGiven_65 σ x2 y0) := by
  unfold f_Pro_combineGiven_65
  refine bnd_zz (Z := PP P) (p_Dec_value (wsub hP rfl) h) fun r1 e1 q1 => ?_
  refine bnd_zz (Z := PP P) (p_Fla_combine (wsub hP rfl) q1) fun r2 e2 q2 => ?_
  refine bnd_zz (Z := P) (p_Dec_change (wsub hP rfl) q2) fun r3 e3 q3 => ?_
  exact q3
set_option maxRecDepth 100000 in
set_option maxHeartbeats 4000000 in
theorem b_Pro_combineGiven_65 {l : Launch} {ad : Nat → Nat} {D : va_G} {cI : ClassId} {K : Option Value → Sg → Prop} {X : Nat → List Value → List Value → Sg → Prop} (hX : Cl l ad D cI mi_Pro_combineGiven pt_Pro K X) {σ : Sg} {x2 : Int32} {y0 : Int32} (z_x2 : x2 = 0 ∨ x2 = 1)  (hK : KI K (f_Pro_combineGiven_65 σ x2 y0)) : X 65 [.ref 12, .null, .int x2, .null] [.int y0] σ := by
  unfold f_Pro_combineGiven_65 at hK
  refine hX.1 98 I_Pro_combineGiven_65 ok_Pro_combineGiven_65 _ _ _ ?_
  refine s_Dec_value (bnd_g hK fun r1 e1 hK => ?_)
  refine s_Fla_combine (bnd_g hK fun r2 e2 hK => ?_)
  refine s_Dec_change (bnd_g hK fun r3 e3 hK => ?_)
  exact And.intro (Or.inr rfl) hK
def f_Pro_combineGiven_28 (σ : Sg) (x1 : Int32) (y0 : Int32) : Int32 × Sg := (bnd (f_Dec_readModrm σ y0) fun r1 => (if x1 = (131 : Int32) then (bnd (f_Dec_nextSigned r1) fun r3 => (f_Pro_combineGiven_65 r3.2 y0 (r3.1 &&& (65535 : Int32)))) else (bnd (f_Dec_nextOf r1 y0) fun r4 => (f_Pro_combineGiven_65 r4.2 y0 r4.1))))
theorem z_Pro_combineGiven_28 {σ : Sg} {x1 : Int32} {y0 : Int32} (z_y0 : y0 = 0 ∨ y0 = 1)  : (f_Pro_combineGiven_28 σ x1 y0).1 = 0 ∨ (f_Pro_combineGiven_28 σ x1 y0).1 = 1 := by
  show Zb (f_Pro_combineGiven_28 σ x1 y0)
  unfold f_Pro_combineGiven_28
  refine bnd_z fun r1 e1 => ?_
  refine ite_z (fun h2 => ?_) (fun h2 => ?_)
  · refine bnd_z fun r3 e3 => ?_
    exact z_Pro_combineGiven_65 z_y0 
  · refine bnd_z fun r4 e4 => ?_
    exact z_Pro_combineGiven_65 z_y0 
abbrev w_Pro_combineGiven_28 : List (Nat × Option Nat) := [(2, none), (3, some 2), (4, none), (6, some 0), (14, some 5), (14, some 6), (14, some 7), (14, some 9), (14, some 10), (14, some 11)]
theorem p_Pro_combineGiven_28 {P : Sg → Prop} (hP : WP w_Pro_combineGiven_28 P) {σ : Sg} {x1 : Int32} {y0 : Int32} (h : P σ) : PP P (f_Pro_combineGiven_28 σ x1 y0) := by
  unfold f_Pro_combineGiven_28
  refine bnd_zz (Z := P) (p_Dec_readModrm (wsub hP rfl) h) fun r1 e1 q1 => ?_
  refine ite_z (fun _ => ?_) (fun _ => ?_)
  · refine bnd_zz (Z := PP P) (p_Dec_nextSigned (wsub hP rfl) q1) fun r3 e3 q3 => ?_
    exact p_Pro_combineGiven_65 (wsub hP rfl) q3
  · refine bnd_zz (Z := PP P) (p_Dec_nextOf (wsub hP rfl) q1) fun r4 e4 q4 => ?_
    exact p_Pro_combineGiven_65 (wsub hP rfl) q4
set_option maxRecDepth 100000 in
set_option maxHeartbeats 4000000 in
theorem b_Pro_combineGiven_28 {l : Launch} {ad : Nat → Nat} {D : va_G} {cI : ClassId} {K : Option Value → Sg → Prop} {X : Nat → List Value → List Value → Sg → Prop} (hX : Cl l ad D cI mi_Pro_combineGiven pt_Pro K X) {σ : Sg} {x1 : Int32} {y0 : Int32} (z_y0 : y0 = 0 ∨ y0 = 1)  (hK : KI K (f_Pro_combineGiven_28 σ x1 y0)) : X 28 [.ref 12, .int x1, .null, .null] [.int y0] σ := by
  unfold f_Pro_combineGiven_28 at hK
  refine hX.1 57 I_Pro_combineGiven_28 ok_Pro_combineGiven_28 _ _ _ ?_
  refine s_Dec_readModrm z_y0 (bnd_g hK fun r1 e1 hK => ?_)
  refine And.intro (fun h2 => ?_) (fun h2 => ?_)
  · have hK := ite_p hK h2
    refine s_Dec_nextSigned (bnd_g hK fun r3 e3 hK => ?_)
    refine hX.fg [1] ?_
    exact b_Pro_combineGiven_65 hX z_y0 hK
  · have hK := ite_n hK h2
    refine hX.1 65 I_Pro_combineGiven_57 ok_Pro_combineGiven_57 _ _ _ ?_
    refine s_Dec_nextOf (bnd_g hK fun r4 e4 hK => ?_)
    refine hX.fg [1] ?_
    exact b_Pro_combineGiven_65 hX z_y0 hK
def f_Pro_combineGiven (σ : Sg) (a1 : Int32) : Int32 × Sg := (if (131 : Int32) < a1 then ((0 : Int32), σ) else (if a1 = (130 : Int32) then ((0 : Int32), σ) else (if a1 = (128 : Int32) then (f_Pro_combineGiven_28 σ a1 (0 : Int32)) else (f_Pro_combineGiven_28 σ a1 (1 : Int32)))))
theorem z_Pro_combineGiven {σ : Sg} {a1 : Int32}   : (f_Pro_combineGiven σ a1).1 = 0 ∨ (f_Pro_combineGiven σ a1).1 = 1 := by
  show Zb (f_Pro_combineGiven σ a1)
  unfold f_Pro_combineGiven
  refine ite_z (fun h1 => ?_) (fun h1 => ?_)
  · exact (Or.inl rfl)
  · refine ite_z (fun h2 => ?_) (fun h2 => ?_)
    · exact (Or.inl rfl)
    · refine ite_z (fun h3 => ?_) (fun h3 => ?_)
      · exact z_Pro_combineGiven_28 (Or.inl rfl)
      · exact z_Pro_combineGiven_28 (Or.inr rfl)
abbrev w_Pro_combineGiven : List (Nat × Option Nat) := [(2, none), (3, some 2), (4, none), (6, some 0), (14, some 5), (14, some 6), (14, some 7), (14, some 9), (14, some 10), (14, some 11)]
theorem p_Pro_combineGiven {P : Sg → Prop} (hP : WP w_Pro_combineGiven P) {σ : Sg} {a1 : Int32} (h : P σ) : PP P (f_Pro_combineGiven σ a1) := by
  unfold f_Pro_combineGiven
  refine ite_z (fun _ => ?_) (fun _ => ?_)
  · exact h
  · refine ite_z (fun _ => ?_) (fun _ => ?_)
    · exact h
    · refine ite_z (fun _ => ?_) (fun _ => ?_)
      · exact p_Pro_combineGiven_28 (wsub hP rfl) h
      · exact p_Pro_combineGiven_28 (wsub hP rfl) h
set_option maxRecDepth 100000 in
set_option maxHeartbeats 4000000 in
theorem s_Pro_combineGiven {l : Launch} {ad : Nat → Nat} {D : va_G} {cI : ClassId} {σ : Sg} {a1 : Int32} {K : Option Value → Sg → Prop}   (hK : KI K (f_Pro_combineGiven σ a1)) : MetJ l ad D cI mi_Pro_combineGiven [.ref 12, .int a1] σ K := by
  refine met_of mi_Pro_combineGiven pt_Pro pt_Pro_in rfl pl_Pro rfl (Nat.le_of_ble_eq_true rfl) fun X hX => ?_
  have hX : Cl l ad D cI mi_Pro_combineGiven pt_Pro K X := hX
  show X 0 [.ref 12, .int a1, .null, .null] [] σ
  unfold f_Pro_combineGiven at hK
  refine hX.1 14 I_Pro_combineGiven_0 ok_Pro_combineGiven_0 _ _ _ ?_
  refine And.intro (fun h1 => ?_) (fun h1 => ?_)
  · have hK := ite_p hK h1
    refine hX.1 16 I_Pro_combineGiven_14 ok_Pro_combineGiven_14 _ _ _ ?_
    exact And.intro (Or.inl rfl) hK
  · have hK := ite_n hK h1
    refine And.intro (fun h2 => ?_) (fun h2 => ?_)
    · have hK := ite_p hK h2
      refine hX.1 16 I_Pro_combineGiven_14 ok_Pro_combineGiven_14 _ _ _ ?_
      exact And.intro (Or.inl rfl) hK
    · have hK := ite_n hK h2
      refine hX.1 27 I_Pro_combineGiven_16 ok_Pro_combineGiven_16 _ _ _ ?_
      refine And.intro (fun h3 => ?_) (fun h3 => ?_)
      · have hK := ite_p hK h3
        refine hX.1 28 I_Pro_combineGiven_27 ok_Pro_combineGiven_27 _ _ _ ?_
        exact b_Pro_combineGiven_28 hX (Or.inl rfl) hK
      · have hK := ite_n hK h3
        exact b_Pro_combineGiven_28 hX (Or.inr rfl) hK
def I_Pro_moveSegmentOrOffset_0 : List IT := [(0, .aload_n 0, 1, 0, 0, []), (1, .getfield 34, 3, 0, 0, []), (4, .getfield 147, 3, 0, 0, []), (7, .iconst 3, 1, 3, 0, []), (8, .iand, 1, 0, 0, []), (9, .istore_n 2, 1, 0, 0, []), (10, .iload_n 1, 1, 0, 0, []), (11, .sipush 140, 3, 140, 0, []), (14, .if_icmp .ne 21, 3, 0, 35, []), (17, .aload_n 0, 1, 0, 0, []), (18, .getfield 34, 3, 0, 0, []), (21, .aload_n 0, 1, 0, 0, []), (22, .getfield 13, 3, 0, 0, []), (25, .getfield 156, 3, 0, 0, []), (28, .iload_n 2, 1, 0, 0, []), (29, .iaload, 1, 0, 0, []), (30, .invokevirtual 150, 3, 0, 0, []), (33, .iconst 1, 1, 1, 0, []), (34, .ireturn, 1, 0, 0, [])]
theorem ok_Pro_moveSegmentOrOffset_0 : blkOK b_Pro_moveSegmentOrOffset pt_Pro 35 I_Pro_moveSegmentOrOffset_0 = true := by decide +kernel
def I_Pro_moveSegmentOrOffset_35 : List IT := [(35, .iload_n 1, 1, 0, 0, []), (36, .sipush 141, 3, 141, 0, []), (39, .if_icmp .ne 46, 3, 0, 85, []), (42, .aload_n 0, 1, 0, 0, []), (43, .getfield 34, 3, 0, 0, []), (46, .getfield 184, 3, 0, 0, []), (49, .ifCond .eq 28, 3, 0, 77, []), (52, .aload_n 0, 1, 0, 0, []), (53, .getfield 13, 3, 0, 0, []), (56, .getfield 166, 3, 0, 0, []), (59, .aload_n 0, 1, 0, 0, []), (60, .getfield 34, 3, 0, 0, []), (63, .getfield 147, 3, 0, 0, []), (66, .bipush 7, 2, 7, 0, []), (68, .iand, 1, 0, 0, []), (69, .aload_n 0, 1, 0, 0, []), (70, .getfield 34, 3, 0, 0, []), (73, .getfield 187, 3, 0, 0, []), (76, .iastore, 1, 0, 0, [])]
theorem ok_Pro_moveSegmentOrOffset_35 : blkOK b_Pro_moveSegmentOrOffset pt_Pro 77 I_Pro_moveSegmentOrOffset_35 = true := by decide +kernel
def I_Pro_moveSegmentOrOffset_77 : List IT := [(77, .aload_n 0, 1, 0, 0, []), (78, .getfield 34, 3, 0, 0, []), (81, .getfield 184, 3, 0, 0, []), (84, .ireturn, 1, 0, 0, [])]
theorem ok_Pro_moveSegmentOrOffset_77 : blkOK b_Pro_moveSegmentOrOffset pt_Pro 85 I_Pro_moveSegmentOrOffset_77 = true := by decide +kernel
def I_Pro_moveSegmentOrOffset_85 : List IT := [(85, .iload_n 2, 1, 0, 0, []), (86, .iconst 1, 1, 1, 0, []), (87, .if_icmp .ne 5, 3, 0, 92, []), (90, .iconst 0, 1, 0, 0, []), (91, .ireturn, 1, 0, 0, [])]
theorem ok_Pro_moveSegmentOrOffset_85 : blkOK b_Pro_moveSegmentOrOffset pt_Pro 92 I_Pro_moveSegmentOrOffset_85 = true := by decide +kernel
def I_Pro_moveSegmentOrOffset_92 : List IT := [(92, .aload_n 0, 1, 0, 0, []), (93, .getfield 13, 3, 0, 0, []), (96, .getfield 156, 3, 0, 0, []), (99, .iload_n 2, 1, 0, 0, []), (100, .aload_n 0, 1, 0, 0, []), (101, .getfield 34, 3, 0, 0, []), (104, .invokevirtual 145, 3, 0, 0, []), (107, .iastore, 1, 0, 0, []), (108, .aload_n 0, 1, 0, 0, []), (109, .iload_n 2, 1, 0, 0, []), (110, .iconst 2, 1, 2, 0, []), (111, .if_icmp .ne 7, 3, 0, 118, []), (114, .iconst 1, 1, 1, 0, []), (115, .goto 4, 3, 0, 119, [])]
theorem ok_Pro_moveSegmentOrOffset_92 : blkOK b_Pro_moveSegmentOrOffset pt_Pro 118 I_Pro_moveSegmentOrOffset_92 = true := by decide +kernel
def I_Pro_moveSegmentOrOffset_118 : List IT := [(118, .iconst 0, 1, 0, 0, [])]
theorem ok_Pro_moveSegmentOrOffset_118 : blkOK b_Pro_moveSegmentOrOffset pt_Pro 119 I_Pro_moveSegmentOrOffset_118 = true := by decide +kernel
def I_Pro_moveSegmentOrOffset_119 : List IT := [(119, .putfield 44, 3, 0, 0, []), (122, .iconst 1, 1, 1, 0, []), (123, .ireturn, 1, 0, 0, [])]
theorem ok_Pro_moveSegmentOrOffset_119 : blkOK b_Pro_moveSegmentOrOffset pt_Pro 124 I_Pro_moveSegmentOrOffset_119 = true := by decide +kernel
def f_Pro_moveSegmentOrOffset (σ : Sg) (a1 : Int32) : Int32 × Sg := (if a1 = (140 : Int32) then (bnd (f_Dec_change σ (σ 5 (Int32.toNatClampNeg ((σ 14 5) &&& (3 : Int32))))) fun r2 => ((1 : Int32), r2)) else (if a1 = (141 : Int32) then (if (σ 14 7) = (0 : Int32) then ((σ 14 7), σ) else (bnd (up2 σ 4 (Int32.toNatClampNeg ((σ 14 5) &&& (7 : Int32))) (σ 14 6)) fun s5 => ((s5 14 7), s5))) else (if ((σ 14 5) &&& (3 : Int32)) = (1 : Int32) then ((0 : Int32), σ) else (bnd (f_Dec_value σ) fun r7 => bnd (up2 r7.2 5 (Int32.toNatClampNeg ((σ 14 5) &&& (3 : Int32))) r7.1) fun s8 => (if ((σ 14 5) &&& (3 : Int32)) = (2 : Int32) then (bnd (up2 s8 12 8 (1 : Int32)) fun s10 => ((1 : Int32), s10)) else (bnd (up2 s8 12 8 (0 : Int32)) fun s11 => ((1 : Int32), s11)))))))
theorem z_Pro_moveSegmentOrOffset {σ : Sg} {a1 : Int32}  (hb : σ 14 7 = 0 ∨ σ 14 7 = 1) : (f_Pro_moveSegmentOrOffset σ a1).1 = 0 ∨ (f_Pro_moveSegmentOrOffset σ a1).1 = 1 := by
  show Zb (f_Pro_moveSegmentOrOffset σ a1)
  unfold f_Pro_moveSegmentOrOffset
  refine ite_z (fun h1 => ?_) (fun h1 => ?_)
  · refine bnd_z fun r2 e2 => ?_
    exact (Or.inr rfl)
  · refine ite_z (fun h3 => ?_) (fun h3 => ?_)
    · refine ite_z (fun h4 => ?_) (fun h4 => ?_)
      · exact (by subst_vars; exact hb)
      · refine bnd_z fun s5 e5 => ?_
        exact (by subst_vars; exact hb)
    · refine ite_z (fun h6 => ?_) (fun h6 => ?_)
      · exact (Or.inl rfl)
      · refine bnd_z fun r7 e7 => ?_
        refine bnd_z fun s8 e8 => ?_
        refine ite_z (fun h9 => ?_) (fun h9 => ?_)
        · refine bnd_z fun s10 e10 => ?_
          exact (Or.inr rfl)
        · refine bnd_z fun s11 e11 => ?_
          exact (Or.inr rfl)
abbrev w_Pro_moveSegmentOrOffset : List (Nat × Option Nat) := [(2, none), (4, none), (5, none), (12, some 8)]
theorem p_Pro_moveSegmentOrOffset {P : Sg → Prop} (hP : WP w_Pro_moveSegmentOrOffset P) {σ : Sg} {a1 : Int32} (h : P σ) : PP P (f_Pro_moveSegmentOrOffset σ a1) := by
  unfold f_Pro_moveSegmentOrOffset
  refine ite_z (fun _ => ?_) (fun _ => ?_)
  · refine bnd_zz (Z := P) (p_Dec_change (wsub hP rfl) h) fun r2 e2 q2 => ?_
    exact q2
  · refine ite_z (fun _ => ?_) (fun _ => ?_)
    · refine ite_z (fun _ => ?_) (fun _ => ?_)
      · exact h
      · refine bnd_zz (Z := P) (hP _ _ _ _ (Or.inl (by decide)) h) fun s5 e5 q5 => ?_
        exact q5
    · refine ite_z (fun _ => ?_) (fun _ => ?_)
      · exact h
      · refine bnd_zz (Z := PP P) (p_Dec_value (wsub hP rfl) h) fun r7 e7 q7 => ?_
        refine bnd_zz (Z := P) (hP _ _ _ _ (Or.inl (by decide)) q7) fun s8 e8 q8 => ?_
        refine ite_z (fun _ => ?_) (fun _ => ?_)
        · refine bnd_zz (Z := P) (hP _ _ _ _ (Or.inr (by decide)) q8) fun s10 e10 q10 => ?_
          exact q10
        · refine bnd_zz (Z := P) (hP _ _ _ _ (Or.inr (by decide)) q8) fun s11 e11 q11 => ?_
          exact q11
set_option maxRecDepth 100000 in
set_option maxHeartbeats 4000000 in
theorem s_Pro_moveSegmentOrOffset {l : Launch} {ad : Nat → Nat} {D : va_G} {cI : ClassId} {σ : Sg} {a1 : Int32} {K : Option Value → Sg → Prop}  (hb : σ 14 7 = 0 ∨ σ 14 7 = 1) (hK : KI K (f_Pro_moveSegmentOrOffset σ a1)) : MetJ l ad D cI mi_Pro_moveSegmentOrOffset [.ref 12, .int a1] σ K := by
  refine met_of mi_Pro_moveSegmentOrOffset pt_Pro pt_Pro_in rfl pl_Pro rfl (Nat.le_of_ble_eq_true rfl) fun X hX => ?_
  have hX : Cl l ad D cI mi_Pro_moveSegmentOrOffset pt_Pro K X := hX
  show X 0 [.ref 12, .int a1, .null] [] σ
  unfold f_Pro_moveSegmentOrOffset at hK
  refine hX.1 35 I_Pro_moveSegmentOrOffset_0 ok_Pro_moveSegmentOrOffset_0 _ _ _ ?_
  refine And.intro (fun h1 => ?_) (fun h1 => ?_)
  · have hK := ite_p hK h1
    refine And.intro (pk_andIn _ 2 rfl (by decide)) ?_
    refine s_Dec_change (bnd_g hK fun r2 e2 hK => ?_)
    exact And.intro (Or.inr rfl) hK
  · have hK := ite_n hK h1
    refine hX.1 77 I_Pro_moveSegmentOrOffset_35 ok_Pro_moveSegmentOrOffset_35 _ _ _ ?_
    refine And.intro (fun h3 => ?_) (fun h3 => ?_)
    · have hK := ite_p hK h3
      refine And.intro (fun h4 => ?_) (fun h4 => ?_)
      · have hK := ite_p hK h4
        refine hX.1 85 I_Pro_moveSegmentOrOffset_77 ok_Pro_moveSegmentOrOffset_77 _ _ _ ?_
        exact And.intro (by subst_vars; exact hb) hK
      · have hK := ite_n hK h4
        refine And.intro (pk_andIn _ 3 rfl (by decide)) (SG_g hK fun s5 e5 hK => ?_)
        refine hX.1 85 I_Pro_moveSegmentOrOffset_77 ok_Pro_moveSegmentOrOffset_77 _ _ _ ?_
        exact And.intro (by subst_vars; exact hb) hK
    · have hK := ite_n hK h3
      refine hX.1 92 I_Pro_moveSegmentOrOffset_85 ok_Pro_moveSegmentOrOffset_85 _ _ _ ?_
      refine And.intro (fun h6 => ?_) (fun h6 => ?_)
      · have hK := ite_p hK h6
        exact And.intro (Or.inl rfl) hK
      · have hK := ite_n hK h6
        refine hX.1 118 I_Pro_moveSegmentOrOffset_92 ok_Pro_moveSegmentOrOffset_92 _ _ _ ?_
        refine s_Dec_value (bnd_g hK fun r7 e7 hK => ?_)
        refine And.intro (pk_andIn _ 2 rfl (by decide)) (SG_g hK fun s8 e8 hK => ?_)
        refine And.intro (fun h9 => ?_) (fun h9 => ?_)
        · have hK := ite_p hK h9
          refine hX.1 124 I_Pro_moveSegmentOrOffset_119 ok_Pro_moveSegmentOrOffset_119 _ _ _ ?_
          refine And.intro (Or.inr rfl) (SG_g hK fun s10 e10 hK => ?_)
          exact And.intro (Or.inr rfl) hK
        · have hK := ite_n hK h9
          refine hX.1 119 I_Pro_moveSegmentOrOffset_118 ok_Pro_moveSegmentOrOffset_118 _ _ _ ?_
          refine hX.1 124 I_Pro_moveSegmentOrOffset_119 ok_Pro_moveSegmentOrOffset_119 _ _ _ ?_
          refine And.intro (Or.inl rfl) (SG_g hK fun s11 e11 hK => ?_)
          exact And.intro (Or.inr rfl) hK
def I_Pro_move_0 : List IT := [(0, .iload_n 1, 1, 0, 0, []), (1, .sipush 143, 3, 143, 0, []), (4, .if_icmp .ne 5, 3, 0, 9, []), (7, .iconst 0, 1, 0, 0, []), (8, .ireturn, 1, 0, 0, [])]
theorem ok_Pro_move_0 : blkOK b_Pro_move pt_Pro 9 I_Pro_move_0 = true := by decide +kernel
def I_Pro_move_9 : List IT := [(9, .iload_n 1, 1, 0, 0, []), (10, .sipush 139, 3, 139, 0, []), (13, .if_icmp .gt 10, 3, 0, 23, []), (16, .iload_n 1, 1, 0, 0, []), (17, .iconst 1, 1, 1, 0, []), (18, .iand, 1, 0, 0, []), (19, .iconst 1, 1, 1, 0, []), (20, .if_icmp .ne 7, 3, 0, 27, [])]
theorem ok_Pro_move_9 : blkOK b_Pro_move pt_Pro 23 I_Pro_move_9 = true := by decide +kernel
def I_Pro_move_23 : List IT := [(23, .iconst 1, 1, 1, 0, []), (24, .goto 4, 3, 0, 28, [])]
theorem ok_Pro_move_23 : blkOK b_Pro_move pt_Pro 27 I_Pro_move_23 = true := by decide +kernel
def I_Pro_move_27 : List IT := [(27, .iconst 0, 1, 0, 0, [])]
theorem ok_Pro_move_27 : blkOK b_Pro_move pt_Pro 28 I_Pro_move_27 = true := by decide +kernel
def I_Pro_move_28 : List IT := [(28, .istore_n 2, 1, 0, 0, []), (29, .aload_n 0, 1, 0, 0, []), (30, .getfield 34, 3, 0, 0, []), (33, .iload_n 2, 1, 0, 0, []), (34, .invokevirtual 141, 3, 0, 0, []), (37, .iload_n 1, 1, 0, 0, []), (38, .sipush 140, 3, 140, 0, []), (41, .if_icmp .lt 9, 3, 0, 50, []), (44, .aload_n 0, 1, 0, 0, []), (45, .iload_n 1, 1, 0, 0, []), (46, .invokevirtual 181, 3, 0, 0, []), (49, .ireturn, 1, 0, 0, [])]
theorem ok_Pro_move_28 : blkOK b_Pro_move pt_Pro 50 I_Pro_move_28 = true := by decide +kernel
def I_Pro_move_50 : List IT := [(50, .iload_n 1, 1, 0, 0, []), (51, .sipush 138, 3, 138, 0, []), (54, .if_icmp .ge 28, 3, 0, 82, []), (57, .aload_n 0, 1, 0, 0, []), (58, .getfield 34, 3, 0, 0, []), (61, .aload_n 0, 1, 0, 0, []), (62, .getfield 13, 3, 0, 0, []), (65, .aload_n 0, 1, 0, 0, []), (66, .getfield 34, 3, 0, 0, []), (69, .getfield 147, 3, 0, 0, []), (72, .iload_n 2, 1, 0, 0, []), (73, .invokevirtual 130, 3, 0, 0, []), (76, .invokevirtual 150, 3, 0, 0, []), (79, .goto 25, 3, 0, 104, [])]
theorem ok_Pro_move_50 : blkOK b_Pro_move pt_Pro 82 I_Pro_move_50 = true := by decide +kernel
def I_Pro_move_82 : List IT := [(82, .aload_n 0, 1, 0, 0, []), (83, .getfield 13, 3, 0, 0, []), (86, .aload_n 0, 1, 0, 0, []), (87, .getfield 34, 3, 0, 0, []), (90, .getfield 147, 3, 0, 0, []), (93, .iload_n 2, 1, 0, 0, []), (94, .aload_n 0, 1, 0, 0, []), (95, .getfield 34, 3, 0, 0, []), (98, .invokevirtual 145, 3, 0, 0, []), (101, .invokevirtual 137, 3, 0, 0, [])]
theorem ok_Pro_move_82 : blkOK b_Pro_move pt_Pro 104 I_Pro_move_82 = true := by decide +kernel
def I_Pro_move_104 : List IT := [(104, .iconst 1, 1, 1, 0, []), (105, .ireturn, 1, 0, 0, [])]
theorem ok_Pro_move_104 : blkOK b_Pro_move pt_Pro 106 I_Pro_move_104 = true := by decide +kernel
def f_Pro_move_28 (σ : Sg) (x1 : Int32) (y0 : Int32) : Int32 × Sg := (bnd (f_Dec_readModrm σ y0) fun r1 => (if x1 < (140 : Int32) then (if (138 : Int32) ≤ x1 then (bnd (f_Dec_value r1) fun r4 => bnd (f_Reg_change r4.2 (r1 14 5) y0 r4.1) fun r5 => ((1 : Int32), r5)) else (bnd (f_Reg_value r1 (r1 14 5) y0) fun r6 => bnd (f_Dec_change r6.2 r6.1) fun r7 => ((1 : Int32), r7))) else (bnd (f_Pro_moveSegmentOrOffset r1 x1) fun r8 => (r8.1, r8.2))))
theorem z_Pro_move_28 {σ : Sg} {x1 : Int32} {y0 : Int32} (z_y0 : y0 = 0 ∨ y0 = 1)  : (f_Pro_move_28 σ x1 y0).1 = 0 ∨ (f_Pro_move_28 σ x1 y0).1 = 1 := by
  show Zb (f_Pro_move_28 σ x1 y0)
  unfold f_Pro_move_28
  refine bnd_z fun r1 e1 => ?_
  refine ite_z (fun h2 => ?_) (fun h2 => ?_)
  · refine ite_z (fun h3 => ?_) (fun h3 => ?_)
    · refine bnd_z fun r4 e4 => ?_
      refine bnd_z fun r5 e5 => ?_
      exact (Or.inr rfl)
    · refine bnd_z fun r6 e6 => ?_
      refine bnd_z fun r7 e7 => ?_
      exact (Or.inr rfl)
  · refine bnd_zz (Z := Zb) (z_Pro_moveSegmentOrOffset (by subst_vars; exact rm_b _ _)) fun r8 e8 z8 => ?_
    exact z8
abbrev w_Pro_move_28 : List (Nat × Option Nat) := [(2, none), (3, some 2), (4, none), (5, none), (12, some 8), (14, some 5), (14, some 6), (14, some 7), (14, some 9), (14, some 10), (14, some 11)]
theorem p_Pro_move_28 {P : Sg → Prop} (hP : WP w_Pro_move_28 P) {σ : Sg} {x1 : Int32} {y0 : Int32} (h : P σ) : PP P (f_Pro_move_28 σ x1 y0) := by
  unfold f_Pro_move_28
  refine bnd_zz (Z := P) (p_Dec_readModrm (wsub hP rfl) h) fun r1 e1 q1 => ?_
  refine ite_z (fun _ => ?_) (fun _ => ?_)
  · refine ite_z (fun _ => ?_) (fun _ => ?_)
    · refine bnd_zz (Z := PP P) (p_Dec_value (wsub hP rfl) q1) fun r4 e4 q4 => ?_
      refine bnd_zz (Z := P) (p_Reg_change (wsub hP rfl) q4) fun r5 e5 q5 => ?_
      exact q5
    · refine bnd_zz (Z := PP P) (p_Reg_value (wsub hP rfl) q1) fun r6 e6 q6 => ?_
      refine bnd_zz (Z := P) (p_Dec_change (wsub hP rfl) q6) fun r7 e7 q7 => ?_
      exact q7
  · refine bnd_zz (Z := PP P) (p_Pro_moveSegmentOrOffset (wsub hP rfl) q1) fun r8 e8 q8 => ?_
    exact q8
set_option maxRecDepth 100000 in
set_option maxHeartbeats 4000000 in
theorem b_Pro_move_28 {l : Launch} {ad : Nat → Nat} {D : va_G} {cI : ClassId} {K : Option Value → Sg → Prop} {X : Nat → List Value → List Value → Sg → Prop} (hX : Cl l ad D cI mi_Pro_move pt_Pro K X) {σ : Sg} {x1 : Int32} {y0 : Int32} (z_y0 : y0 = 0 ∨ y0 = 1)  (hK : KI K (f_Pro_move_28 σ x1 y0)) : X 28 [.ref 12, .int x1, .null] [.int y0] σ := by
  unfold f_Pro_move_28 at hK
  refine hX.1 50 I_Pro_move_28 ok_Pro_move_28 _ _ _ ?_
  refine s_Dec_readModrm z_y0 (bnd_g hK fun r1 e1 hK => ?_)
  refine And.intro (fun h2 => ?_) (fun h2 => ?_)
  · have hK := ite_p hK h2
    refine hX.1 82 I_Pro_move_50 ok_Pro_move_50 _ _ _ ?_
    refine And.intro (fun h3 => ?_) (fun h3 => ?_)
    · have hK := ite_p hK h3
      refine hX.1 104 I_Pro_move_82 ok_Pro_move_82 _ _ _ ?_
      refine s_Dec_value (bnd_g hK fun r4 e4 hK => ?_)
      refine s_Reg_change (bnd_g hK fun r5 e5 hK => ?_)
      refine hX.1 106 I_Pro_move_104 ok_Pro_move_104 _ _ _ ?_
      exact And.intro (Or.inr rfl) hK
    · have hK := ite_n hK h3
      refine s_Reg_value (bnd_g hK fun r6 e6 hK => ?_)
      refine s_Dec_change (bnd_g hK fun r7 e7 hK => ?_)
      refine hX.1 106 I_Pro_move_104 ok_Pro_move_104 _ _ _ ?_
      exact And.intro (Or.inr rfl) hK
  · have hK := ite_n hK h2
    refine s_Pro_moveSegmentOrOffset (by subst_vars; exact rm_b _ _) (bnd_g hK fun r8 e8 hK => ?_)
    have z8 : r8.1 = 0 ∨ r8.1 = 1 := by rw [← e8]; exact z_Pro_moveSegmentOrOffset (by subst_vars; exact rm_b _ _)
    exact And.intro z8 hK
def f_Pro_move_23 (σ : Sg) (x1 : Int32) : Int32 × Sg := (f_Pro_move_28 σ x1 (1 : Int32))
theorem z_Pro_move_23 {σ : Sg} {x1 : Int32}   : (f_Pro_move_23 σ x1).1 = 0 ∨ (f_Pro_move_23 σ x1).1 = 1 := by
  show Zb (f_Pro_move_23 σ x1)
  unfold f_Pro_move_23
  exact z_Pro_move_28 (Or.inr rfl) 
abbrev w_Pro_move_23 : List (Nat × Option Nat) := [(2, none), (3, some 2), (4, none), (5, none), (12, some 8), (14, some 5), (14, some 6), (14, some 7), (14, some 9), (14, some 10), (14, some 11)]
theorem p_Pro_move_23 {P : Sg → Prop} (hP : WP w_Pro_move_23 P) {σ : Sg} {x1 : Int32} (h : P σ) : PP P (f_Pro_move_23 σ x1) := by
  unfold f_Pro_move_23
  exact p_Pro_move_28 (wsub hP rfl) h
set_option maxRecDepth 100000 in
set_option maxHeartbeats 4000000 in
theorem b_Pro_move_23 {l : Launch} {ad : Nat → Nat} {D : va_G} {cI : ClassId} {K : Option Value → Sg → Prop} {X : Nat → List Value → List Value → Sg → Prop} (hX : Cl l ad D cI mi_Pro_move pt_Pro K X) {σ : Sg} {x1 : Int32}   (hK : KI K (f_Pro_move_23 σ x1)) : X 23 [.ref 12, .int x1, .null] [] σ := by
  unfold f_Pro_move_23 at hK
  refine hX.1 27 I_Pro_move_23 ok_Pro_move_23 _ _ _ ?_
  exact b_Pro_move_28 hX (Or.inr rfl) hK
def f_Pro_move (σ : Sg) (a1 : Int32) : Int32 × Sg := (if a1 = (143 : Int32) then ((0 : Int32), σ) else (if (139 : Int32) < a1 then (f_Pro_move_23 σ a1) else (if (a1 &&& (1 : Int32)) = (1 : Int32) then (f_Pro_move_23 σ a1) else (f_Pro_move_28 σ a1 (0 : Int32)))))
theorem z_Pro_move {σ : Sg} {a1 : Int32}   : (f_Pro_move σ a1).1 = 0 ∨ (f_Pro_move σ a1).1 = 1 := by
  show Zb (f_Pro_move σ a1)
  unfold f_Pro_move
  refine ite_z (fun h1 => ?_) (fun h1 => ?_)
  · exact (Or.inl rfl)
  · refine ite_z (fun h2 => ?_) (fun h2 => ?_)
    · exact z_Pro_move_23
    · refine ite_z (fun h3 => ?_) (fun h3 => ?_)
      · exact z_Pro_move_23
      · exact z_Pro_move_28 (Or.inl rfl)
abbrev w_Pro_move : List (Nat × Option Nat) := [(2, none), (3, some 2), (4, none), (5, none), (12, some 8), (14, some 5), (14, some 6), (14, some 7), (14, some 9), (14, some 10), (14, some 11)]
theorem p_Pro_move {P : Sg → Prop} (hP : WP w_Pro_move P) {σ : Sg} {a1 : Int32} (h : P σ) : PP P (f_Pro_move σ a1) := by
  unfold f_Pro_move
  refine ite_z (fun _ => ?_) (fun _ => ?_)
  · exact h
  · refine ite_z (fun _ => ?_) (fun _ => ?_)
    · exact p_Pro_move_23 (wsub hP rfl) h
    · refine ite_z (fun _ => ?_) (fun _ => ?_)
      · exact p_Pro_move_23 (wsub hP rfl) h
      · exact p_Pro_move_28 (wsub hP rfl) h
set_option maxRecDepth 100000 in
set_option maxHeartbeats 4000000 in
theorem s_Pro_move {l : Launch} {ad : Nat → Nat} {D : va_G} {cI : ClassId} {σ : Sg} {a1 : Int32} {K : Option Value → Sg → Prop}   (hK : KI K (f_Pro_move σ a1)) : MetJ l ad D cI mi_Pro_move [.ref 12, .int a1] σ K := by
  refine met_of mi_Pro_move pt_Pro pt_Pro_in rfl pl_Pro rfl (Nat.le_of_ble_eq_true rfl) fun X hX => ?_
  have hX : Cl l ad D cI mi_Pro_move pt_Pro K X := hX
  show X 0 [.ref 12, .int a1, .null] [] σ
  unfold f_Pro_move at hK
  refine hX.1 9 I_Pro_move_0 ok_Pro_move_0 _ _ _ ?_
  refine And.intro (fun h1 => ?_) (fun h1 => ?_)
  · have hK := ite_p hK h1
    exact And.intro (Or.inl rfl) hK
  · have hK := ite_n hK h1
    refine hX.1 23 I_Pro_move_9 ok_Pro_move_9 _ _ _ ?_
    refine And.intro (fun h2 => ?_) (fun h2 => ?_)
    · have hK := ite_p hK h2
      exact b_Pro_move_23 hX  hK
    · have hK := ite_n hK h2
      refine And.intro (fun h3 => ?_) (fun h3 => ?_)
      · have hK := ite_p hK h3
        exact b_Pro_move_23 hX  hK
      · have hK := ite_n hK h3
        refine hX.1 28 I_Pro_move_27 ok_Pro_move_27 _ _ _ ?_
        exact b_Pro_move_28 hX (Or.inl rfl) hK
