def I_Mod_seek_0 : List IT := [(0, .iload_n 1, 1, 0, 0, []), (1, .iconst 0, 1, 0, 0, []), (2, .sipush 1023, 3, 1023, 0, []), (5, .invokestatic 100, 3, 0, 0, []), (8, .ifCond .ne 5, 3, 0, 13, []), (11, .iconst 0, 1, 0, 0, []), (12, .ireturn, 1, 0, 0, [])]
theorem ok_Mod_seek_0 : blkOK b_Mod_seek pt_Mod 13 I_Mod_seek_0 = true := by decide +kernel
def I_Mod_seek_13 : List IT := [(13, .aload_n 0, 1, 0, 0, []), (14, .iload_n 1, 1, 0, 0, []), (15, .putfield 26, 3, 0, 0, []), (18, .iconst 1, 1, 1, 0, []), (19, .ireturn, 1, 0, 0, [])]
theorem ok_Mod_seek_13 : blkOK b_Mod_seek pt_Mod 20 I_Mod_seek_13 = true := by decide +kernel
def f_Mod_seek (σ : Sg) (a1 : Int32) : Int32 × Sg := (bnd (f_Mod_in σ a1 (0 : Int32) (1023 : Int32)) fun r1 => (if r1.1 = (0 : Int32) then ((0 : Int32), r1.2) else (bnd (up2 r1.2 15 8 a1) fun s3 => ((1 : Int32), s3))))
theorem z_Mod_seek {σ : Sg} {a1 : Int32}   : (f_Mod_seek σ a1).1 = 0 ∨ (f_Mod_seek σ a1).1 = 1 := by
  show Zb (f_Mod_seek σ a1)
  unfold f_Mod_seek
  refine bnd_zz (Z := Zb) (z_Mod_in) fun r1 e1 z1 => ?_
  refine ite_z (fun h2 => ?_) (fun h2 => ?_)
  · exact (Or.inl rfl)
  · refine bnd_z fun s3 e3 => ?_
    exact (Or.inr rfl)
abbrev w_Mod_seek : List (Nat × Option Nat) := [(15, some 8)]
theorem p_Mod_seek {P : Sg → Prop} (hP : WP w_Mod_seek P) {σ : Sg} {a1 : Int32} (h : P σ) : PP P (f_Mod_seek σ a1) := by
  unfold f_Mod_seek
  refine bnd_zz (Z := PP P) (p_Mod_in (wsub hP rfl) h) fun r1 e1 q1 => ?_
  refine ite_z (fun _ => ?_) (fun _ => ?_)
  · exact q1
  · refine bnd_zz (Z := P) (hP _ _ _ _ (Or.inr (by decide)) q1) fun s3 e3 q3 => ?_
    exact q3
set_option maxRecDepth 100000 in
set_option maxHeartbeats 4000000 in
theorem s_Mod_seek {l : Launch} {ad : Nat → Nat} {D : va_G} {cI : ClassId} {σ : Sg} {a1 : Int32} {K : Option Value → Sg → Prop}   (hK : KI K (f_Mod_seek σ a1)) : MetJ l ad D cI mi_Mod_seek [.ref 15, .int a1] σ K := by
  refine met_of mi_Mod_seek pt_Mod pt_Mod_in rfl pl_Mod rfl (Nat.le_of_ble_eq_true rfl) fun X hX => ?_
  have hX : Cl l ad D cI mi_Mod_seek pt_Mod K X := hX
  show X 0 [.ref 15, .int a1] [] σ
  unfold f_Mod_seek at hK
  refine hX.1 13 I_Mod_seek_0 ok_Mod_seek_0 _ _ _ ?_
  refine s_Mod_in (bnd_g hK fun r1 e1 hK => ?_)
  have z1 : r1.1 = 0 ∨ r1.1 = 1 := by rw [← e1]; exact z_Mod_in
  refine And.intro (fun h2 => ?_) (fun h2 => ?_)
  · have hK := ite_p hK h2
    exact And.intro (Or.inl rfl) hK
  · have hK := ite_n hK h2
    refine hX.1 20 I_Mod_seek_13 ok_Mod_seek_13 _ _ _ ?_
    refine And.intro trivial (SG_g hK fun s3 e3 hK => ?_)
    exact And.intro (Or.inr rfl) hK
def I_Mod_peek_0 : List IT := [(0, .iload_n 1, 1, 0, 0, []), (1, .iconst 0, 1, 0, 0, []), (2, .sipush 1023, 3, 1023, 0, []), (5, .invokestatic 100, 3, 0, 0, []), (8, .ifCond .eq 12, 3, 0, 20, []), (11, .aload_n 0, 1, 0, 0, []), (12, .getfield 7, 3, 0, 0, []), (15, .iload_n 1, 1, 0, 0, []), (16, .iaload, 1, 0, 0, []), (17, .goto 4, 3, 0, 21, [])]
theorem ok_Mod_peek_0 : blkOK b_Mod_peek pt_Mod 20 I_Mod_peek_0 = true := by decide +kernel
def I_Mod_peek_20 : List IT := [(20, .iconst (-1), 1, (-1), 0, [])]
theorem ok_Mod_peek_20 : blkOK b_Mod_peek pt_Mod 21 I_Mod_peek_20 = true := by decide +kernel
def I_Mod_peek_21 : List IT := [(21, .ireturn, 1, 0, 0, [])]
theorem ok_Mod_peek_21 : blkOK b_Mod_peek pt_Mod 22 I_Mod_peek_21 = true := by decide +kernel
def f_Mod_peek (σ : Sg) (a1 : Int32) : Int32 × Sg := (bnd (f_Mod_in σ a1 (0 : Int32) (1023 : Int32)) fun r1 => (if r1.1 = (0 : Int32) then ((-1 : Int32), r1.2) else ((r1.2 16 (Int32.toNatClampNeg a1)), r1.2)))
abbrev w_Mod_peek : List (Nat × Option Nat) := []
theorem p_Mod_peek {P : Sg → Prop} (hP : WP w_Mod_peek P) {σ : Sg} {a1 : Int32} (h : P σ) : PP P (f_Mod_peek σ a1) := by
  unfold f_Mod_peek
  refine bnd_zz (Z := PP P) (p_Mod_in (wsub hP rfl) h) fun r1 e1 q1 => ?_
  refine ite_z (fun _ => ?_) (fun _ => ?_)
  · exact q1
  · exact q1
set_option maxRecDepth 100000 in
set_option maxHeartbeats 4000000 in
theorem s_Mod_peek {l : Launch} {ad : Nat → Nat} {D : va_G} {cI : ClassId} {σ : Sg} {a1 : Int32} {K : Option Value → Sg → Prop}   (hK : KI K (f_Mod_peek σ a1)) : MetJ l ad D cI mi_Mod_peek [.ref 15, .int a1] σ K := by
  refine met_of mi_Mod_peek pt_Mod pt_Mod_in rfl pl_Mod rfl (Nat.le_of_ble_eq_true rfl) fun X hX => ?_
  have hX : Cl l ad D cI mi_Mod_peek pt_Mod K X := hX
  show X 0 [.ref 15, .int a1] [] σ
  unfold f_Mod_peek at hK
  refine hX.1 20 I_Mod_peek_0 ok_Mod_peek_0 _ _ _ ?_
  refine s_Mod_in (bnd_g hK fun r1 e1 hK => ?_)
  have z1 : r1.1 = 0 ∨ r1.1 = 1 := by rw [← e1]; exact z_Mod_in
  refine And.intro (fun h2 => ?_) (fun h2 => ?_)
  · have hK := ite_p hK h2
    refine hX.1 21 I_Mod_peek_20 ok_Mod_peek_20 _ _ _ ?_
    refine hX.1 22 I_Mod_peek_21 ok_Mod_peek_21 _ _ _ ?_
    exact hK
  · have hK := ite_n hK h2
    refine And.intro (by subst_vars; exact in_1024 (by assumption)) ?_
    refine hX.1 22 I_Mod_peek_21 ok_Mod_peek_21 _ _ _ ?_
    exact hK
def I_Mod_register_0 : List IT := [(0, .iload_n 1, 1, 0, 0, []), (1, .iconst 0, 1, 0, 0, []), (2, .bipush 13, 2, 13, 0, []), (4, .invokestatic 100, 3, 0, 0, []), (7, .ifCond .ne 7, 3, 0, 14, []), (10, .iconst (-1), 1, (-1), 0, []), (11, .goto 53, 3, 0, 64, [])]
theorem ok_Mod_register_0 : blkOK b_Mod_register pt_Mod 14 I_Mod_register_0 = true := by decide +kernel
def I_Mod_register_14 : List IT := [(14, .iload_n 1, 1, 0, 0, []), (15, .bipush 8, 2, 8, 0, []), (17, .if_icmp .ge 12, 3, 0, 29, []), (20, .aload_n 0, 1, 0, 0, []), (21, .getfield 13, 3, 0, 0, []), (24, .iload_n 1, 1, 0, 0, []), (25, .iaload, 1, 0, 0, []), (26, .goto 38, 3, 0, 64, [])]
theorem ok_Mod_register_14 : blkOK b_Mod_register pt_Mod 29 I_Mod_register_14 = true := by decide +kernel
def I_Mod_register_29 : List IT := [(29, .iload_n 1, 1, 0, 0, []), (30, .bipush 12, 2, 12, 0, []), (32, .if_icmp .ge 15, 3, 0, 47, []), (35, .aload_n 0, 1, 0, 0, []), (36, .getfield 16, 3, 0, 0, []), (39, .iload_n 1, 1, 0, 0, []), (40, .bipush 8, 2, 8, 0, []), (42, .isub, 1, 0, 0, []), (43, .iaload, 1, 0, 0, []), (44, .goto 20, 3, 0, 64, [])]
theorem ok_Mod_register_29 : blkOK b_Mod_register pt_Mod 47 I_Mod_register_29 = true := by decide +kernel
def I_Mod_register_47 : List IT := [(47, .iload_n 1, 1, 0, 0, []), (48, .bipush 12, 2, 12, 0, []), (50, .if_icmp .ne 10, 3, 0, 60, []), (53, .aload_n 0, 1, 0, 0, []), (54, .getfield 22, 3, 0, 0, []), (57, .goto 7, 3, 0, 64, [])]
theorem ok_Mod_register_47 : blkOK b_Mod_register pt_Mod 60 I_Mod_register_47 = true := by decide +kernel
def I_Mod_register_60 : List IT := [(60, .aload_n 0, 1, 0, 0, []), (61, .getfield 92, 3, 0, 0, [])]
theorem ok_Mod_register_60 : blkOK b_Mod_register pt_Mod 64 I_Mod_register_60 = true := by decide +kernel
def I_Mod_register_64 : List IT := [(64, .ireturn, 1, 0, 0, [])]
theorem ok_Mod_register_64 : blkOK b_Mod_register pt_Mod 65 I_Mod_register_64 = true := by decide +kernel
def f_Mod_register (σ : Sg) (a1 : Int32) : Int32 × Sg := (bnd (f_Mod_in σ a1 (0 : Int32) (13 : Int32)) fun r1 => (if r1.1 = (0 : Int32) then ((-1 : Int32), r1.2) else (if (8 : Int32) ≤ a1 then (if (12 : Int32) ≤ a1 then (if a1 = (12 : Int32) then ((r1.2 15 3), r1.2) else ((r1.2 15 4), r1.2)) else ((r1.2 18 (Int32.toNatClampNeg (a1 - (8 : Int32)))), r1.2)) else ((r1.2 17 (Int32.toNatClampNeg a1)), r1.2))))
abbrev w_Mod_register : List (Nat × Option Nat) := []
theorem p_Mod_register {P : Sg → Prop} (hP : WP w_Mod_register P) {σ : Sg} {a1 : Int32} (h : P σ) : PP P (f_Mod_register σ a1) := by
  unfold f_Mod_register
  refine bnd_zz (Z := PP P) (p_Mod_in (wsub hP rfl) h) fun r1 e1 q1 => ?_
  refine ite_z (fun _ => ?_) (fun _ => ?_)
  · exact q1
  · refine ite_z (fun _ => ?_) (fun _ => ?_)
    · refine ite_z (fun _ => ?_) (fun _ => ?_)
      · refine ite_z (fun _ => ?_) (fun _ => ?_)
        · exact q1
        · exact q1
      · exact q1
    · exact q1
set_option maxRecDepth 100000 in
set_option maxHeartbeats 4000000 in
theorem s_Mod_register {l : Launch} {ad : Nat → Nat} {D : va_G} {cI : ClassId} {σ : Sg} {a1 : Int32} {K : Option Value → Sg → Prop}   (hK : KI K (f_Mod_register σ a1)) : MetJ l ad D cI mi_Mod_register [.ref 15, .int a1] σ K := by
  refine met_of mi_Mod_register pt_Mod pt_Mod_in rfl pl_Mod rfl (Nat.le_of_ble_eq_true rfl) fun X hX => ?_
  have hX : Cl l ad D cI mi_Mod_register pt_Mod K X := hX
  show X 0 [.ref 15, .int a1] [] σ
  unfold f_Mod_register at hK
  refine hX.1 14 I_Mod_register_0 ok_Mod_register_0 _ _ _ ?_
  refine s_Mod_in (bnd_g hK fun r1 e1 hK => ?_)
  have z1 : r1.1 = 0 ∨ r1.1 = 1 := by rw [← e1]; exact z_Mod_in
  refine And.intro (fun h2 => ?_) (fun h2 => ?_)
  · have hK := ite_p hK h2
    refine hX.1 65 I_Mod_register_64 ok_Mod_register_64 _ _ _ ?_
    exact hK
  · have hK := ite_n hK h2
    refine hX.1 29 I_Mod_register_14 ok_Mod_register_14 _ _ _ ?_
    refine And.intro (fun h3 => ?_) (fun h3 => ?_)
    · have hK := ite_p hK h3
      refine hX.1 47 I_Mod_register_29 ok_Mod_register_29 _ _ _ ?_
      refine And.intro (fun h4 => ?_) (fun h4 => ?_)
      · have hK := ite_p hK h4
        refine hX.1 60 I_Mod_register_47 ok_Mod_register_47 _ _ _ ?_
        refine And.intro (fun h5 => ?_) (fun h5 => ?_)
        · have hK := ite_p hK h5
          refine hX.1 65 I_Mod_register_64 ok_Mod_register_64 _ _ _ ?_
          exact hK
        · have hK := ite_n hK h5
          refine hX.1 64 I_Mod_register_60 ok_Mod_register_60 _ _ _ ?_
          refine hX.1 65 I_Mod_register_64 ok_Mod_register_64 _ _ _ ?_
          exact hK
      · have hK := ite_n hK h4
        refine And.intro (vin_sub (k := 8) (m := 12) (by decide) (by decide) (by assumption) (by assumption)) ?_
        refine hX.1 65 I_Mod_register_64 ok_Mod_register_64 _ _ _ ?_
        exact hK
    · have hK := ite_n hK h3
      refine And.intro (by subst_vars; exact in_8 (by assumption) (by assumption)) ?_
      refine hX.1 65 I_Mod_register_64 ok_Mod_register_64 _ _ _ ?_
      exact hK
def I_Mod_put_0 : List IT := [(0, .iload_n 1, 1, 0, 0, []), (1, .iconst 0, 1, 0, 0, []), (2, .bipush 13, 2, 13, 0, []), (4, .invokestatic 100, 3, 0, 0, []), (7, .ifCond .ne 5, 3, 0, 12, []), (10, .iconst 0, 1, 0, 0, []), (11, .ireturn, 1, 0, 0, [])]
theorem ok_Mod_put_0 : blkOK b_Mod_put pt_Mod 12 I_Mod_put_0 = true := by decide +kernel
def I_Mod_put_12 : List IT := [(12, .iload_n 1, 1, 0, 0, []), (13, .bipush 8, 2, 8, 0, []), (15, .if_icmp .ge 13, 3, 0, 28, []), (18, .aload_n 0, 1, 0, 0, []), (19, .getfield 13, 3, 0, 0, []), (22, .iload_n 1, 1, 0, 0, []), (23, .iload_n 2, 1, 0, 0, []), (24, .ldc 32, 2, 65535, 0, []), (26, .iand, 1, 0, 0, []), (27, .iastore, 1, 0, 0, [])]
theorem ok_Mod_put_12 : blkOK b_Mod_put pt_Mod 28 I_Mod_put_12 = true := by decide +kernel
def I_Mod_put_28 : List IT := [(28, .iload_n 1, 1, 0, 0, []), (29, .bipush 8, 2, 8, 0, []), (31, .bipush 11, 2, 11, 0, []), (33, .invokestatic 100, 3, 0, 0, []), (36, .ifCond .eq 16, 3, 0, 52, []), (39, .aload_n 0, 1, 0, 0, []), (40, .getfield 16, 3, 0, 0, []), (43, .iload_n 1, 1, 0, 0, []), (44, .bipush 8, 2, 8, 0, []), (46, .isub, 1, 0, 0, []), (47, .iload_n 2, 1, 0, 0, []), (48, .ldc 32, 2, 65535, 0, []), (50, .iand, 1, 0, 0, []), (51, .iastore, 1, 0, 0, [])]
theorem ok_Mod_put_28 : blkOK b_Mod_put pt_Mod 52 I_Mod_put_28 = true := by decide +kernel
def I_Mod_put_52 : List IT := [(52, .iload_n 1, 1, 0, 0, []), (53, .bipush 12, 2, 12, 0, []), (55, .if_icmp .ne 11, 3, 0, 66, []), (58, .aload_n 0, 1, 0, 0, []), (59, .iload_n 2, 1, 0, 0, []), (60, .ldc 32, 2, 65535, 0, []), (62, .iand, 1, 0, 0, []), (63, .putfield 22, 3, 0, 0, [])]
theorem ok_Mod_put_52 : blkOK b_Mod_put pt_Mod 66 I_Mod_put_52 = true := by decide +kernel
def I_Mod_put_66 : List IT := [(66, .iload_n 1, 1, 0, 0, []), (67, .bipush 13, 2, 13, 0, []), (69, .if_icmp .ne 12, 3, 0, 81, []), (72, .aload_n 0, 1, 0, 0, []), (73, .iload_n 2, 1, 0, 0, []), (74, .sipush 3777, 3, 3777, 0, []), (77, .iand, 1, 0, 0, []), (78, .putfield 92, 3, 0, 0, [])]
theorem ok_Mod_put_66 : blkOK b_Mod_put pt_Mod 81 I_Mod_put_66 = true := by decide +kernel
def I_Mod_put_81 : List IT := [(81, .iconst 1, 1, 1, 0, []), (82, .ireturn, 1, 0, 0, [])]
theorem ok_Mod_put_81 : blkOK b_Mod_put pt_Mod 83 I_Mod_put_81 = true := by decide +kernel
def f_Mod_put_66 (σ : Sg) (x1 : Int32) (x2 : Int32) : Int32 × Sg := (if x1 = (13 : Int32) then (bnd (up2 σ 15 4 (x2 &&& (3777 : Int32))) fun s2 => ((1 : Int32), s2)) else ((1 : Int32), σ))
theorem z_Mod_put_66 {σ : Sg} {x1 : Int32} {x2 : Int32}   : (f_Mod_put_66 σ x1 x2).1 = 0 ∨ (f_Mod_put_66 σ x1 x2).1 = 1 := by
  show Zb (f_Mod_put_66 σ x1 x2)
  unfold f_Mod_put_66
  refine ite_z (fun h1 => ?_) (fun h1 => ?_)
  · refine bnd_z fun s2 e2 => ?_
    exact (Or.inr rfl)
  · exact (Or.inr rfl)
abbrev w_Mod_put_66 : List (Nat × Option Nat) := [(15, some 4)]
theorem p_Mod_put_66 {P : Sg → Prop} (hP : WP w_Mod_put_66 P) {σ : Sg} {x1 : Int32} {x2 : Int32} (h : P σ) : PP P (f_Mod_put_66 σ x1 x2) := by
  unfold f_Mod_put_66
  refine ite_z (fun _ => ?_) (fun _ => ?_)
  · refine bnd_zz (Z := P) (hP _ _ _ _ (Or.inr (by decide)) h) fun s2 e2 q2 => ?_
    exact q2
  · exact h
set_option maxRecDepth 100000 in
set_option maxHeartbeats 4000000 in
theorem b_Mod_put_66 {l : Launch} {ad : Nat → Nat} {D : va_G} {cI : ClassId} {K : Option Value → Sg → Prop} {X : Nat → List Value → List Value → Sg → Prop} (hX : Cl l ad D cI mi_Mod_put pt_Mod K X) {σ : Sg} {x1 : Int32} {x2 : Int32}   (hK : KI K (f_Mod_put_66 σ x1 x2)) : X 66 [.ref 15, .int x1, .int x2] [] σ := by
  unfold f_Mod_put_66 at hK
  refine hX.1 81 I_Mod_put_66 ok_Mod_put_66 _ _ _ ?_
  refine And.intro (fun h1 => ?_) (fun h1 => ?_)
  · have hK := ite_p hK h1
    refine And.intro trivial (SG_g hK fun s2 e2 hK => ?_)
    refine hX.1 83 I_Mod_put_81 ok_Mod_put_81 _ _ _ ?_
    exact And.intro (Or.inr rfl) hK
  · have hK := ite_n hK h1
    refine hX.1 83 I_Mod_put_81 ok_Mod_put_81 _ _ _ ?_
    exact And.intro (Or.inr rfl) hK
def f_Mod_put_52 (σ : Sg) (x1 : Int32) (x2 : Int32) : Int32 × Sg := (if x1 = (12 : Int32) then (bnd (up2 σ 15 3 (x2 &&& (65535 : Int32))) fun s2 => (f_Mod_put_66 s2 x1 x2)) else (f_Mod_put_66 σ x1 x2))
theorem z_Mod_put_52 {σ : Sg} {x1 : Int32} {x2 : Int32}   : (f_Mod_put_52 σ x1 x2).1 = 0 ∨ (f_Mod_put_52 σ x1 x2).1 = 1 := by
  show Zb (f_Mod_put_52 σ x1 x2)
  unfold f_Mod_put_52
  refine ite_z (fun h1 => ?_) (fun h1 => ?_)
  · refine bnd_z fun s2 e2 => ?_
    exact z_Mod_put_66  
  · exact z_Mod_put_66
abbrev w_Mod_put_52 : List (Nat × Option Nat) := [(15, some 3), (15, some 4)]
theorem p_Mod_put_52 {P : Sg → Prop} (hP : WP w_Mod_put_52 P) {σ : Sg} {x1 : Int32} {x2 : Int32} (h : P σ) : PP P (f_Mod_put_52 σ x1 x2) := by
  unfold f_Mod_put_52
  refine ite_z (fun _ => ?_) (fun _ => ?_)
  · refine bnd_zz (Z := P) (hP _ _ _ _ (Or.inr (by decide)) h) fun s2 e2 q2 => ?_
    exact p_Mod_put_66 (wsub hP rfl) q2
  · exact p_Mod_put_66 (wsub hP rfl) h
set_option maxRecDepth 100000 in
set_option maxHeartbeats 4000000 in
theorem b_Mod_put_52 {l : Launch} {ad : Nat → Nat} {D : va_G} {cI : ClassId} {K : Option Value → Sg → Prop} {X : Nat → List Value → List Value → Sg → Prop} (hX : Cl l ad D cI mi_Mod_put pt_Mod K X) {σ : Sg} {x1 : Int32} {x2 : Int32}   (hK : KI K (f_Mod_put_52 σ x1 x2)) : X 52 [.ref 15, .int x1, .int x2] [] σ := by
  unfold f_Mod_put_52 at hK
  refine hX.1 66 I_Mod_put_52 ok_Mod_put_52 _ _ _ ?_
  refine And.intro (fun h1 => ?_) (fun h1 => ?_)
  · have hK := ite_p hK h1
    refine And.intro trivial (SG_g hK fun s2 e2 hK => ?_)
    exact b_Mod_put_66 hX  hK
  · have hK := ite_n hK h1
    exact b_Mod_put_66 hX  hK
def f_Mod_put_28 (σ : Sg) (x1 : Int32) (x2 : Int32) : Int32 × Sg := (bnd (f_Mod_in σ x1 (8 : Int32) (11 : Int32)) fun r1 => (if r1.1 = (0 : Int32) then (f_Mod_put_52 r1.2 x1 x2) else (bnd (up2 r1.2 18 (Int32.toNatClampNeg (x1 - (8 : Int32))) (x2 &&& (65535 : Int32))) fun s3 => (f_Mod_put_52 s3 x1 x2))))
theorem z_Mod_put_28 {σ : Sg} {x1 : Int32} {x2 : Int32}   : (f_Mod_put_28 σ x1 x2).1 = 0 ∨ (f_Mod_put_28 σ x1 x2).1 = 1 := by
  show Zb (f_Mod_put_28 σ x1 x2)
  unfold f_Mod_put_28
  refine bnd_zz (Z := Zb) (z_Mod_in) fun r1 e1 z1 => ?_
  refine ite_z (fun h2 => ?_) (fun h2 => ?_)
  · exact z_Mod_put_52
  · refine bnd_z fun s3 e3 => ?_
    exact z_Mod_put_52  
abbrev w_Mod_put_28 : List (Nat × Option Nat) := [(15, some 3), (15, some 4), (18, none)]
theorem p_Mod_put_28 {P : Sg → Prop} (hP : WP w_Mod_put_28 P) {σ : Sg} {x1 : Int32} {x2 : Int32} (h : P σ) : PP P (f_Mod_put_28 σ x1 x2) := by
  unfold f_Mod_put_28
  refine bnd_zz (Z := PP P) (p_Mod_in (wsub hP rfl) h) fun r1 e1 q1 => ?_
  refine ite_z (fun _ => ?_) (fun _ => ?_)
  · exact p_Mod_put_52 (wsub hP rfl) q1
  · refine bnd_zz (Z := P) (hP _ _ _ _ (Or.inl (by decide)) q1) fun s3 e3 q3 => ?_
    exact p_Mod_put_52 (wsub hP rfl) q3
set_option maxRecDepth 100000 in
set_option maxHeartbeats 4000000 in
theorem b_Mod_put_28 {l : Launch} {ad : Nat → Nat} {D : va_G} {cI : ClassId} {K : Option Value → Sg → Prop} {X : Nat → List Value → List Value → Sg → Prop} (hX : Cl l ad D cI mi_Mod_put pt_Mod K X) {σ : Sg} {x1 : Int32} {x2 : Int32}   (hK : KI K (f_Mod_put_28 σ x1 x2)) : X 28 [.ref 15, .int x1, .int x2] [] σ := by
  unfold f_Mod_put_28 at hK
  refine hX.1 52 I_Mod_put_28 ok_Mod_put_28 _ _ _ ?_
  refine s_Mod_in (bnd_g hK fun r1 e1 hK => ?_)
  have z1 : r1.1 = 0 ∨ r1.1 = 1 := by rw [← e1]; exact z_Mod_in
  refine And.intro (fun h2 => ?_) (fun h2 => ?_)
  · have hK := ite_p hK h2
    exact b_Mod_put_52 hX  hK
  · have hK := ite_n hK h2
    refine And.intro (by subst_vars; exact in_s (by assumption)) (SG_g hK fun s3 e3 hK => ?_)
    exact b_Mod_put_52 hX  hK
def f_Mod_put (σ : Sg) (a1 : Int32) (a2 : Int32) : Int32 × Sg := (bnd (f_Mod_in σ a1 (0 : Int32) (13 : Int32)) fun r1 => (if r1.1 = (0 : Int32) then ((0 : Int32), r1.2) else (if (8 : Int32) ≤ a1 then (f_Mod_put_28 r1.2 a1 a2) else (bnd (up2 r1.2 17 (Int32.toNatClampNeg a1) (a2 &&& (65535 : Int32))) fun s4 => (f_Mod_put_28 s4 a1 a2)))))
theorem z_Mod_put {σ : Sg} {a1 : Int32} {a2 : Int32}   : (f_Mod_put σ a1 a2).1 = 0 ∨ (f_Mod_put σ a1 a2).1 = 1 := by
  show Zb (f_Mod_put σ a1 a2)
  unfold f_Mod_put
  refine bnd_zz (Z := Zb) (z_Mod_in) fun r1 e1 z1 => ?_
  refine ite_z (fun h2 => ?_) (fun h2 => ?_)
  · exact (Or.inl rfl)
  · refine ite_z (fun h3 => ?_) (fun h3 => ?_)
    · exact z_Mod_put_28
    · refine bnd_z fun s4 e4 => ?_
      exact z_Mod_put_28  
abbrev w_Mod_put : List (Nat × Option Nat) := [(15, some 3), (15, some 4), (17, none), (18, none)]
theorem p_Mod_put {P : Sg → Prop} (hP : WP w_Mod_put P) {σ : Sg} {a1 : Int32} {a2 : Int32} (h : P σ) : PP P (f_Mod_put σ a1 a2) := by
  unfold f_Mod_put
  refine bnd_zz (Z := PP P) (p_Mod_in (wsub hP rfl) h) fun r1 e1 q1 => ?_
  refine ite_z (fun _ => ?_) (fun _ => ?_)
  · exact q1
  · refine ite_z (fun _ => ?_) (fun _ => ?_)
    · exact p_Mod_put_28 (wsub hP rfl) q1
    · refine bnd_zz (Z := P) (hP _ _ _ _ (Or.inl (by decide)) q1) fun s4 e4 q4 => ?_
      exact p_Mod_put_28 (wsub hP rfl) q4
set_option maxRecDepth 100000 in
set_option maxHeartbeats 4000000 in
theorem s_Mod_put {l : Launch} {ad : Nat → Nat} {D : va_G} {cI : ClassId} {σ : Sg} {a1 : Int32} {a2 : Int32} {K : Option Value → Sg → Prop}   (hK : KI K (f_Mod_put σ a1 a2)) : MetJ l ad D cI mi_Mod_put [.ref 15, .int a1, .int a2] σ K := by
  refine met_of mi_Mod_put pt_Mod pt_Mod_in rfl pl_Mod rfl (Nat.le_of_ble_eq_true rfl) fun X hX => ?_
  have hX : Cl l ad D cI mi_Mod_put pt_Mod K X := hX
  show X 0 [.ref 15, .int a1, .int a2] [] σ
  unfold f_Mod_put at hK
  refine hX.1 12 I_Mod_put_0 ok_Mod_put_0 _ _ _ ?_
  refine s_Mod_in (bnd_g hK fun r1 e1 hK => ?_)
  have z1 : r1.1 = 0 ∨ r1.1 = 1 := by rw [← e1]; exact z_Mod_in
  refine And.intro (fun h2 => ?_) (fun h2 => ?_)
  · have hK := ite_p hK h2
    exact And.intro (Or.inl rfl) hK
  · have hK := ite_n hK h2
    refine hX.1 28 I_Mod_put_12 ok_Mod_put_12 _ _ _ ?_
    refine And.intro (fun h3 => ?_) (fun h3 => ?_)
    · have hK := ite_p hK h3
      exact b_Mod_put_28 hX  hK
    · have hK := ite_n hK h3
      refine And.intro (by subst_vars; exact in_8 (by assumption) (by assumption)) (SG_g hK fun s4 e4 hK => ?_)
      exact b_Mod_put_28 hX  hK
def I_Mod_halted_0 : List IT := [(0, .aload_n 0, 1, 0, 0, []), (1, .getfield 210, 3, 0, 0, []), (4, .ireturn, 1, 0, 0, [])]
theorem ok_Mod_halted_0 : blkOK b_Mod_halted pt_Mod 5 I_Mod_halted_0 = true := by decide +kernel
def f_Mod_halted (σ : Sg)  : Int32 × Sg := ((σ 15 5), σ)
theorem z_Mod_halted {σ : Sg}   (hb : σ 15 5 = 0 ∨ σ 15 5 = 1) : (f_Mod_halted σ ).1 = 0 ∨ (f_Mod_halted σ ).1 = 1 := by
  show Zb (f_Mod_halted σ )
  unfold f_Mod_halted
  exact hb
abbrev w_Mod_halted : List (Nat × Option Nat) := []
theorem p_Mod_halted {P : Sg → Prop} (hP : WP w_Mod_halted P) {σ : Sg}  (h : P σ) : PP P (f_Mod_halted σ ) := by
  unfold f_Mod_halted
  exact h
set_option maxRecDepth 100000 in
set_option maxHeartbeats 4000000 in
theorem s_Mod_halted {l : Launch} {ad : Nat → Nat} {D : va_G} {cI : ClassId} {σ : Sg}  {K : Option Value → Sg → Prop}  (hb : σ 15 5 = 0 ∨ σ 15 5 = 1) (hK : KI K (f_Mod_halted σ )) : MetJ l ad D cI mi_Mod_halted [.ref 15] σ K := by
  refine met_of mi_Mod_halted pt_Mod pt_Mod_in rfl pl_Mod rfl (Nat.le_of_ble_eq_true rfl) fun X hX => ?_
  have hX : Cl l ad D cI mi_Mod_halted pt_Mod K X := hX
  show X 0 [.ref 15] [] σ
  unfold f_Mod_halted at hK
  refine hX.1 5 I_Mod_halted_0 ok_Mod_halted_0 _ _ _ ?_
  exact And.intro hb hK
