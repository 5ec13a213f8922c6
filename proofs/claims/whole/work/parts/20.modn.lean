def I_Mod_key_0 : List IT := [(0, .iload_n 1, 1, 0, 0, []), (1, .iconst 0, 1, 0, 0, []), (2, .sipush 255, 3, 255, 0, []), (5, .invokestatic 100, 3, 0, 0, []), (8, .ifCond .eq 11, 3, 0, 19, []), (11, .aload_n 0, 1, 0, 0, []), (12, .getfield 261, 3, 0, 0, []), (15, .iconst 4, 1, 4, 0, []), (16, .if_icmp .lt 5, 3, 0, 21, [])]
theorem ok_Mod_key_0 : blkOK b_Mod_key pt_Mod 19 I_Mod_key_0 = true := by decide +kernel
def I_Mod_key_19 : List IT := [(19, .iconst 0, 1, 0, 0, []), (20, .ireturn, 1, 0, 0, [])]
theorem ok_Mod_key_19 : blkOK b_Mod_key pt_Mod 21 I_Mod_key_19 = true := by decide +kernel
def I_Mod_key_21 : List IT := [(21, .aload_n 0, 1, 0, 0, []), (22, .getfield 19, 3, 0, 0, []), (25, .aload_n 0, 1, 0, 0, []), (26, .getfield 261, 3, 0, 0, []), (29, .iload_n 1, 1, 0, 0, []), (30, .iastore, 1, 0, 0, []), (31, .aload_n 0, 1, 0, 0, []), (32, .aload_n 0, 1, 0, 0, []), (33, .getfield 261, 3, 0, 0, []), (36, .iconst 1, 1, 1, 0, []), (37, .iadd, 1, 0, 0, []), (38, .putfield 261, 3, 0, 0, []), (41, .aload_n 0, 1, 0, 0, []), (42, .getfield 261, 3, 0, 0, []), (45, .iconst 1, 1, 1, 0, []), (46, .if_icmp .ne 8, 3, 0, 54, []), (49, .aload_n 0, 1, 0, 0, []), (50, .iconst 1, 1, 1, 0, []), (51, .invokevirtual 252, 3, 0, 0, [])]
theorem ok_Mod_key_21 : blkOK b_Mod_key pt_Mod 54 I_Mod_key_21 = true := by decide +kernel
def I_Mod_key_54 : List IT := [(54, .iconst 1, 1, 1, 0, []), (55, .ireturn, 1, 0, 0, [])]
theorem ok_Mod_key_54 : blkOK b_Mod_key pt_Mod 56 I_Mod_key_54 = true := by decide +kernel
def f_Mod_key (σ : Sg) (a1 : Int32) : Int32 × Sg := (bnd (f_Mod_in σ a1 (0 : Int32) (255 : Int32)) fun r1 => (if r1.1 = (0 : Int32) then ((0 : Int32), r1.2) else (if (r1.2 15 28) < (4 : Int32) then (bnd (up2 r1.2 19 (Int32.toNatClampNeg (r1.2 15 28)) a1) fun s4 => bnd (up2 s4 15 28 ((s4 15 28) + (1 : Int32))) fun s5 => (if (s5 15 28) = (1 : Int32) then (bnd (f_Mod_request s5 (1 : Int32)) fun r7 => ((1 : Int32), r7)) else ((1 : Int32), s5))) else ((0 : Int32), r1.2))))
theorem z_Mod_key {σ : Sg} {a1 : Int32}   : (f_Mod_key σ a1).1 = 0 ∨ (f_Mod_key σ a1).1 = 1 := by
  show Zb (f_Mod_key σ a1)
  unfold f_Mod_key
  refine bnd_zz (Z := Zb) (z_Mod_in) fun r1 e1 z1 => ?_
  refine ite_z (fun h2 => ?_) (fun h2 => ?_)
  · exact (Or.inl rfl)
  · refine ite_z (fun h3 => ?_) (fun h3 => ?_)
    · refine bnd_z fun s4 e4 => ?_
      refine bnd_z fun s5 e5 => ?_
      refine ite_z (fun h6 => ?_) (fun h6 => ?_)
      · refine bnd_z fun r7 e7 => ?_
        exact (Or.inr rfl)
      · exact (Or.inr rfl)
    · exact (Or.inl rfl)
abbrev w_Mod_key : List (Nat × Option Nat) := [(15, some 17), (15, some 28), (19, none)]
theorem p_Mod_key {P : Sg → Prop} (hP : WP w_Mod_key P) {σ : Sg} {a1 : Int32} (h : P σ) : PP P (f_Mod_key σ a1) := by
  unfold f_Mod_key
  refine bnd_zz (Z := PP P) (p_Mod_in (wsub hP rfl) h) fun r1 e1 q1 => ?_
  refine ite_z (fun _ => ?_) (fun _ => ?_)
  · exact q1
  · refine ite_z (fun _ => ?_) (fun _ => ?_)
    · refine bnd_zz (Z := P) (hP _ _ _ _ (Or.inl (by decide)) q1) fun s4 e4 q4 => ?_
      refine bnd_zz (Z := P) (hP _ _ _ _ (Or.inr (by decide)) q4) fun s5 e5 q5 => ?_
      refine ite_z (fun _ => ?_) (fun _ => ?_)
      · refine bnd_zz (Z := P) (p_Mod_request (wsub hP rfl) q5) fun r7 e7 q7 => ?_
        exact q7
      · exact q5
    · exact q1
set_option maxRecDepth 100000 in
set_option maxHeartbeats 4000000 in
theorem s_Mod_key {l : Launch} {ad : Nat → Nat} {D : va_G} {cI : ClassId} {σ : Sg} {a1 : Int32} {K : Option Value → Sg → Prop}  (KY0 : KY σ) (hK : KI K (f_Mod_key σ a1)) : MetJ l ad D cI mi_Mod_key [.ref 15, .int a1] σ K := by
  refine met_of mi_Mod_key pt_Mod pt_Mod_in rfl pl_Mod rfl (Nat.le_of_ble_eq_true rfl) fun X hX => ?_
  have hX : Cl l ad D cI mi_Mod_key pt_Mod K X := hX
  show X 0 [.ref 15, .int a1] [] σ
  unfold f_Mod_key at hK
  refine hX.1 19 I_Mod_key_0 ok_Mod_key_0 _ _ _ ?_
  refine s_Mod_in (bnd_g hK fun r1 e1 hK => ?_)
  have KY1 : KY r1.2 := by rw [← e1]; exact p_Mod_in (P := KY) (KYw rfl) KY0
  have z1 : r1.1 = 0 ∨ r1.1 = 1 := by rw [← e1]; exact z_Mod_in
  refine And.intro (fun h2 => ?_) (fun h2 => ?_)
  · have hK := ite_p hK h2
    refine hX.1 21 I_Mod_key_19 ok_Mod_key_19 _ _ _ ?_
    exact And.intro (Or.inl rfl) hK
  · have hK := ite_n hK h2
    refine And.intro (fun h3 => ?_) (fun h3 => ?_)
    · have hK := ite_p hK h3
      refine hX.1 54 I_Mod_key_21 ok_Mod_key_21 _ _ _ ?_
      refine And.intro (KY_in KY1 (by assumption)) (SG_g hK fun s4 e4 hK => ?_)
      refine And.intro trivial (SG_g hK fun s5 e5 hK => ?_)
      refine And.intro (fun h6 => ?_) (fun h6 => ?_)
      · have hK := ite_p hK h6
        refine s_Mod_request (bnd_g hK fun r7 e7 hK => ?_)
        refine hX.1 56 I_Mod_key_54 ok_Mod_key_54 _ _ _ ?_
        exact And.intro (Or.inr rfl) hK
      · have hK := ite_n hK h6
        refine hX.1 56 I_Mod_key_54 ok_Mod_key_54 _ _ _ ?_
        exact And.intro (Or.inr rfl) hK
    · have hK := ite_n hK h3
      refine hX.1 21 I_Mod_key_19 ok_Mod_key_19 _ _ _ ?_
      exact And.intro (Or.inl rfl) hK
def I_Mod_transfer_0 : List IT := [(0, .aload_n 0, 1, 0, 0, []), (1, .getfield 304, 3, 0, 0, []), (4, .ifCond .eq 14, 3, 0, 18, []), (7, .iload_n 1, 1, 0, 0, []), (8, .iconst 0, 1, 0, 0, []), (9, .sipush 255, 3, 255, 0, []), (12, .invokestatic 100, 3, 0, 0, []), (15, .ifCond .ne 5, 3, 0, 20, [])]
theorem ok_Mod_transfer_0 : blkOK b_Mod_transfer pt_Mod 18 I_Mod_transfer_0 = true := by decide +kernel
def I_Mod_transfer_18 : List IT := [(18, .iconst 0, 1, 0, 0, []), (19, .ireturn, 1, 0, 0, [])]
theorem ok_Mod_transfer_18 : blkOK b_Mod_transfer pt_Mod 20 I_Mod_transfer_18 = true := by decide +kernel
def I_Mod_transfer_20 : List IT := [(20, .aload_n 0, 1, 0, 0, []), (21, .getfield 7, 3, 0, 0, []), (24, .sipush 256, 3, 256, 0, []), (27, .aload_n 0, 1, 0, 0, []), (28, .getfield 301, 3, 0, 0, []), (31, .imul, 1, 0, 0, []), (32, .aload_n 0, 1, 0, 0, []), (33, .getfield 286, 3, 0, 0, []), (36, .iadd, 1, 0, 0, []), (37, .iload_n 1, 1, 0, 0, []), (38, .iastore, 1, 0, 0, []), (39, .aload_n 0, 1, 0, 0, []), (40, .aload_n 0, 1, 0, 0, []), (41, .getfield 286, 3, 0, 0, []), (44, .iconst 1, 1, 1, 0, []), (45, .iadd, 1, 0, 0, []), (46, .sipush 255, 3, 255, 0, []), (49, .iand, 1, 0, 0, []), (50, .putfield 286, 3, 0, 0, []), (53, .aload_n 0, 1, 0, 0, []), (54, .getfield 289, 3, 0, 0, []), (57, .ifCond .ne 21, 3, 0, 78, []), (60, .aload_n 0, 1, 0, 0, []), (61, .iconst 0, 1, 0, 0, []), (62, .putfield 304, 3, 0, 0, []), (65, .aload_n 0, 1, 0, 0, []), (66, .iconst 1, 1, 1, 0, []), (67, .putfield 273, 3, 0, 0, []), (70, .aload_n 0, 1, 0, 0, []), (71, .iconst 2, 1, 2, 0, []), (72, .invokevirtual 252, 3, 0, 0, []), (75, .goto 13, 3, 0, 88, [])]
theorem ok_Mod_transfer_20 : blkOK b_Mod_transfer pt_Mod 78 I_Mod_transfer_20 = true := by decide +kernel
def I_Mod_transfer_78 : List IT := [(78, .aload_n 0, 1, 0, 0, []), (79, .aload_n 0, 1, 0, 0, []), (80, .getfield 289, 3, 0, 0, []), (83, .iconst 1, 1, 1, 0, []), (84, .isub, 1, 0, 0, []), (85, .putfield 289, 3, 0, 0, [])]
theorem ok_Mod_transfer_78 : blkOK b_Mod_transfer pt_Mod 88 I_Mod_transfer_78 = true := by decide +kernel
def I_Mod_transfer_88 : List IT := [(88, .iconst 1, 1, 1, 0, []), (89, .ireturn, 1, 0, 0, [])]
theorem ok_Mod_transfer_88 : blkOK b_Mod_transfer pt_Mod 90 I_Mod_transfer_88 = true := by decide +kernel
def f_Mod_transfer (σ : Sg) (a1 : Int32) : Int32 × Sg := (if (σ 15 34) = (0 : Int32) then ((0 : Int32), σ) else (bnd (f_Mod_in σ a1 (0 : Int32) (255 : Int32)) fun r2 => (if r2.1 = (0 : Int32) then ((0 : Int32), r2.2) else (bnd (up2 r2.2 16 (Int32.toNatClampNeg (((256 : Int32) * (r2.2 15 32)) + (r2.2 15 30))) a1) fun s4 => bnd (up2 s4 15 30 (((s4 15 30) + (1 : Int32)) &&& (255 : Int32))) fun s5 => (if (s5 15 31) = (0 : Int32) then (bnd (up2 s5 15 34 (0 : Int32)) fun s7 => bnd (up2 s7 15 35 (1 : Int32)) fun s8 => bnd (f_Mod_request s8 (2 : Int32)) fun r9 => ((1 : Int32), r9)) else (bnd (up2 s5 15 31 ((s5 15 31) - (1 : Int32))) fun s10 => ((1 : Int32), s10)))))))
theorem z_Mod_transfer {σ : Sg} {a1 : Int32}  (hp : vp_in ((256 : Int32) * σ 15 32 + σ 15 30) 1024) : (f_Mod_transfer σ a1).1 = 0 ∨ (f_Mod_transfer σ a1).1 = 1 := by
  show Zb (f_Mod_transfer σ a1)
  unfold f_Mod_transfer
  refine ite_z (fun h1 => ?_) (fun h1 => ?_)
  · exact (Or.inl rfl)
  · refine bnd_zz (Z := Zb) (z_Mod_in) fun r2 e2 z2 => ?_
    refine ite_z (fun h3 => ?_) (fun h3 => ?_)
    · exact (Or.inl rfl)
    · refine bnd_z fun s4 e4 => ?_
      refine bnd_z fun s5 e5 => ?_
      refine ite_z (fun h6 => ?_) (fun h6 => ?_)
      · refine bnd_z fun s7 e7 => ?_
        refine bnd_z fun s8 e8 => ?_
        refine bnd_z fun r9 e9 => ?_
        exact (Or.inr rfl)
      · refine bnd_z fun s10 e10 => ?_
        exact (Or.inr rfl)
abbrev w_Mod_transfer : List (Nat × Option Nat) := [(15, some 17), (15, some 30), (15, some 31), (15, some 34), (15, some 35), (16, none)]
theorem p_Mod_transfer {P : Sg → Prop} (hP : WP w_Mod_transfer P) {σ : Sg} {a1 : Int32} (h : P σ) : PP P (f_Mod_transfer σ a1) := by
  unfold f_Mod_transfer
  refine ite_z (fun _ => ?_) (fun _ => ?_)
  · exact h
  · refine bnd_zz (Z := PP P) (p_Mod_in (wsub hP rfl) h) fun r2 e2 q2 => ?_
    refine ite_z (fun _ => ?_) (fun _ => ?_)
    · exact q2
    · refine bnd_zz (Z := P) (hP _ _ _ _ (Or.inl (by decide)) q2) fun s4 e4 q4 => ?_
      refine bnd_zz (Z := P) (hP _ _ _ _ (Or.inr (by decide)) q4) fun s5 e5 q5 => ?_
      refine ite_z (fun _ => ?_) (fun _ => ?_)
      · refine bnd_zz (Z := P) (hP _ _ _ _ (Or.inr (by decide)) q5) fun s7 e7 q7 => ?_
        refine bnd_zz (Z := P) (hP _ _ _ _ (Or.inr (by decide)) q7) fun s8 e8 q8 => ?_
        refine bnd_zz (Z := P) (p_Mod_request (wsub hP rfl) q8) fun r9 e9 q9 => ?_
        exact q9
      · refine bnd_zz (Z := P) (hP _ _ _ _ (Or.inr (by decide)) q5) fun s10 e10 q10 => ?_
        exact q10
set_option maxRecDepth 100000 in
set_option maxHeartbeats 4000000 in
theorem s_Mod_transfer {l : Launch} {ad : Nat → Nat} {D : va_G} {cI : ClassId} {σ : Sg} {a1 : Int32} {K : Option Value → Sg → Prop}  (hp : vp_in ((256 : Int32) * σ 15 32 + σ 15 30) 1024) (hK : KI K (f_Mod_transfer σ a1)) : MetJ l ad D cI mi_Mod_transfer [.ref 15, .int a1] σ K := by
  refine met_of mi_Mod_transfer pt_Mod pt_Mod_in rfl pl_Mod rfl (Nat.le_of_ble_eq_true rfl) fun X hX => ?_
  have hX : Cl l ad D cI mi_Mod_transfer pt_Mod K X := hX
  show X 0 [.ref 15, .int a1] [] σ
  unfold f_Mod_transfer at hK
  refine hX.1 18 I_Mod_transfer_0 ok_Mod_transfer_0 _ _ _ ?_
  refine And.intro (fun h1 => ?_) (fun h1 => ?_)
  · have hK := ite_p hK h1
    refine hX.1 20 I_Mod_transfer_18 ok_Mod_transfer_18 _ _ _ ?_
    exact And.intro (Or.inl rfl) hK
  · have hK := ite_n hK h1
    refine s_Mod_in (bnd_g hK fun r2 e2 hK => ?_)
    have z2 : r2.1 = 0 ∨ r2.1 = 1 := by rw [← e2]; exact z_Mod_in
    refine And.intro (fun h3 => ?_) (fun h3 => ?_)
    · have hK := ite_p hK h3
      refine hX.1 20 I_Mod_transfer_18 ok_Mod_transfer_18 _ _ _ ?_
      exact And.intro (Or.inl rfl) hK
    · have hK := ite_n hK h3
      refine hX.1 78 I_Mod_transfer_20 ok_Mod_transfer_20 _ _ _ ?_
      refine And.intro (by subst_vars; exact p_Mod_in (P := fun s => vp_in ((256 : Int32) * s 15 32 + s 15 30) 1024) WP_nil hp) (SG_g hK fun s4 e4 hK => ?_)
      refine And.intro trivial (SG_g hK fun s5 e5 hK => ?_)
      refine And.intro (fun h6 => ?_) (fun h6 => ?_)
      · have hK := ite_p hK h6
        refine And.intro (Or.inl rfl) (SG_g hK fun s7 e7 hK => ?_)
        refine And.intro (Or.inr rfl) (SG_g hK fun s8 e8 hK => ?_)
        refine s_Mod_request (bnd_g hK fun r9 e9 hK => ?_)
        refine hX.1 90 I_Mod_transfer_88 ok_Mod_transfer_88 _ _ _ ?_
        exact And.intro (Or.inr rfl) hK
      · have hK := ite_n hK h6
        refine hX.1 88 I_Mod_transfer_78 ok_Mod_transfer_78 _ _ _ ?_
        refine And.intro trivial (SG_g hK fun s10 e10 hK => ?_)
        refine hX.1 90 I_Mod_transfer_88 ok_Mod_transfer_88 _ _ _ ?_
        exact And.intro (Or.inr rfl) hK
def I_Mod_lines_0 : List IT := [(0, .iload_n 1, 1, 0, 0, []), (1, .ifCond .ne 10, 3, 0, 11, []), (4, .aload_n 0, 1, 0, 0, []), (5, .getfield 135, 3, 0, 0, []), (8, .goto 28, 3, 0, 36, [])]
theorem ok_Mod_lines_0 : blkOK b_Mod_lines pt_Mod 11 I_Mod_lines_0 = true := by decide +kernel
def I_Mod_lines_11 : List IT := [(11, .iload_n 1, 1, 0, 0, []), (12, .iconst 1, 1, 1, 0, []), (13, .if_icmp .ne 10, 3, 0, 23, []), (16, .aload_n 0, 1, 0, 0, []), (17, .getfield 138, 3, 0, 0, []), (20, .goto 16, 3, 0, 36, [])]
theorem ok_Mod_lines_11 : blkOK b_Mod_lines pt_Mod 23 I_Mod_lines_11 = true := by decide +kernel
def I_Mod_lines_23 : List IT := [(23, .iload_n 1, 1, 0, 0, []), (24, .iconst 2, 1, 2, 0, []), (25, .if_icmp .ne 10, 3, 0, 35, []), (28, .aload_n 0, 1, 0, 0, []), (29, .getfield 29, 3, 0, 0, []), (32, .goto 4, 3, 0, 36, [])]
theorem ok_Mod_lines_23 : blkOK b_Mod_lines pt_Mod 35 I_Mod_lines_23 = true := by decide +kernel
def I_Mod_lines_35 : List IT := [(35, .iconst (-1), 1, (-1), 0, [])]
theorem ok_Mod_lines_35 : blkOK b_Mod_lines pt_Mod 36 I_Mod_lines_35 = true := by decide +kernel
def I_Mod_lines_36 : List IT := [(36, .ireturn, 1, 0, 0, [])]
theorem ok_Mod_lines_36 : blkOK b_Mod_lines pt_Mod 37 I_Mod_lines_36 = true := by decide +kernel
def f_Mod_lines (σ : Sg) (a1 : Int32) : Int32 × Sg := (if a1 = (0 : Int32) then ((σ 15 17), σ) else (if a1 = (1 : Int32) then ((σ 15 18), σ) else (if a1 = (2 : Int32) then ((σ 15 19), σ) else ((-1 : Int32), σ))))
abbrev w_Mod_lines : List (Nat × Option Nat) := []
theorem p_Mod_lines {P : Sg → Prop} (hP : WP w_Mod_lines P) {σ : Sg} {a1 : Int32} (h : P σ) : PP P (f_Mod_lines σ a1) := by
  unfold f_Mod_lines
  refine ite_z (fun _ => ?_) (fun _ => ?_)
  · exact h
  · refine ite_z (fun _ => ?_) (fun _ => ?_)
    · exact h
    · refine ite_z (fun _ => ?_) (fun _ => ?_)
      · exact h
      · exact h
set_option maxRecDepth 100000 in
set_option maxHeartbeats 4000000 in
theorem s_Mod_lines {l : Launch} {ad : Nat → Nat} {D : va_G} {cI : ClassId} {σ : Sg} {a1 : Int32} {K : Option Value → Sg → Prop}   (hK : KI K (f_Mod_lines σ a1)) : MetJ l ad D cI mi_Mod_lines [.ref 15, .int a1] σ K := by
  refine met_of mi_Mod_lines pt_Mod pt_Mod_in rfl pl_Mod rfl (Nat.le_of_ble_eq_true rfl) fun X hX => ?_
  have hX : Cl l ad D cI mi_Mod_lines pt_Mod K X := hX
  show X 0 [.ref 15, .int a1] [] σ
  unfold f_Mod_lines at hK
  refine hX.1 11 I_Mod_lines_0 ok_Mod_lines_0 _ _ _ ?_
  refine And.intro (fun h1 => ?_) (fun h1 => ?_)
  · have hK := ite_p hK h1
    refine hX.1 37 I_Mod_lines_36 ok_Mod_lines_36 _ _ _ ?_
    exact hK
  · have hK := ite_n hK h1
    refine hX.1 23 I_Mod_lines_11 ok_Mod_lines_11 _ _ _ ?_
    refine And.intro (fun h2 => ?_) (fun h2 => ?_)
    · have hK := ite_p hK h2
      refine hX.1 37 I_Mod_lines_36 ok_Mod_lines_36 _ _ _ ?_
      exact hK
    · have hK := ite_n hK h2
      refine hX.1 35 I_Mod_lines_23 ok_Mod_lines_23 _ _ _ ?_
      refine And.intro (fun h3 => ?_) (fun h3 => ?_)
      · have hK := ite_p hK h3
        refine hX.1 37 I_Mod_lines_36 ok_Mod_lines_36 _ _ _ ?_
        exact hK
      · have hK := ite_n hK h3
        refine hX.1 36 I_Mod_lines_35 ok_Mod_lines_35 _ _ _ ?_
        refine hX.1 37 I_Mod_lines_36 ok_Mod_lines_36 _ _ _ ?_
        exact hK
def I_Mod_count_0 : List IT := [(0, .aload_n 0, 1, 0, 0, []), (1, .getfield 243, 3, 0, 0, []), (4, .ifCond .eq 10, 3, 0, 14, []), (7, .aload_n 0, 1, 0, 0, []), (8, .getfield 246, 3, 0, 0, []), (11, .goto 4, 3, 0, 15, [])]
theorem ok_Mod_count_0 : blkOK b_Mod_count pt_Mod 14 I_Mod_count_0 = true := by decide +kernel
def I_Mod_count_14 : List IT := [(14, .iconst 0, 1, 0, 0, [])]
theorem ok_Mod_count_14 : blkOK b_Mod_count pt_Mod 15 I_Mod_count_14 = true := by decide +kernel
def I_Mod_count_15 : List IT := [(15, .ireturn, 1, 0, 0, [])]
theorem ok_Mod_count_15 : blkOK b_Mod_count pt_Mod 16 I_Mod_count_15 = true := by decide +kernel
def f_Mod_count (σ : Sg)  : Int32 × Sg := (if (σ 15 21) = (0 : Int32) then ((0 : Int32), σ) else ((σ 15 23), σ))
abbrev w_Mod_count : List (Nat × Option Nat) := []
theorem p_Mod_count {P : Sg → Prop} (hP : WP w_Mod_count P) {σ : Sg}  (h : P σ) : PP P (f_Mod_count σ ) := by
  unfold f_Mod_count
  refine ite_z (fun _ => ?_) (fun _ => ?_)
  · exact h
  · exact h
set_option maxRecDepth 100000 in
set_option maxHeartbeats 4000000 in
theorem s_Mod_count {l : Launch} {ad : Nat → Nat} {D : va_G} {cI : ClassId} {σ : Sg}  {K : Option Value → Sg → Prop}   (hK : KI K (f_Mod_count σ )) : MetJ l ad D cI mi_Mod_count [.ref 15] σ K := by
  refine met_of mi_Mod_count pt_Mod pt_Mod_in rfl pl_Mod rfl (Nat.le_of_ble_eq_true rfl) fun X hX => ?_
  have hX : Cl l ad D cI mi_Mod_count pt_Mod K X := hX
  show X 0 [.ref 15] [] σ
  unfold f_Mod_count at hK
  refine hX.1 14 I_Mod_count_0 ok_Mod_count_0 _ _ _ ?_
  refine And.intro (fun h1 => ?_) (fun h1 => ?_)
  · have hK := ite_p hK h1
    refine hX.1 15 I_Mod_count_14 ok_Mod_count_14 _ _ _ ?_
    refine hX.1 16 I_Mod_count_15 ok_Mod_count_15 _ _ _ ?_
    exact hK
  · have hK := ite_n hK h1
    refine hX.1 16 I_Mod_count_15 ok_Mod_count_15 _ _ _ ?_
    exact hK
def I_Mod_interrupts_0 : List IT := [(0, .aload_n 0, 1, 0, 0, []), (1, .getfield 132, 3, 0, 0, []), (4, .ireturn, 1, 0, 0, [])]
theorem ok_Mod_interrupts_0 : blkOK b_Mod_interrupts pt_Mod 5 I_Mod_interrupts_0 = true := by decide +kernel
def f_Mod_interrupts (σ : Sg)  : Int32 × Sg := ((σ 15 7), σ)
abbrev w_Mod_interrupts : List (Nat × Option Nat) := []
theorem p_Mod_interrupts {P : Sg → Prop} (hP : WP w_Mod_interrupts P) {σ : Sg}  (h : P σ) : PP P (f_Mod_interrupts σ ) := by
  unfold f_Mod_interrupts
  exact h
set_option maxRecDepth 100000 in
set_option maxHeartbeats 4000000 in
theorem s_Mod_interrupts {l : Launch} {ad : Nat → Nat} {D : va_G} {cI : ClassId} {σ : Sg}  {K : Option Value → Sg → Prop}   (hK : KI K (f_Mod_interrupts σ )) : MetJ l ad D cI mi_Mod_interrupts [.ref 15] σ K := by
  refine met_of mi_Mod_interrupts pt_Mod pt_Mod_in rfl pl_Mod rfl (Nat.le_of_ble_eq_true rfl) fun X hX => ?_
  have hX : Cl l ad D cI mi_Mod_interrupts pt_Mod K X := hX
  show X 0 [.ref 15] [] σ
  unfold f_Mod_interrupts at hK
  refine hX.1 5 I_Mod_interrupts_0 ok_Mod_interrupts_0 _ _ _ ?_
  exact hK
