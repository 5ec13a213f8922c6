def I_Mod_strings_0 : List IT := [(0, .aload_n 0, 1, 0, 0, []), (1, .getfield 187, 3, 0, 0, []), (4, .ifCond .ge 9, 3, 0, 13, []), (7, .aload_n 0, 1, 0, 0, []), (8, .iload_n 1, 1, 0, 0, []), (9, .invokevirtual 190, 3, 0, 0, []), (12, .return_, 1, 0, 0, [])]
theorem ok_Mod_strings_0 : blkOK b_Mod_strings pt_Mod 13 I_Mod_strings_0 = true := by decide +kernel
def I_Mod_strings_13 : List IT := [(13, .aload_n 0, 1, 0, 0, []), (14, .getfield 13, 3, 0, 0, []), (17, .iconst 1, 1, 1, 0, []), (18, .iaload, 1, 0, 0, []), (19, .ifCond .ne 4, 3, 0, 23, []), (22, .return_, 1, 0, 0, [])]
theorem ok_Mod_strings_13 : blkOK b_Mod_strings pt_Mod 23 I_Mod_strings_13 = true := by decide +kernel
def I_Mod_strings_23 : List IT := [(23, .aload_n 0, 1, 0, 0, []), (24, .iload_n 1, 1, 0, 0, []), (25, .invokevirtual 190, 3, 0, 0, []), (28, .aload_n 0, 1, 0, 0, []), (29, .getfield 13, 3, 0, 0, []), (32, .iconst 1, 1, 1, 0, []), (33, .aload_n 0, 1, 0, 0, []), (34, .getfield 13, 3, 0, 0, []), (37, .iconst 1, 1, 1, 0, []), (38, .iaload, 1, 0, 0, []), (39, .iconst 1, 1, 1, 0, []), (40, .isub, 1, 0, 0, []), (41, .iastore, 1, 0, 0, []), (42, .iload_n 1, 1, 0, 0, []), (43, .sipush 254, 3, 254, 0, []), (46, .iand, 1, 0, 0, []), (47, .sipush 174, 3, 174, 0, []), (50, .if_icmp .ne 7, 3, 0, 57, []), (53, .iconst 1, 1, 1, 0, []), (54, .goto 4, 3, 0, 58, [])]
theorem ok_Mod_strings_23 : blkOK b_Mod_strings pt_Mod 57 I_Mod_strings_23 = true := by decide +kernel
def I_Mod_strings_57 : List IT := [(57, .iconst 0, 1, 0, 0, [])]
theorem ok_Mod_strings_57 : blkOK b_Mod_strings pt_Mod 58 I_Mod_strings_57 = true := by decide +kernel
def I_Mod_strings_58 : List IT := [(58, .istore_n 2, 1, 0, 0, []), (59, .aload_n 0, 1, 0, 0, []), (60, .getfield 13, 3, 0, 0, []), (63, .iconst 1, 1, 1, 0, []), (64, .iaload, 1, 0, 0, []), (65, .ifCond .eq 31, 3, 0, 96, []), (68, .iload_n 2, 1, 0, 0, []), (69, .ifCond .eq 31, 3, 0, 100, []), (72, .aload_n 0, 1, 0, 0, []), (73, .bipush 64, 2, 64, 0, []), (75, .invokevirtual 114, 3, 0, 0, []), (78, .aload_n 0, 1, 0, 0, []), (79, .getfield 187, 3, 0, 0, []), (82, .sipush 243, 3, 243, 0, []), (85, .if_icmp .ne 7, 3, 0, 92, []), (88, .iconst 1, 1, 1, 0, []), (89, .goto 4, 3, 0, 93, [])]
theorem ok_Mod_strings_58 : blkOK b_Mod_strings pt_Mod 92 I_Mod_strings_58 = true := by decide +kernel
def I_Mod_strings_92 : List IT := [(92, .iconst 0, 1, 0, 0, [])]
theorem ok_Mod_strings_92 : blkOK b_Mod_strings pt_Mod 93 I_Mod_strings_92 = true := by decide +kernel
def I_Mod_strings_93 : List IT := [(93, .if_icmp .eq 7, 3, 0, 100, [])]
theorem ok_Mod_strings_93 : blkOK b_Mod_strings pt_Mod 96 I_Mod_strings_93 = true := by decide +kernel
def I_Mod_strings_96 : List IT := [(96, .iconst 1, 1, 1, 0, []), (97, .goto 4, 3, 0, 101, [])]
theorem ok_Mod_strings_96 : blkOK b_Mod_strings pt_Mod 100 I_Mod_strings_96 = true := by decide +kernel
def I_Mod_strings_100 : List IT := [(100, .iconst 0, 1, 0, 0, [])]
theorem ok_Mod_strings_100 : blkOK b_Mod_strings pt_Mod 101 I_Mod_strings_100 = true := by decide +kernel
def I_Mod_strings_101 : List IT := [(101, .istore_n 3, 1, 0, 0, []), (102, .iload_n 3, 1, 0, 0, []), (103, .ifCond .ne 11, 3, 0, 114, []), (106, .aload_n 0, 1, 0, 0, []), (107, .aload_n 0, 1, 0, 0, []), (108, .getfield 193, 3, 0, 0, []), (111, .putfield 22, 3, 0, 0, [])]
theorem ok_Mod_strings_101 : blkOK b_Mod_strings pt_Mod 114 I_Mod_strings_101 = true := by decide +kernel
def I_Mod_strings_114 : List IT := [(114, .return_, 1, 0, 0, [])]
theorem ok_Mod_strings_114 : blkOK b_Mod_strings pt_Mod 115 I_Mod_strings_114 = true := by decide +kernel
def f_Mod_strings_101 (σ : Sg) (y0 : Int32) : Sg := (if y0 = (0 : Int32) then (bnd (up2 σ 15 3 (σ 15 9)) fun s2 => s2) else σ)
abbrev w_Mod_strings_101 : List (Nat × Option Nat) := [(15, some 3)]
theorem p_Mod_strings_101 {P : Sg → Prop} (hP : WP w_Mod_strings_101 P) {σ : Sg} {y0 : Int32} (h : P σ) : P (f_Mod_strings_101 σ y0) := by
  unfold f_Mod_strings_101
  refine ite_z (fun _ => ?_) (fun _ => ?_)
  · refine bnd_zz (Z := P) (hP _ _ _ _ (Or.inr (by decide)) h) fun s2 e2 q2 => ?_
    exact q2
  · exact h
set_option maxRecDepth 100000 in
set_option maxHeartbeats 4000000 in
theorem b_Mod_strings_101 {l : Launch} {ad : Nat → Nat} {D : va_G} {cI : ClassId} {K : Option Value → Sg → Prop} {X : Nat → List Value → List Value → Sg → Prop} (hX : Cl l ad D cI mi_Mod_strings pt_Mod K X) {σ : Sg} {y0 : Int32} (z_y0 : y0 = 0 ∨ y0 = 1)  (hK : KV K (f_Mod_strings_101 σ y0)) : X 101 [.ref 15, .null, .null, .null] [.int y0] σ := by
  unfold f_Mod_strings_101 at hK
  refine hX.1 114 I_Mod_strings_101 ok_Mod_strings_101 _ _ _ ?_
  refine And.intro (fun h1 => ?_) (fun h1 => ?_)
  · have hK := ite_p hK h1
    refine And.intro trivial (SG_g hK fun s2 e2 hK => ?_)
    refine hX.1 115 I_Mod_strings_114 ok_Mod_strings_114 _ _ _ ?_
    exact hK
  · have hK := ite_n hK h1
    refine hX.1 115 I_Mod_strings_114 ok_Mod_strings_114 _ _ _ ?_
    exact hK
def f_Mod_strings_96 (σ : Sg)  : Sg := (f_Mod_strings_101 σ (1 : Int32))
abbrev w_Mod_strings_96 : List (Nat × Option Nat) := [(15, some 3)]
theorem p_Mod_strings_96 {P : Sg → Prop} (hP : WP w_Mod_strings_96 P) {σ : Sg}  (h : P σ) : P (f_Mod_strings_96 σ ) := by
  unfold f_Mod_strings_96
  exact p_Mod_strings_101 (wsub hP rfl) h
set_option maxRecDepth 100000 in
set_option maxHeartbeats 4000000 in
theorem b_Mod_strings_96 {l : Launch} {ad : Nat → Nat} {D : va_G} {cI : ClassId} {K : Option Value → Sg → Prop} {X : Nat → List Value → List Value → Sg → Prop} (hX : Cl l ad D cI mi_Mod_strings pt_Mod K X) {σ : Sg}    (hK : KV K (f_Mod_strings_96 σ )) : X 96 [.ref 15, .null, .null, .null] [] σ := by
  unfold f_Mod_strings_96 at hK
  refine hX.1 100 I_Mod_strings_96 ok_Mod_strings_96 _ _ _ ?_
  exact b_Mod_strings_101 hX (Or.inr rfl)  hK
def f_Mod_strings_100 (σ : Sg)  : Sg := (f_Mod_strings_101 σ (0 : Int32))
abbrev w_Mod_strings_100 : List (Nat × Option Nat) := [(15, some 3)]
theorem p_Mod_strings_100 {P : Sg → Prop} (hP : WP w_Mod_strings_100 P) {σ : Sg}  (h : P σ) : P (f_Mod_strings_100 σ ) := by
  unfold f_Mod_strings_100
  exact p_Mod_strings_101 (wsub hP rfl) h
set_option maxRecDepth 100000 in
set_option maxHeartbeats 4000000 in
theorem b_Mod_strings_100 {l : Launch} {ad : Nat → Nat} {D : va_G} {cI : ClassId} {K : Option Value → Sg → Prop} {X : Nat → List Value → List Value → Sg → Prop} (hX : Cl l ad D cI mi_Mod_strings pt_Mod K X) {σ : Sg}    (hK : KV K (f_Mod_strings_100 σ )) : X 100 [.ref 15, .null, .null, .null] [] σ := by
  unfold f_Mod_strings_100 at hK
  refine hX.1 101 I_Mod_strings_100 ok_Mod_strings_100 _ _ _ ?_
  exact b_Mod_strings_101 hX (Or.inl rfl)  hK
def f_Mod_strings_93 (σ : Sg) (y0 : Int32) (y1 : Int32) : Sg := (if y1 = y0 then (f_Mod_strings_100 σ) else (f_Mod_strings_96 σ))
abbrev w_Mod_strings_93 : List (Nat × Option Nat) := [(15, some 3)]
theorem p_Mod_strings_93 {P : Sg → Prop} (hP : WP w_Mod_strings_93 P) {σ : Sg} {y0 : Int32} {y1 : Int32} (h : P σ) : P (f_Mod_strings_93 σ y0 y1) := by
  unfold f_Mod_strings_93
  refine ite_z (fun _ => ?_) (fun _ => ?_)
  · exact p_Mod_strings_100 (wsub hP rfl) h
  · exact p_Mod_strings_96 (wsub hP rfl) h
set_option maxRecDepth 100000 in
set_option maxHeartbeats 4000000 in
theorem b_Mod_strings_93 {l : Launch} {ad : Nat → Nat} {D : va_G} {cI : ClassId} {K : Option Value → Sg → Prop} {X : Nat → List Value → List Value → Sg → Prop} (hX : Cl l ad D cI mi_Mod_strings pt_Mod K X) {σ : Sg} {y0 : Int32} {y1 : Int32} (z_y0 : y0 = 0 ∨ y0 = 1) (z_y1 : y1 = 0 ∨ y1 = 1)  (hK : KV K (f_Mod_strings_93 σ y0 y1)) : X 93 [.ref 15, .null, .null, .null] [.int y0, .int y1] σ := by
  unfold f_Mod_strings_93 at hK
  refine hX.1 96 I_Mod_strings_93 ok_Mod_strings_93 _ _ _ ?_
  refine And.intro (fun h1 => ?_) (fun h1 => ?_)
  · have hK := ite_p hK h1
    exact b_Mod_strings_100 hX  hK
  · have hK := ite_n hK h1
    exact b_Mod_strings_96 hX  hK
def f_Mod_strings_58 (σ : Sg) (y0 : Int32) : Sg := (if (σ 17 (Int32.toNatClampNeg (1 : Int32))) = (0 : Int32) then (f_Mod_strings_96 σ) else (if y0 = (0 : Int32) then (f_Mod_strings_100 σ) else (bnd (f_Mod_is σ (64 : Int32)) fun r3 => (if (r3.2 15 11) = (243 : Int32) then (f_Mod_strings_93 r3.2 (1 : Int32) r3.1) else (f_Mod_strings_93 r3.2 (0 : Int32) r3.1)))))
abbrev w_Mod_strings_58 : List (Nat × Option Nat) := [(15, some 3)]
theorem p_Mod_strings_58 {P : Sg → Prop} (hP : WP w_Mod_strings_58 P) {σ : Sg} {y0 : Int32} (h : P σ) : P (f_Mod_strings_58 σ y0) := by
  unfold f_Mod_strings_58
  refine ite_z (fun _ => ?_) (fun _ => ?_)
  · exact p_Mod_strings_96 (wsub hP rfl) h
  · refine ite_z (fun _ => ?_) (fun _ => ?_)
    · exact p_Mod_strings_100 (wsub hP rfl) h
    · refine bnd_zz (Z := PP P) (p_Mod_is (wsub hP rfl) h) fun r3 e3 q3 => ?_
      refine ite_z (fun _ => ?_) (fun _ => ?_)
      · exact p_Mod_strings_93 (wsub hP rfl) q3
      · exact p_Mod_strings_93 (wsub hP rfl) q3
set_option maxRecDepth 100000 in
set_option maxHeartbeats 4000000 in
theorem b_Mod_strings_58 {l : Launch} {ad : Nat → Nat} {D : va_G} {cI : ClassId} {K : Option Value → Sg → Prop} {X : Nat → List Value → List Value → Sg → Prop} (hX : Cl l ad D cI mi_Mod_strings pt_Mod K X) {σ : Sg} {y0 : Int32} (z_y0 : y0 = 0 ∨ y0 = 1)  (hK : KV K (f_Mod_strings_58 σ y0)) : X 58 [.ref 15, .null, .null, .null] [.int y0] σ := by
  unfold f_Mod_strings_58 at hK
  refine hX.1 92 I_Mod_strings_58 ok_Mod_strings_58 _ _ _ ?_
  refine And.intro (vin (by decide)) ?_
  refine And.intro (fun h1 => ?_) (fun h1 => ?_)
  · have hK := ite_p hK h1
    refine hX.fg [2] ?_
    exact b_Mod_strings_96 hX  hK
  · have hK := ite_n hK h1
    refine And.intro (fun h2 => ?_) (fun h2 => ?_)
    · have hK := ite_p hK h2
      refine hX.fg [2] ?_
      exact b_Mod_strings_100 hX  hK
    · have hK := ite_n hK h2
      refine s_Mod_is (bnd_g hK fun r3 e3 hK => ?_)
      have z3 : r3.1 = 0 ∨ r3.1 = 1 := by rw [← e3]; exact z_Mod_is
      refine And.intro (fun h4 => ?_) (fun h4 => ?_)
      · have hK := ite_p hK h4
        refine hX.fg [2] ?_
        exact b_Mod_strings_93 hX (Or.inr rfl) z3  hK
      · have hK := ite_n hK h4
        refine hX.1 93 I_Mod_strings_92 ok_Mod_strings_92 _ _ _ ?_
        refine hX.fg [2] ?_
        exact b_Mod_strings_93 hX (Or.inl rfl) z3  hK
def f_Mod_strings (σ : Sg) (a1 : Int32) : Sg := (if (0 : Int32) ≤ (σ 15 11) then (if (σ 17 (Int32.toNatClampNeg (1 : Int32))) = (0 : Int32) then σ else (bnd (f_Mod_string σ a1) fun r3 => bnd (up2 r3 17 (Int32.toNatClampNeg (1 : Int32)) ((r3 17 (Int32.toNatClampNeg (1 : Int32))) - (1 : Int32))) fun s4 => (if (a1 &&& (254 : Int32)) = (174 : Int32) then (f_Mod_strings_58 s4 (1 : Int32)) else (f_Mod_strings_58 s4 (0 : Int32))))) else (bnd (f_Mod_string σ a1) fun r6 => r6))
abbrev w_Mod_strings : List (Nat × Option Nat) := [(15, some 3), (15, some 4), (16, none), (17, none)]
theorem p_Mod_strings {P : Sg → Prop} (hP : WP w_Mod_strings P) {σ : Sg} {a1 : Int32} (h : P σ) : P (f_Mod_strings σ a1) := by
  unfold f_Mod_strings
  refine ite_z (fun _ => ?_) (fun _ => ?_)
  · refine ite_z (fun _ => ?_) (fun _ => ?_)
    · exact h
    · refine bnd_zz (Z := P) (p_Mod_string (wsub hP rfl) h) fun r3 e3 q3 => ?_
      refine bnd_zz (Z := P) (hP _ _ _ _ (Or.inl (by decide)) q3) fun s4 e4 q4 => ?_
      refine ite_z (fun _ => ?_) (fun _ => ?_)
      · exact p_Mod_strings_58 (wsub hP rfl) q4
      · exact p_Mod_strings_58 (wsub hP rfl) q4
  · refine bnd_zz (Z := P) (p_Mod_string (wsub hP rfl) h) fun r6 e6 q6 => ?_
    exact q6
set_option maxRecDepth 100000 in
set_option maxHeartbeats 4000000 in
theorem s_Mod_strings {l : Launch} {ad : Nat → Nat} {D : va_G} {cI : ClassId} {σ : Sg} {a1 : Int32} {K : Option Value → Sg → Prop}  (OV0 : OV σ) (hK : KV K (f_Mod_strings σ a1)) : MetJ l ad D cI mi_Mod_strings [.ref 15, .int a1] σ K := by
  refine met_of mi_Mod_strings pt_Mod pt_Mod_in rfl pl_Mod rfl (Nat.le_of_ble_eq_true rfl) fun X hX => ?_
  have hX : Cl l ad D cI mi_Mod_strings pt_Mod K X := hX
  show X 0 [.ref 15, .int a1, .null, .null] [] σ
  unfold f_Mod_strings at hK
  refine hX.1 13 I_Mod_strings_0 ok_Mod_strings_0 _ _ _ ?_
  refine And.intro (fun h1 => ?_) (fun h1 => ?_)
  · have hK := ite_p hK h1
    refine hX.1 23 I_Mod_strings_13 ok_Mod_strings_13 _ _ _ ?_
    refine And.intro (vin (by decide)) ?_
    refine And.intro (fun h2 => ?_) (fun h2 => ?_)
    · have hK := ite_p hK h2
      exact hK
    · have hK := ite_n hK h2
      refine hX.1 57 I_Mod_strings_23 ok_Mod_strings_23 _ _ _ ?_
      refine s_Mod_string OV0 (bnd_g hK fun r3 e3 hK => ?_)
      refine And.intro (vin (by decide)) ?_
      refine And.intro (vin (by decide)) (SG_g hK fun s4 e4 hK => ?_)
      refine And.intro (fun h5 => ?_) (fun h5 => ?_)
      · have hK := ite_p hK h5
        refine hX.fg [1] ?_
        exact b_Mod_strings_58 hX (Or.inr rfl)  hK
      · have hK := ite_n hK h5
        refine hX.1 58 I_Mod_strings_57 ok_Mod_strings_57 _ _ _ ?_
        refine hX.fg [1] ?_
        exact b_Mod_strings_58 hX (Or.inl rfl)  hK
  · have hK := ite_n hK h1
    refine s_Mod_string OV0 (bnd_g hK fun r6 e6 hK => ?_)
    exact hK
def I_Mod_stack_0 : List IT := [(0, .iload_n 1, 1, 0, 0, []), (1, .bipush 80, 2, 80, 0, []), (3, .bipush 87, 2, 87, 0, []), (5, .invokestatic 100, 3, 0, 0, []), (8, .ifCond .eq 16, 3, 0, 24, []), (11, .aload_n 0, 1, 0, 0, []), (12, .aload_n 0, 1, 0, 0, []), (13, .getfield 13, 3, 0, 0, []), (16, .iload_n 1, 1, 0, 0, []), (17, .bipush 7, 2, 7, 0, []), (19, .iand, 1, 0, 0, []), (20, .iaload, 1, 0, 0, []), (21, .invokevirtual 128, 3, 0, 0, [])]
theorem ok_Mod_stack_0 : blkOK b_Mod_stack pt_Mod 24 I_Mod_stack_0 = true := by decide +kernel
def I_Mod_stack_24 : List IT := [(24, .iload_n 1, 1, 0, 0, []), (25, .bipush 88, 2, 88, 0, []), (27, .bipush 95, 2, 95, 0, []), (29, .invokestatic 100, 3, 0, 0, []), (32, .ifCond .eq 18, 3, 0, 50, []), (35, .aload_n 0, 1, 0, 0, []), (36, .invokevirtual 196, 3, 0, 0, []), (39, .istore_n 2, 1, 0, 0, []), (40, .aload_n 0, 1, 0, 0, []), (41, .getfield 13, 3, 0, 0, []), (44, .iload_n 1, 1, 0, 0, []), (45, .bipush 7, 2, 7, 0, []), (47, .iand, 1, 0, 0, []), (48, .iload_n 2, 1, 0, 0, []), (49, .iastore, 1, 0, 0, [])]
theorem ok_Mod_stack_24 : blkOK b_Mod_stack pt_Mod 50 I_Mod_stack_24 = true := by decide +kernel
def I_Mod_stack_50 : List IT := [(50, .iload_n 1, 1, 0, 0, []), (51, .bipush 32, 2, 32, 0, []), (53, .if_icmp .ge 24, 3, 0, 77, []), (56, .iload_n 1, 1, 0, 0, []), (57, .bipush 7, 2, 7, 0, []), (59, .iand, 1, 0, 0, []), (60, .bipush 6, 2, 6, 0, []), (62, .if_icmp .ne 15, 3, 0, 77, []), (65, .aload_n 0, 1, 0, 0, []), (66, .aload_n 0, 1, 0, 0, []), (67, .getfield 16, 3, 0, 0, []), (70, .iload_n 1, 1, 0, 0, []), (71, .iconst 3, 1, 3, 0, []), (72, .ishr, 1, 0, 0, []), (73, .iaload, 1, 0, 0, []), (74, .invokevirtual 128, 3, 0, 0, [])]
theorem ok_Mod_stack_50 : blkOK b_Mod_stack pt_Mod 77 I_Mod_stack_50 = true := by decide +kernel
def I_Mod_stack_77 : List IT := [(77, .iload_n 1, 1, 0, 0, []), (78, .bipush 32, 2, 32, 0, []), (80, .if_icmp .ge 41, 3, 0, 121, []), (83, .iload_n 1, 1, 0, 0, []), (84, .bipush 7, 2, 7, 0, []), (86, .iand, 1, 0, 0, []), (87, .bipush 7, 2, 7, 0, []), (89, .if_icmp .ne 32, 3, 0, 121, []), (92, .aload_n 0, 1, 0, 0, []), (93, .invokevirtual 196, 3, 0, 0, []), (96, .istore_n 2, 1, 0, 0, []), (97, .aload_n 0, 1, 0, 0, []), (98, .getfield 16, 3, 0, 0, []), (101, .iload_n 1, 1, 0, 0, []), (102, .iconst 3, 1, 3, 0, []), (103, .ishr, 1, 0, 0, []), (104, .iload_n 2, 1, 0, 0, []), (105, .iastore, 1, 0, 0, []), (106, .aload_n 0, 1, 0, 0, []), (107, .iload_n 1, 1, 0, 0, []), (108, .bipush 23, 2, 23, 0, []), (110, .if_icmp .ne 7, 3, 0, 117, []), (113, .iconst 1, 1, 1, 0, []), (114, .goto 4, 3, 0, 118, [])]
theorem ok_Mod_stack_77 : blkOK b_Mod_stack pt_Mod 117 I_Mod_stack_77 = true := by decide +kernel
def I_Mod_stack_117 : List IT := [(117, .iconst 0, 1, 0, 0, [])]
theorem ok_Mod_stack_117 : blkOK b_Mod_stack pt_Mod 118 I_Mod_stack_117 = true := by decide +kernel
def I_Mod_stack_118 : List IT := [(118, .putfield 161, 3, 0, 0, [])]
theorem ok_Mod_stack_118 : blkOK b_Mod_stack pt_Mod 121 I_Mod_stack_118 = true := by decide +kernel
def I_Mod_stack_121 : List IT := [(121, .return_, 1, 0, 0, [])]
theorem ok_Mod_stack_121 : blkOK b_Mod_stack pt_Mod 122 I_Mod_stack_121 = true := by decide +kernel
def f_Mod_stack_77 (σ : Sg) (x1 : Int32) : Sg := (if (32 : Int32) ≤ x1 then σ else (if (x1 &&& (7 : Int32)) = (7 : Int32) then (bnd (f_Mod_pop σ) fun r3 => bnd (up2 r3.2 18 (Int32.toNatClampNeg (x1 >>> ((3 : Int32) &&& 31 : Int32))) r3.1) fun s4 => (if x1 = (23 : Int32) then (bnd (up2 s4 15 6 (1 : Int32)) fun s6 => s6) else (bnd (up2 s4 15 6 (0 : Int32)) fun s7 => s7))) else σ))
abbrev w_Mod_stack_77 : List (Nat × Option Nat) := [(15, some 6), (17, none), (18, none)]
theorem p_Mod_stack_77 {P : Sg → Prop} (hP : WP w_Mod_stack_77 P) {σ : Sg} {x1 : Int32} (h : P σ) : P (f_Mod_stack_77 σ x1) := by
  unfold f_Mod_stack_77
  refine ite_z (fun _ => ?_) (fun _ => ?_)
  · exact h
  · refine ite_z (fun _ => ?_) (fun _ => ?_)
    · refine bnd_zz (Z := PP P) (p_Mod_pop (wsub hP rfl) h) fun r3 e3 q3 => ?_
      refine bnd_zz (Z := P) (hP _ _ _ _ (Or.inl (by decide)) q3) fun s4 e4 q4 => ?_
      refine ite_z (fun _ => ?_) (fun _ => ?_)
      · refine bnd_zz (Z := P) (hP _ _ _ _ (Or.inr (by decide)) q4) fun s6 e6 q6 => ?_
        exact q6
      · refine bnd_zz (Z := P) (hP _ _ _ _ (Or.inr (by decide)) q4) fun s7 e7 q7 => ?_
        exact q7
    · exact h
set_option maxRecDepth 100000 in
set_option maxHeartbeats 4000000 in
theorem b_Mod_stack_77 {l : Launch} {ad : Nat → Nat} {D : va_G} {cI : ClassId} {K : Option Value → Sg → Prop} {X : Nat → List Value → List Value → Sg → Prop} (hX : Cl l ad D cI mi_Mod_stack pt_Mod K X) {σ : Sg} {x1 : Int32} (nn_x1 : ¬ x1 < 0)  (hK : KV K (f_Mod_stack_77 σ x1)) : X 77 [.ref 15, .int x1, .null] [] σ := by
  unfold f_Mod_stack_77 at hK
  refine hX.1 117 I_Mod_stack_77 ok_Mod_stack_77 _ _ _ ?_
  refine And.intro (fun h1 => ?_) (fun h1 => ?_)
  · have hK := ite_p hK h1
    refine hX.1 122 I_Mod_stack_121 ok_Mod_stack_121 _ _ _ ?_
    exact hK
  · have hK := ite_n hK h1
    refine And.intro (fun h2 => ?_) (fun h2 => ?_)
    · have hK := ite_p hK h2
      refine s_Mod_pop (bnd_g hK fun r3 e3 hK => ?_)
      refine And.intro (vin_c3 nn_x1 (by assumption)) (SG_g hK fun s4 e4 hK => ?_)
      refine And.intro (fun h5 => ?_) (fun h5 => ?_)
      · have hK := ite_p hK h5
        refine hX.1 121 I_Mod_stack_118 ok_Mod_stack_118 _ _ _ ?_
        refine And.intro (Or.inr rfl) (SG_g hK fun s6 e6 hK => ?_)
        refine hX.1 122 I_Mod_stack_121 ok_Mod_stack_121 _ _ _ ?_
        exact hK
      · have hK := ite_n hK h5
        refine hX.1 118 I_Mod_stack_117 ok_Mod_stack_117 _ _ _ ?_
        refine hX.1 121 I_Mod_stack_118 ok_Mod_stack_118 _ _ _ ?_
        refine And.intro (Or.inl rfl) (SG_g hK fun s7 e7 hK => ?_)
        refine hX.1 122 I_Mod_stack_121 ok_Mod_stack_121 _ _ _ ?_
        exact hK
    · have hK := ite_n hK h2
      refine hX.1 122 I_Mod_stack_121 ok_Mod_stack_121 _ _ _ ?_
      exact hK
def f_Mod_stack_50 (σ : Sg) (x1 : Int32) : Sg := (if (32 : Int32) ≤ x1 then (f_Mod_stack_77 σ x1) else (if (x1 &&& (7 : Int32)) = (6 : Int32) then (bnd (f_Mod_push σ (σ 18 (Int32.toNatClampNeg (x1 >>> ((3 : Int32) &&& 31 : Int32))))) fun r3 => (f_Mod_stack_77 r3 x1)) else (f_Mod_stack_77 σ x1)))
abbrev w_Mod_stack_50 : List (Nat × Option Nat) := [(15, some 6), (16, none), (17, none), (18, none)]
theorem p_Mod_stack_50 {P : Sg → Prop} (hP : WP w_Mod_stack_50 P) {σ : Sg} {x1 : Int32} (h : P σ) : P (f_Mod_stack_50 σ x1) := by
  unfold f_Mod_stack_50
  refine ite_z (fun _ => ?_) (fun _ => ?_)
  · exact p_Mod_stack_77 (wsub hP rfl) h
  · refine ite_z (fun _ => ?_) (fun _ => ?_)
    · refine bnd_zz (Z := P) (p_Mod_push (wsub hP rfl) h) fun r3 e3 q3 => ?_
      exact p_Mod_stack_77 (wsub hP rfl) q3
    · exact p_Mod_stack_77 (wsub hP rfl) h
set_option maxRecDepth 100000 in
set_option maxHeartbeats 4000000 in
theorem b_Mod_stack_50 {l : Launch} {ad : Nat → Nat} {D : va_G} {cI : ClassId} {K : Option Value → Sg → Prop} {X : Nat → List Value → List Value → Sg → Prop} (hX : Cl l ad D cI mi_Mod_stack pt_Mod K X) {σ : Sg} {x1 : Int32} (nn_x1 : ¬ x1 < 0)  (hK : KV K (f_Mod_stack_50 σ x1)) : X 50 [.ref 15, .int x1, .null] [] σ := by
  unfold f_Mod_stack_50 at hK
  refine hX.1 77 I_Mod_stack_50 ok_Mod_stack_50 _ _ _ ?_
  refine And.intro (fun h1 => ?_) (fun h1 => ?_)
  · have hK := ite_p hK h1
    exact b_Mod_stack_77 hX nn_x1  hK
  · have hK := ite_n hK h1
    refine And.intro (fun h2 => ?_) (fun h2 => ?_)
    · have hK := ite_p hK h2
      refine And.intro (vin_c3 nn_x1 (by assumption)) ?_
      refine s_Mod_push (bnd_g hK fun r3 e3 hK => ?_)
      exact b_Mod_stack_77 hX nn_x1  hK
    · have hK := ite_n hK h2
      exact b_Mod_stack_77 hX nn_x1  hK
def f_Mod_stack_24 (σ : Sg) (x1 : Int32) : Sg := (bnd (f_Mod_in σ x1 (88 : Int32) (95 : Int32)) fun r1 => (if r1.1 = (0 : Int32) then (f_Mod_stack_50 r1.2 x1) else (bnd (f_Mod_pop r1.2) fun r3 => bnd (up2 r3.2 17 (Int32.toNatClampNeg (x1 &&& (7 : Int32))) r3.1) fun s4 => (f_Mod_stack_50 s4 x1))))
abbrev w_Mod_stack_24 : List (Nat × Option Nat) := [(15, some 6), (16, none), (17, none), (18, none)]
theorem p_Mod_stack_24 {P : Sg → Prop} (hP : WP w_Mod_stack_24 P) {σ : Sg} {x1 : Int32} (h : P σ) : P (f_Mod_stack_24 σ x1) := by
  unfold f_Mod_stack_24
  refine bnd_zz (Z := PP P) (p_Mod_in (wsub hP rfl) h) fun r1 e1 q1 => ?_
  refine ite_z (fun _ => ?_) (fun _ => ?_)
  · exact p_Mod_stack_50 (wsub hP rfl) q1
  · refine bnd_zz (Z := PP P) (p_Mod_pop (wsub hP rfl) q1) fun r3 e3 q3 => ?_
    refine bnd_zz (Z := P) (hP _ _ _ _ (Or.inl (by decide)) q3) fun s4 e4 q4 => ?_
    exact p_Mod_stack_50 (wsub hP rfl) q4
set_option maxRecDepth 100000 in
set_option maxHeartbeats 4000000 in
theorem b_Mod_stack_24 {l : Launch} {ad : Nat → Nat} {D : va_G} {cI : ClassId} {K : Option Value → Sg → Prop} {X : Nat → List Value → List Value → Sg → Prop} (hX : Cl l ad D cI mi_Mod_stack pt_Mod K X) {σ : Sg} {x1 : Int32} (nn_x1 : ¬ x1 < 0)  (hK : KV K (f_Mod_stack_24 σ x1)) : X 24 [.ref 15, .int x1, .null] [] σ := by
  unfold f_Mod_stack_24 at hK
  refine hX.1 50 I_Mod_stack_24 ok_Mod_stack_24 _ _ _ ?_
  refine s_Mod_in (bnd_g hK fun r1 e1 hK => ?_)
  have z1 : r1.1 = 0 ∨ r1.1 = 1 := by rw [← e1]; exact z_Mod_in
  refine And.intro (fun h2 => ?_) (fun h2 => ?_)
  · have hK := ite_p hK h2
    exact b_Mod_stack_50 hX nn_x1  hK
  · have hK := ite_n hK h2
    refine s_Mod_pop (bnd_g hK fun r3 e3 hK => ?_)
    refine And.intro (pk_andIn _ 3 rfl (by decide)) (SG_g hK fun s4 e4 hK => ?_)
    refine hX.fg [2] ?_
    exact b_Mod_stack_50 hX nn_x1  hK
def f_Mod_stack (σ : Sg) (a1 : Int32) : Sg := (bnd (f_Mod_in σ a1 (80 : Int32) (87 : Int32)) fun r1 => (if r1.1 = (0 : Int32) then (f_Mod_stack_24 r1.2 a1) else (bnd (f_Mod_push r1.2 (r1.2 17 (Int32.toNatClampNeg (a1 &&& (7 : Int32))))) fun r3 => (f_Mod_stack_24 r3 a1))))
abbrev w_Mod_stack : List (Nat × Option Nat) := [(15, some 6), (16, none), (17, none), (18, none)]
theorem p_Mod_stack {P : Sg → Prop} (hP : WP w_Mod_stack P) {σ : Sg} {a1 : Int32} (h : P σ) : P (f_Mod_stack σ a1) := by
  unfold f_Mod_stack
  refine bnd_zz (Z := PP P) (p_Mod_in (wsub hP rfl) h) fun r1 e1 q1 => ?_
  refine ite_z (fun _ => ?_) (fun _ => ?_)
  · exact p_Mod_stack_24 (wsub hP rfl) q1
  · refine bnd_zz (Z := P) (p_Mod_push (wsub hP rfl) q1) fun r3 e3 q3 => ?_
    exact p_Mod_stack_24 (wsub hP rfl) q3
set_option maxRecDepth 100000 in
set_option maxHeartbeats 4000000 in
theorem s_Mod_stack {l : Launch} {ad : Nat → Nat} {D : va_G} {cI : ClassId} {σ : Sg} {a1 : Int32} {K : Option Value → Sg → Prop} (nn_a1 : ¬ a1 < 0)  (hK : KV K (f_Mod_stack σ a1)) : MetJ l ad D cI mi_Mod_stack [.ref 15, .int a1] σ K := by
  refine met_of mi_Mod_stack pt_Mod pt_Mod_in rfl pl_Mod rfl (Nat.le_of_ble_eq_true rfl) fun X hX => ?_
  have hX : Cl l ad D cI mi_Mod_stack pt_Mod K X := hX
  show X 0 [.ref 15, .int a1, .null] [] σ
  unfold f_Mod_stack at hK
  refine hX.1 24 I_Mod_stack_0 ok_Mod_stack_0 _ _ _ ?_
  refine s_Mod_in (bnd_g hK fun r1 e1 hK => ?_)
  have z1 : r1.1 = 0 ∨ r1.1 = 1 := by rw [← e1]; exact z_Mod_in
  refine And.intro (fun h2 => ?_) (fun h2 => ?_)
  · have hK := ite_p hK h2
    exact b_Mod_stack_24 hX nn_a1  hK
  · have hK := ite_n hK h2
    refine And.intro (pk_andIn _ 3 rfl (by decide)) ?_
    refine s_Mod_push (bnd_g hK fun r3 e3 hK => ?_)
    exact b_Mod_stack_24 hX nn_a1  hK
def I_Mod_jumps_0 : List IT := [(0, .iload_n 1, 1, 0, 0, []), (1, .sipush 195, 3, 195, 0, []), (4, .if_icmp .ne 12, 3, 0, 16, []), (7, .aload_n 0, 1, 0, 0, []), (8, .aload_n 0, 1, 0, 0, []), (9, .invokevirtual 196, 3, 0, 0, []), (12, .putfield 22, 3, 0, 0, []), (15, .return_, 1, 0, 0, [])]
theorem ok_Mod_jumps_0 : blkOK b_Mod_jumps pt_Mod 16 I_Mod_jumps_0 = true := by decide +kernel
def I_Mod_jumps_16 : List IT := [(16, .iload_n 1, 1, 0, 0, []), (17, .sipush 232, 3, 232, 0, []), (20, .if_icmp .eq 10, 3, 0, 30, []), (23, .iload_n 1, 1, 0, 0, []), (24, .sipush 233, 3, 233, 0, []), (27, .if_icmp .ne 10, 3, 0, 37, [])]
theorem ok_Mod_jumps_16 : blkOK b_Mod_jumps pt_Mod 30 I_Mod_jumps_16 = true := by decide +kernel
def I_Mod_jumps_30 : List IT := [(30, .aload_n 0, 1, 0, 0, []), (31, .invokevirtual 54, 3, 0, 0, []), (34, .goto 7, 3, 0, 41, [])]
theorem ok_Mod_jumps_30 : blkOK b_Mod_jumps pt_Mod 37 I_Mod_jumps_30 = true := by decide +kernel
def I_Mod_jumps_37 : List IT := [(37, .aload_n 0, 1, 0, 0, []), (38, .invokevirtual 64, 3, 0, 0, [])]
theorem ok_Mod_jumps_37 : blkOK b_Mod_jumps pt_Mod 41 I_Mod_jumps_37 = true := by decide +kernel
def I_Mod_jumps_41 : List IT := [(41, .istore_n 2, 1, 0, 0, []), (42, .iconst 1, 1, 1, 0, []), (43, .istore_n 3, 1, 0, 0, []), (44, .iload_n 1, 1, 0, 0, []), (45, .sipush 226, 3, 226, 0, []), (48, .if_icmp .ne 35, 3, 0, 83, []), (51, .aload_n 0, 1, 0, 0, []), (52, .getfield 13, 3, 0, 0, []), (55, .iconst 1, 1, 1, 0, []), (56, .aload_n 0, 1, 0, 0, []), (57, .getfield 13, 3, 0, 0, []), (60, .iconst 1, 1, 1, 0, []), (61, .iaload, 1, 0, 0, []), (62, .iconst 1, 1, 1, 0, []), (63, .isub, 1, 0, 0, []), (64, .ldc 32, 2, 65535, 0, []), (66, .iand, 1, 0, 0, []), (67, .iastore, 1, 0, 0, []), (68, .aload_n 0, 1, 0, 0, []), (69, .getfield 13, 3, 0, 0, []), (72, .iconst 1, 1, 1, 0, []), (73, .iaload, 1, 0, 0, []), (74, .ifCond .eq 7, 3, 0, 81, []), (77, .iconst 1, 1, 1, 0, []), (78, .goto 4, 3, 0, 82, [])]
theorem ok_Mod_jumps_41 : blkOK b_Mod_jumps pt_Mod 81 I_Mod_jumps_41 = true := by decide +kernel
def I_Mod_jumps_81 : List IT := [(81, .iconst 0, 1, 0, 0, [])]
theorem ok_Mod_jumps_81 : blkOK b_Mod_jumps pt_Mod 82 I_Mod_jumps_81 = true := by decide +kernel
def I_Mod_jumps_82 : List IT := [(82, .istore_n 3, 1, 0, 0, [])]
theorem ok_Mod_jumps_82 : blkOK b_Mod_jumps pt_Mod 83 I_Mod_jumps_82 = true := by decide +kernel
def I_Mod_jumps_83 : List IT := [(83, .iload_n 1, 1, 0, 0, []), (84, .bipush 112, 2, 112, 0, []), (86, .bipush 127, 2, 127, 0, []), (88, .invokestatic 100, 3, 0, 0, []), (91, .ifCond .eq 12, 3, 0, 103, []), (94, .aload_n 0, 1, 0, 0, []), (95, .iload_n 1, 1, 0, 0, []), (96, .bipush 15, 2, 15, 0, []), (98, .iand, 1, 0, 0, []), (99, .invokevirtual 199, 3, 0, 0, []), (102, .istore_n 3, 1, 0, 0, [])]
theorem ok_Mod_jumps_83 : blkOK b_Mod_jumps pt_Mod 103 I_Mod_jumps_83 = true := by decide +kernel
def I_Mod_jumps_103 : List IT := [(103, .iload_n 1, 1, 0, 0, []), (104, .sipush 232, 3, 232, 0, []), (107, .if_icmp .ne 11, 3, 0, 118, []), (110, .aload_n 0, 1, 0, 0, []), (111, .aload_n 0, 1, 0, 0, []), (112, .getfield 22, 3, 0, 0, []), (115, .invokevirtual 128, 3, 0, 0, [])]
theorem ok_Mod_jumps_103 : blkOK b_Mod_jumps pt_Mod 118 I_Mod_jumps_103 = true := by decide +kernel
def I_Mod_jumps_118 : List IT := [(118, .aload_n 0, 1, 0, 0, []), (119, .iload_n 3, 1, 0, 0, []), (120, .ifCond .eq 15, 3, 0, 135, []), (123, .aload_n 0, 1, 0, 0, []), (124, .getfield 22, 3, 0, 0, []), (127, .iload_n 2, 1, 0, 0, []), (128, .iadd, 1, 0, 0, []), (129, .ldc 32, 2, 65535, 0, []), (131, .iand, 1, 0, 0, []), (132, .goto 7, 3, 0, 139, [])]
theorem ok_Mod_jumps_118 : blkOK b_Mod_jumps pt_Mod 135 I_Mod_jumps_118 = true := by decide +kernel
def I_Mod_jumps_135 : List IT := [(135, .aload_n 0, 1, 0, 0, []), (136, .getfield 22, 3, 0, 0, [])]
theorem ok_Mod_jumps_135 : blkOK b_Mod_jumps pt_Mod 139 I_Mod_jumps_135 = true := by decide +kernel
def I_Mod_jumps_139 : List IT := [(139, .putfield 22, 3, 0, 0, []), (142, .return_, 1, 0, 0, [])]
theorem ok_Mod_jumps_139 : blkOK b_Mod_jumps pt_Mod 143 I_Mod_jumps_139 = true := by decide +kernel
def f_Mod_jumps_118 (σ : Sg) (x2 : Int32) (x3 : Int32) : Sg := (if x3 = (0 : Int32) then (bnd (up2 σ 15 3 (σ 15 3)) fun s2 => s2) else (bnd (up2 σ 15 3 (((σ 15 3) + x2) &&& (65535 : Int32))) fun s3 => s3))
abbrev w_Mod_jumps_118 : List (Nat × Option Nat) := [(15, some 3)]
theorem p_Mod_jumps_118 {P : Sg → Prop} (hP : WP w_Mod_jumps_118 P) {σ : Sg} {x2 : Int32} {x3 : Int32} (h : P σ) : P (f_Mod_jumps_118 σ x2 x3) := by
  unfold f_Mod_jumps_118
  refine ite_z (fun _ => ?_) (fun _ => ?_)
  · refine bnd_zz (Z := P) (hP _ _ _ _ (Or.inr (by decide)) h) fun s2 e2 q2 => ?_
    exact q2
  · refine bnd_zz (Z := P) (hP _ _ _ _ (Or.inr (by decide)) h) fun s3 e3 q3 => ?_
    exact q3
set_option maxRecDepth 100000 in
set_option maxHeartbeats 4000000 in
theorem b_Mod_jumps_118 {l : Launch} {ad : Nat → Nat} {D : va_G} {cI : ClassId} {K : Option Value → Sg → Prop} {X : Nat → List Value → List Value → Sg → Prop} (hX : Cl l ad D cI mi_Mod_jumps pt_Mod K X) {σ : Sg} {x2 : Int32} {x3 : Int32} (z_x3 : x3 = 0 ∨ x3 = 1)  (hK : KV K (f_Mod_jumps_118 σ x2 x3)) : X 118 [.ref 15, .null, .int x2, .int x3] [] σ := by
  unfold f_Mod_jumps_118 at hK
  refine hX.1 135 I_Mod_jumps_118 ok_Mod_jumps_118 _ _ _ ?_
  refine And.intro (fun h1 => ?_) (fun h1 => ?_)
  · have hK := ite_p hK h1
    refine hX.1 139 I_Mod_jumps_135 ok_Mod_jumps_135 _ _ _ ?_
    refine hX.1 143 I_Mod_jumps_139 ok_Mod_jumps_139 _ _ _ ?_
    refine And.intro trivial (SG_g hK fun s2 e2 hK => ?_)
    exact hK
  · have hK := ite_n hK h1
    refine hX.1 143 I_Mod_jumps_139 ok_Mod_jumps_139 _ _ _ ?_
    refine And.intro trivial (SG_g hK fun s3 e3 hK => ?_)
    exact hK
def f_Mod_jumps_103 (σ : Sg) (x1 : Int32) (x2 : Int32) (x3 : Int32) : Sg := (if x1 = (232 : Int32) then (bnd (f_Mod_push σ (σ 15 3)) fun r2 => (f_Mod_jumps_118 r2 x2 x3)) else (f_Mod_jumps_118 σ x2 x3))
abbrev w_Mod_jumps_103 : List (Nat × Option Nat) := [(15, some 3), (16, none), (17, none)]
theorem p_Mod_jumps_103 {P : Sg → Prop} (hP : WP w_Mod_jumps_103 P) {σ : Sg} {x1 : Int32} {x2 : Int32} {x3 : Int32} (h : P σ) : P (f_Mod_jumps_103 σ x1 x2 x3) := by
  unfold f_Mod_jumps_103
  refine ite_z (fun _ => ?_) (fun _ => ?_)
  · refine bnd_zz (Z := P) (p_Mod_push (wsub hP rfl) h) fun r2 e2 q2 => ?_
    exact p_Mod_jumps_118 (wsub hP rfl) q2
  · exact p_Mod_jumps_118 (wsub hP rfl) h
set_option maxRecDepth 100000 in
set_option maxHeartbeats 4000000 in
theorem b_Mod_jumps_103 {l : Launch} {ad : Nat → Nat} {D : va_G} {cI : ClassId} {K : Option Value → Sg → Prop} {X : Nat → List Value → List Value → Sg → Prop} (hX : Cl l ad D cI mi_Mod_jumps pt_Mod K X) {σ : Sg} {x1 : Int32} {x2 : Int32} {x3 : Int32} (z_x3 : x3 = 0 ∨ x3 = 1)  (hK : KV K (f_Mod_jumps_103 σ x1 x2 x3)) : X 103 [.ref 15, .int x1, .int x2, .int x3] [] σ := by
  unfold f_Mod_jumps_103 at hK
  refine hX.1 118 I_Mod_jumps_103 ok_Mod_jumps_103 _ _ _ ?_
  refine And.intro (fun h1 => ?_) (fun h1 => ?_)
  · have hK := ite_p hK h1
    refine s_Mod_push (bnd_g hK fun r2 e2 hK => ?_)
    refine hX.fg [1] ?_
    exact b_Mod_jumps_118 hX z_x3  hK
  · have hK := ite_n hK h1
    refine hX.fg [1] ?_
    exact b_Mod_jumps_118 hX z_x3  hK
def f_Mod_jumps_83 (σ : Sg) (x1 : Int32) (x2 : Int32) (x3 : Int32) : Sg := (bnd (f_Mod_in σ x1 (112 : Int32) (127 : Int32)) fun r1 => (if r1.1 = (0 : Int32) then (f_Mod_jumps_103 r1.2 x1 x2 x3) else (bnd (f_Mod_holds r1.2 (x1 &&& (15 : Int32))) fun r3 => (f_Mod_jumps_103 r3.2 x1 x2 r3.1))))
abbrev w_Mod_jumps_83 : List (Nat × Option Nat) := [(15, some 3), (16, none), (17, none)]
theorem p_Mod_jumps_83 {P : Sg → Prop} (hP : WP w_Mod_jumps_83 P) {σ : Sg} {x1 : Int32} {x2 : Int32} {x3 : Int32} (h : P σ) : P (f_Mod_jumps_83 σ x1 x2 x3) := by
  unfold f_Mod_jumps_83
  refine bnd_zz (Z := PP P) (p_Mod_in (wsub hP rfl) h) fun r1 e1 q1 => ?_
  refine ite_z (fun _ => ?_) (fun _ => ?_)
  · exact p_Mod_jumps_103 (wsub hP rfl) q1
  · refine bnd_zz (Z := PP P) (p_Mod_holds (wsub hP rfl) q1) fun r3 e3 q3 => ?_
    exact p_Mod_jumps_103 (wsub hP rfl) q3
set_option maxRecDepth 100000 in
set_option maxHeartbeats 4000000 in
theorem b_Mod_jumps_83 {l : Launch} {ad : Nat → Nat} {D : va_G} {cI : ClassId} {K : Option Value → Sg → Prop} {X : Nat → List Value → List Value → Sg → Prop} (hX : Cl l ad D cI mi_Mod_jumps pt_Mod K X) {σ : Sg} {x1 : Int32} {x2 : Int32} {x3 : Int32} (z_x3 : x3 = 0 ∨ x3 = 1)  (hK : KV K (f_Mod_jumps_83 σ x1 x2 x3)) : X 83 [.ref 15, .int x1, .int x2, .int x3] [] σ := by
  unfold f_Mod_jumps_83 at hK
  refine hX.1 103 I_Mod_jumps_83 ok_Mod_jumps_83 _ _ _ ?_
  refine s_Mod_in (bnd_g hK fun r1 e1 hK => ?_)
  have z1 : r1.1 = 0 ∨ r1.1 = 1 := by rw [← e1]; exact z_Mod_in
  refine And.intro (fun h2 => ?_) (fun h2 => ?_)
  · have hK := ite_p hK h2
    exact b_Mod_jumps_103 hX z_x3  hK
  · have hK := ite_n hK h2
    refine s_Mod_holds (bnd_g hK fun r3 e3 hK => ?_)
    have z3 : r3.1 = 0 ∨ r3.1 = 1 := by rw [← e3]; exact z_Mod_holds
    exact b_Mod_jumps_103 hX z3  hK
def f_Mod_jumps_82 (σ : Sg) (x1 : Int32) (x2 : Int32) (y0 : Int32) : Sg := (f_Mod_jumps_83 σ x1 x2 y0)
abbrev w_Mod_jumps_82 : List (Nat × Option Nat) := [(15, some 3), (16, none), (17, none)]
theorem p_Mod_jumps_82 {P : Sg → Prop} (hP : WP w_Mod_jumps_82 P) {σ : Sg} {x1 : Int32} {x2 : Int32} {y0 : Int32} (h : P σ) : P (f_Mod_jumps_82 σ x1 x2 y0) := by
  unfold f_Mod_jumps_82
  exact p_Mod_jumps_83 (wsub hP rfl) h
set_option maxRecDepth 100000 in
set_option maxHeartbeats 4000000 in
theorem b_Mod_jumps_82 {l : Launch} {ad : Nat → Nat} {D : va_G} {cI : ClassId} {K : Option Value → Sg → Prop} {X : Nat → List Value → List Value → Sg → Prop} (hX : Cl l ad D cI mi_Mod_jumps pt_Mod K X) {σ : Sg} {x1 : Int32} {x2 : Int32} {y0 : Int32} (z_y0 : y0 = 0 ∨ y0 = 1)  (hK : KV K (f_Mod_jumps_82 σ x1 x2 y0)) : X 82 [.ref 15, .int x1, .int x2, .null] [.int y0] σ := by
  unfold f_Mod_jumps_82 at hK
  refine hX.1 83 I_Mod_jumps_82 ok_Mod_jumps_82 _ _ _ ?_
  exact b_Mod_jumps_83 hX z_y0  hK
def f_Mod_jumps_41 (σ : Sg) (x1 : Int32) (y0 : Int32) : Sg := (if x1 = (226 : Int32) then (bnd (up2 σ 17 (Int32.toNatClampNeg (1 : Int32)) (((σ 17 (Int32.toNatClampNeg (1 : Int32))) - (1 : Int32)) &&& (65535 : Int32))) fun s2 => (if (s2 17 (Int32.toNatClampNeg (1 : Int32))) = (0 : Int32) then (f_Mod_jumps_82 s2 x1 y0 (0 : Int32)) else (f_Mod_jumps_82 s2 x1 y0 (1 : Int32)))) else (f_Mod_jumps_83 σ x1 y0 (1 : Int32)))
abbrev w_Mod_jumps_41 : List (Nat × Option Nat) := [(15, some 3), (16, none), (17, none)]
theorem p_Mod_jumps_41 {P : Sg → Prop} (hP : WP w_Mod_jumps_41 P) {σ : Sg} {x1 : Int32} {y0 : Int32} (h : P σ) : P (f_Mod_jumps_41 σ x1 y0) := by
  unfold f_Mod_jumps_41
  refine ite_z (fun _ => ?_) (fun _ => ?_)
  · refine bnd_zz (Z := P) (hP _ _ _ _ (Or.inl (by decide)) h) fun s2 e2 q2 => ?_
    refine ite_z (fun _ => ?_) (fun _ => ?_)
    · exact p_Mod_jumps_82 (wsub hP rfl) q2
    · exact p_Mod_jumps_82 (wsub hP rfl) q2
  · exact p_Mod_jumps_83 (wsub hP rfl) h
set_option maxRecDepth 100000 in
set_option maxHeartbeats 4000000 in
theorem b_Mod_jumps_41 {l : Launch} {ad : Nat → Nat} {D : va_G} {cI : ClassId} {K : Option Value → Sg → Prop} {X : Nat → List Value → List Value → Sg → Prop} (hX : Cl l ad D cI mi_Mod_jumps pt_Mod K X) {σ : Sg} {x1 : Int32} {y0 : Int32}   (hK : KV K (f_Mod_jumps_41 σ x1 y0)) : X 41 [.ref 15, .int x1, .null, .null] [.int y0] σ := by
  unfold f_Mod_jumps_41 at hK
  refine hX.1 81 I_Mod_jumps_41 ok_Mod_jumps_41 _ _ _ ?_
  refine And.intro (fun h1 => ?_) (fun h1 => ?_)
  · have hK := ite_p hK h1
    refine And.intro (vin (by decide)) ?_
    refine And.intro (vin (by decide)) (SG_g hK fun s2 e2 hK => ?_)
    refine And.intro (vin (by decide)) ?_
    refine And.intro (fun h3 => ?_) (fun h3 => ?_)
    · have hK := ite_p hK h3
      refine hX.1 82 I_Mod_jumps_81 ok_Mod_jumps_81 _ _ _ ?_
      refine hX.fg [3] ?_
      exact b_Mod_jumps_82 hX (Or.inl rfl)  hK
    · have hK := ite_n hK h3
      refine hX.fg [3] ?_
      exact b_Mod_jumps_82 hX (Or.inr rfl)  hK
  · have hK := ite_n hK h1
    exact b_Mod_jumps_83 hX (Or.inr rfl)  hK
def f_Mod_jumps_30 (σ : Sg) (x1 : Int32) : Sg := (bnd (f_Mod_nextWord σ) fun r1 => (f_Mod_jumps_41 r1.2 x1 r1.1))
abbrev w_Mod_jumps_30 : List (Nat × Option Nat) := [(15, some 3), (16, none), (17, none)]
theorem p_Mod_jumps_30 {P : Sg → Prop} (hP : WP w_Mod_jumps_30 P) {σ : Sg} {x1 : Int32} (h : P σ) : P (f_Mod_jumps_30 σ x1) := by
  unfold f_Mod_jumps_30
  refine bnd_zz (Z := PP P) (p_Mod_nextWord (wsub hP rfl) h) fun r1 e1 q1 => ?_
  exact p_Mod_jumps_41 (wsub hP rfl) q1
set_option maxRecDepth 100000 in
set_option maxHeartbeats 4000000 in
theorem b_Mod_jumps_30 {l : Launch} {ad : Nat → Nat} {D : va_G} {cI : ClassId} {K : Option Value → Sg → Prop} {X : Nat → List Value → List Value → Sg → Prop} (hX : Cl l ad D cI mi_Mod_jumps pt_Mod K X) {σ : Sg} {x1 : Int32}   (hK : KV K (f_Mod_jumps_30 σ x1)) : X 30 [.ref 15, .int x1, .null, .null] [] σ := by
  unfold f_Mod_jumps_30 at hK
  refine hX.1 37 I_Mod_jumps_30 ok_Mod_jumps_30 _ _ _ ?_
  refine s_Mod_nextWord (bnd_g hK fun r1 e1 hK => ?_)
  exact b_Mod_jumps_41 hX  hK
def f_Mod_jumps (σ : Sg) (a1 : Int32) : Sg := (if a1 = (195 : Int32) then (bnd (f_Mod_pop σ) fun r2 => bnd (up2 r2.2 15 3 r2.1) fun s3 => s3) else (if a1 = (232 : Int32) then (f_Mod_jumps_30 σ a1) else (if a1 = (233 : Int32) then (f_Mod_jumps_30 σ a1) else (bnd (f_Mod_nextSigned σ) fun r6 => (f_Mod_jumps_41 r6.2 a1 r6.1)))))
abbrev w_Mod_jumps : List (Nat × Option Nat) := [(15, some 3), (16, none), (17, none)]
theorem p_Mod_jumps {P : Sg → Prop} (hP : WP w_Mod_jumps P) {σ : Sg} {a1 : Int32} (h : P σ) : P (f_Mod_jumps σ a1) := by
  unfold f_Mod_jumps
  refine ite_z (fun _ => ?_) (fun _ => ?_)
  · refine bnd_zz (Z := PP P) (p_Mod_pop (wsub hP rfl) h) fun r2 e2 q2 => ?_
    refine bnd_zz (Z := P) (hP _ _ _ _ (Or.inr (by decide)) q2) fun s3 e3 q3 => ?_
    exact q3
  · refine ite_z (fun _ => ?_) (fun _ => ?_)
    · exact p_Mod_jumps_30 (wsub hP rfl) h
    · refine ite_z (fun _ => ?_) (fun _ => ?_)
      · exact p_Mod_jumps_30 (wsub hP rfl) h
      · refine bnd_zz (Z := PP P) (p_Mod_nextSigned (wsub hP rfl) h) fun r6 e6 q6 => ?_
        exact p_Mod_jumps_41 (wsub hP rfl) q6
set_option maxRecDepth 100000 in
set_option maxHeartbeats 4000000 in
theorem s_Mod_jumps {l : Launch} {ad : Nat → Nat} {D : va_G} {cI : ClassId} {σ : Sg} {a1 : Int32} {K : Option Value → Sg → Prop}   (hK : KV K (f_Mod_jumps σ a1)) : MetJ l ad D cI mi_Mod_jumps [.ref 15, .int a1] σ K := by
  refine met_of mi_Mod_jumps pt_Mod pt_Mod_in rfl pl_Mod rfl (Nat.le_of_ble_eq_true rfl) fun X hX => ?_
  have hX : Cl l ad D cI mi_Mod_jumps pt_Mod K X := hX
  show X 0 [.ref 15, .int a1, .null, .null] [] σ
  unfold f_Mod_jumps at hK
  refine hX.1 16 I_Mod_jumps_0 ok_Mod_jumps_0 _ _ _ ?_
  refine And.intro (fun h1 => ?_) (fun h1 => ?_)
  · have hK := ite_p hK h1
    refine s_Mod_pop (bnd_g hK fun r2 e2 hK => ?_)
    refine And.intro trivial (SG_g hK fun s3 e3 hK => ?_)
    exact hK
  · have hK := ite_n hK h1
    refine hX.1 30 I_Mod_jumps_16 ok_Mod_jumps_16 _ _ _ ?_
    refine And.intro (fun h4 => ?_) (fun h4 => ?_)
    · have hK := ite_p hK h4
      exact b_Mod_jumps_30 hX  hK
    · have hK := ite_n hK h4
      refine And.intro (fun h5 => ?_) (fun h5 => ?_)
      · have hK := ite_p hK h5
        exact b_Mod_jumps_30 hX  hK
      · have hK := ite_n hK h5
        refine hX.1 41 I_Mod_jumps_37 ok_Mod_jumps_37 _ _ _ ?_
        refine s_Mod_nextSigned (bnd_g hK fun r6 e6 hK => ?_)
        exact b_Mod_jumps_41 hX  hK
def I_Mod_answerTimer_0 : List IT := [(0, .aload_n 0, 1, 0, 0, []), (1, .getfield 255, 3, 0, 0, []), (4, .ifCond .ne 25, 3, 0, 29, []), (7, .aload_n 0, 1, 0, 0, []), (8, .aload_n 0, 1, 0, 0, []), (9, .getfield 243, 3, 0, 0, []), (12, .ifCond .eq 13, 3, 0, 25, []), (15, .aload_n 0, 1, 0, 0, []), (16, .getfield 246, 3, 0, 0, []), (19, .ldc 32, 2, 65535, 0, []), (21, .iand, 1, 0, 0, []), (22, .goto 4, 3, 0, 26, [])]
theorem ok_Mod_answerTimer_0 : blkOK b_Mod_answerTimer pt_Mod 25 I_Mod_answerTimer_0 = true := by decide +kernel
def I_Mod_answerTimer_25 : List IT := [(25, .iconst 0, 1, 0, 0, [])]
theorem ok_Mod_answerTimer_25 : blkOK b_Mod_answerTimer pt_Mod 26 I_Mod_answerTimer_25 = true := by decide +kernel
def I_Mod_answerTimer_26 : List IT := [(26, .putfield 258, 3, 0, 0, [])]
theorem ok_Mod_answerTimer_26 : blkOK b_Mod_answerTimer pt_Mod 29 I_Mod_answerTimer_26 = true := by decide +kernel
def I_Mod_answerTimer_29 : List IT := [(29, .aload_n 0, 1, 0, 0, []), (30, .getfield 255, 3, 0, 0, []), (33, .ifCond .eq 13, 3, 0, 46, []), (36, .aload_n 0, 1, 0, 0, []), (37, .getfield 258, 3, 0, 0, []), (40, .bipush 8, 2, 8, 0, []), (42, .ishr, 1, 0, 0, []), (43, .goto 11, 3, 0, 54, [])]
theorem ok_Mod_answerTimer_29 : blkOK b_Mod_answerTimer pt_Mod 46 I_Mod_answerTimer_29 = true := by decide +kernel
def I_Mod_answerTimer_46 : List IT := [(46, .aload_n 0, 1, 0, 0, []), (47, .getfield 258, 3, 0, 0, []), (50, .sipush 255, 3, 255, 0, []), (53, .iand, 1, 0, 0, [])]
theorem ok_Mod_answerTimer_46 : blkOK b_Mod_answerTimer pt_Mod 54 I_Mod_answerTimer_46 = true := by decide +kernel
def I_Mod_answerTimer_54 : List IT := [(54, .istore_n 1, 1, 0, 0, []), (55, .aload_n 0, 1, 0, 0, []), (56, .aload_n 0, 1, 0, 0, []), (57, .getfield 255, 3, 0, 0, []), (60, .ifCond .ne 7, 3, 0, 67, []), (63, .iconst 1, 1, 1, 0, []), (64, .goto 4, 3, 0, 68, [])]
theorem ok_Mod_answerTimer_54 : blkOK b_Mod_answerTimer pt_Mod 67 I_Mod_answerTimer_54 = true := by decide +kernel
def I_Mod_answerTimer_67 : List IT := [(67, .iconst 0, 1, 0, 0, [])]
theorem ok_Mod_answerTimer_67 : blkOK b_Mod_answerTimer pt_Mod 68 I_Mod_answerTimer_67 = true := by decide +kernel
def I_Mod_answerTimer_68 : List IT := [(68, .putfield 255, 3, 0, 0, []), (71, .iload_n 1, 1, 0, 0, []), (72, .ireturn, 1, 0, 0, [])]
theorem ok_Mod_answerTimer_68 : blkOK b_Mod_answerTimer pt_Mod 73 I_Mod_answerTimer_68 = true := by decide +kernel
def f_Mod_answerTimer_54 (σ : Sg) (y0 : Int32) : Int32 × Sg := (if (σ 15 27) = (0 : Int32) then (bnd (up2 σ 15 27 (1 : Int32)) fun s2 => (y0, s2)) else (bnd (up2 σ 15 27 (0 : Int32)) fun s3 => (y0, s3)))
abbrev w_Mod_answerTimer_54 : List (Nat × Option Nat) := [(15, some 27)]
theorem p_Mod_answerTimer_54 {P : Sg → Prop} (hP : WP w_Mod_answerTimer_54 P) {σ : Sg} {y0 : Int32} (h : P σ) : PP P (f_Mod_answerTimer_54 σ y0) := by
  unfold f_Mod_answerTimer_54
  refine ite_z (fun _ => ?_) (fun _ => ?_)
  · refine bnd_zz (Z := P) (hP _ _ _ _ (Or.inr (by decide)) h) fun s2 e2 q2 => ?_
    exact q2
  · refine bnd_zz (Z := P) (hP _ _ _ _ (Or.inr (by decide)) h) fun s3 e3 q3 => ?_
    exact q3
set_option maxRecDepth 100000 in
set_option maxHeartbeats 4000000 in
theorem b_Mod_answerTimer_54 {l : Launch} {ad : Nat → Nat} {D : va_G} {cI : ClassId} {K : Option Value → Sg → Prop} {X : Nat → List Value → List Value → Sg → Prop} (hX : Cl l ad D cI mi_Mod_answerTimer pt_Mod K X) {σ : Sg} {y0 : Int32}   (hK : KI K (f_Mod_answerTimer_54 σ y0)) : X 54 [.ref 15, .null] [.int y0] σ := by
  unfold f_Mod_answerTimer_54 at hK
  refine hX.1 67 I_Mod_answerTimer_54 ok_Mod_answerTimer_54 _ _ _ ?_
  refine And.intro (fun h1 => ?_) (fun h1 => ?_)
  · have hK := ite_p hK h1
    refine hX.1 73 I_Mod_answerTimer_68 ok_Mod_answerTimer_68 _ _ _ ?_
    refine And.intro (Or.inr rfl) (SG_g hK fun s2 e2 hK => ?_)
    exact hK
  · have hK := ite_n hK h1
    refine hX.1 68 I_Mod_answerTimer_67 ok_Mod_answerTimer_67 _ _ _ ?_
    refine hX.1 73 I_Mod_answerTimer_68 ok_Mod_answerTimer_68 _ _ _ ?_
    refine And.intro (Or.inl rfl) (SG_g hK fun s3 e3 hK => ?_)
    exact hK
def f_Mod_answerTimer_29 (σ : Sg)  : Int32 × Sg := (if (σ 15 27) = (0 : Int32) then (f_Mod_answerTimer_54 σ ((σ 15 26) &&& (255 : Int32))) else (f_Mod_answerTimer_54 σ ((σ 15 26) >>> ((8 : Int32) &&& 31 : Int32))))
abbrev w_Mod_answerTimer_29 : List (Nat × Option Nat) := [(15, some 27)]
theorem p_Mod_answerTimer_29 {P : Sg → Prop} (hP : WP w_Mod_answerTimer_29 P) {σ : Sg}  (h : P σ) : PP P (f_Mod_answerTimer_29 σ ) := by
  unfold f_Mod_answerTimer_29
  refine ite_z (fun _ => ?_) (fun _ => ?_)
  · exact p_Mod_answerTimer_54 (wsub hP rfl) h
  · exact p_Mod_answerTimer_54 (wsub hP rfl) h
set_option maxRecDepth 100000 in
set_option maxHeartbeats 4000000 in
theorem b_Mod_answerTimer_29 {l : Launch} {ad : Nat → Nat} {D : va_G} {cI : ClassId} {K : Option Value → Sg → Prop} {X : Nat → List Value → List Value → Sg → Prop} (hX : Cl l ad D cI mi_Mod_answerTimer pt_Mod K X) {σ : Sg}    (hK : KI K (f_Mod_answerTimer_29 σ )) : X 29 [.ref 15, .null] [] σ := by
  unfold f_Mod_answerTimer_29 at hK
  refine hX.1 46 I_Mod_answerTimer_29 ok_Mod_answerTimer_29 _ _ _ ?_
  refine And.intro (fun h1 => ?_) (fun h1 => ?_)
  · have hK := ite_p hK h1
    refine hX.1 54 I_Mod_answerTimer_46 ok_Mod_answerTimer_46 _ _ _ ?_
    exact b_Mod_answerTimer_54 hX  hK
  · have hK := ite_n hK h1
    exact b_Mod_answerTimer_54 hX  hK
def f_Mod_answerTimer_26 (σ : Sg) (y0 : Int32) : Int32 × Sg := (bnd (up2 σ 15 26 y0) fun s1 => (f_Mod_answerTimer_29 s1))
abbrev w_Mod_answerTimer_26 : List (Nat × Option Nat) := [(15, some 26), (15, some 27)]
theorem p_Mod_answerTimer_26 {P : Sg → Prop} (hP : WP w_Mod_answerTimer_26 P) {σ : Sg} {y0 : Int32} (h : P σ) : PP P (f_Mod_answerTimer_26 σ y0) := by
  unfold f_Mod_answerTimer_26
  refine bnd_zz (Z := P) (hP _ _ _ _ (Or.inr (by decide)) h) fun s1 e1 q1 => ?_
  exact p_Mod_answerTimer_29 (wsub hP rfl) q1
set_option maxRecDepth 100000 in
set_option maxHeartbeats 4000000 in
theorem b_Mod_answerTimer_26 {l : Launch} {ad : Nat → Nat} {D : va_G} {cI : ClassId} {K : Option Value → Sg → Prop} {X : Nat → List Value → List Value → Sg → Prop} (hX : Cl l ad D cI mi_Mod_answerTimer pt_Mod K X) {σ : Sg} {y0 : Int32}   (hK : KI K (f_Mod_answerTimer_26 σ y0)) : X 26 [.ref 15, .null] [.int y0, .ref 15] σ := by
  unfold f_Mod_answerTimer_26 at hK
  refine hX.1 29 I_Mod_answerTimer_26 ok_Mod_answerTimer_26 _ _ _ ?_
  refine And.intro trivial (SG_g hK fun s1 e1 hK => ?_)
  exact b_Mod_answerTimer_29 hX  hK
def f_Mod_answerTimer (σ : Sg)  : Int32 × Sg := (if (σ 15 27) = (0 : Int32) then (if (σ 15 21) = (0 : Int32) then (f_Mod_answerTimer_26 σ (0 : Int32)) else (f_Mod_answerTimer_26 σ ((σ 15 23) &&& (65535 : Int32)))) else (f_Mod_answerTimer_29 σ))
abbrev w_Mod_answerTimer : List (Nat × Option Nat) := [(15, some 26), (15, some 27)]
theorem p_Mod_answerTimer {P : Sg → Prop} (hP : WP w_Mod_answerTimer P) {σ : Sg}  (h : P σ) : PP P (f_Mod_answerTimer σ ) := by
  unfold f_Mod_answerTimer
  refine ite_z (fun _ => ?_) (fun _ => ?_)
  · refine ite_z (fun _ => ?_) (fun _ => ?_)
    · exact p_Mod_answerTimer_26 (wsub hP rfl) h
    · exact p_Mod_answerTimer_26 (wsub hP rfl) h
  · exact p_Mod_answerTimer_29 (wsub hP rfl) h
set_option maxRecDepth 100000 in
set_option maxHeartbeats 4000000 in
theorem s_Mod_answerTimer {l : Launch} {ad : Nat → Nat} {D : va_G} {cI : ClassId} {σ : Sg}  {K : Option Value → Sg → Prop}   (hK : KI K (f_Mod_answerTimer σ )) : MetJ l ad D cI mi_Mod_answerTimer [.ref 15] σ K := by
  refine met_of mi_Mod_answerTimer pt_Mod pt_Mod_in rfl pl_Mod rfl (Nat.le_of_ble_eq_true rfl) fun X hX => ?_
  have hX : Cl l ad D cI mi_Mod_answerTimer pt_Mod K X := hX
  show X 0 [.ref 15, .null] [] σ
  unfold f_Mod_answerTimer at hK
  refine hX.1 25 I_Mod_answerTimer_0 ok_Mod_answerTimer_0 _ _ _ ?_
  refine And.intro (fun h1 => ?_) (fun h1 => ?_)
  · have hK := ite_p hK h1
    refine And.intro (fun h2 => ?_) (fun h2 => ?_)
    · have hK := ite_p hK h2
      refine hX.1 26 I_Mod_answerTimer_25 ok_Mod_answerTimer_25 _ _ _ ?_
      exact b_Mod_answerTimer_26 hX  hK
    · have hK := ite_n hK h2
      exact b_Mod_answerTimer_26 hX  hK
  · have hK := ite_n hK h1
    exact b_Mod_answerTimer_29 hX  hK
def I_Mod_request_0 : List IT := [(0, .aload_n 0, 1, 0, 0, []), (1, .aload_n 0, 1, 0, 0, []), (2, .getfield 135, 3, 0, 0, []), (5, .iconst 1, 1, 1, 0, []), (6, .iload_n 1, 1, 0, 0, []), (7, .ishl, 1, 0, 0, []), (8, .ior, 1, 0, 0, []), (9, .putfield 135, 3, 0, 0, []), (12, .return_, 1, 0, 0, [])]
theorem ok_Mod_request_0 : blkOK b_Mod_request pt_Mod 13 I_Mod_request_0 = true := by decide +kernel
def f_Mod_request (σ : Sg) (a1 : Int32) : Sg := (bnd (up2 σ 15 17 ((σ 15 17) ||| ((1 : Int32) <<< (a1 &&& 31 : Int32)))) fun s1 => s1)
abbrev w_Mod_request : List (Nat × Option Nat) := [(15, some 17)]
theorem p_Mod_request {P : Sg → Prop} (hP : WP w_Mod_request P) {σ : Sg} {a1 : Int32} (h : P σ) : P (f_Mod_request σ a1) := by
  unfold f_Mod_request
  refine bnd_zz (Z := P) (hP _ _ _ _ (Or.inr (by decide)) h) fun s1 e1 q1 => ?_
  exact q1
set_option maxRecDepth 100000 in
set_option maxHeartbeats 4000000 in
theorem s_Mod_request {l : Launch} {ad : Nat → Nat} {D : va_G} {cI : ClassId} {σ : Sg} {a1 : Int32} {K : Option Value → Sg → Prop}   (hK : KV K (f_Mod_request σ a1)) : MetJ l ad D cI mi_Mod_request [.ref 15, .int a1] σ K := by
  refine met_of mi_Mod_request pt_Mod pt_Mod_in rfl pl_Mod rfl (Nat.le_of_ble_eq_true rfl) fun X hX => ?_
  have hX : Cl l ad D cI mi_Mod_request pt_Mod K X := hX
  show X 0 [.ref 15, .int a1] [] σ
  unfold f_Mod_request at hK
  refine hX.1 13 I_Mod_request_0 ok_Mod_request_0 _ _ _ ?_
  refine And.intro trivial (SG_g hK fun s1 e1 hK => ?_)
  exact hK
