def I_Dec_nextByte_0 : List IT := [(0, .aload_n 0, 1, 0, 0, []), (1, .getfield 7, 3, 0, 0, []), (4, .aload_n 0, 1, 0, 0, []), (5, .getfield 13, 3, 0, 0, []), (8, .getfield 39, 3, 0, 0, []), (11, .iconst 1, 1, 1, 0, []), (12, .iaload, 1, 0, 0, []), (13, .aload_n 0, 1, 0, 0, []), (14, .getfield 13, 3, 0, 0, []), (17, .getfield 17, 3, 0, 0, []), (20, .iconst 0, 1, 0, 0, []), (21, .invokevirtual 43, 3, 0, 0, []), (24, .istore_n 1, 1, 0, 0, []), (25, .aload_n 0, 1, 0, 0, []), (26, .getfield 13, 3, 0, 0, []), (29, .aload_n 0, 1, 0, 0, []), (30, .getfield 13, 3, 0, 0, []), (33, .getfield 17, 3, 0, 0, []), (36, .iconst 1, 1, 1, 0, []), (37, .iadd, 1, 0, 0, []), (38, .ldc 49, 2, 65535, 0, []), (40, .iand, 1, 0, 0, []), (41, .putfield 17, 3, 0, 0, []), (44, .iload_n 1, 1, 0, 0, []), (45, .ireturn, 1, 0, 0, [])]
theorem ok_Dec_nextByte_0 : blkOK b_Dec_nextByte pt_Dec 46 I_Dec_nextByte_0 = true := by decide +kernel
def f_Dec_nextByte (σ : Sg)  : Int32 × Sg := (bnd (f_Mem_fetch σ (σ 5 (Int32.toNatClampNeg (1 : Int32))) (σ 3 2) (0 : Int32)) fun r1 => bnd (up2 r1.2 3 2 (((r1.2 3 2) + (1 : Int32)) &&& (65535 : Int32))) fun s2 => (r1.1, s2))
abbrev w_Dec_nextByte : List (Nat × Option Nat) := [(3, some 2)]
theorem p_Dec_nextByte {P : Sg → Prop} (hP : WP w_Dec_nextByte P) {σ : Sg}  (h : P σ) : PP P (f_Dec_nextByte σ ) := by
  unfold f_Dec_nextByte
  refine bnd_zz (Z := PP P) (p_Mem_fetch (wsub hP rfl) h) fun r1 e1 q1 => ?_
  refine bnd_zz (Z := P) (hP _ _ _ _ (Or.inr (by decide)) q1) fun s2 e2 q2 => ?_
  exact q2
set_option maxRecDepth 100000 in
set_option maxHeartbeats 4000000 in
theorem s_Dec_nextByte {l : Launch} {ad : Nat → Nat} {D : va_G} {cI : ClassId} {σ : Sg}  {K : Option Value → Sg → Prop}   (hK : KI K (f_Dec_nextByte σ )) : MetJ l ad D cI mi_Dec_nextByte [.ref 14] σ K := by
  refine met_of mi_Dec_nextByte pt_Dec pt_Dec_in rfl pl_Dec rfl (Nat.le_of_ble_eq_true rfl) fun X hX => ?_
  have hX : Cl l ad D cI mi_Dec_nextByte pt_Dec K X := hX
  show X 0 [.ref 14, .null] [] σ
  unfold f_Dec_nextByte at hK
  refine hX.1 46 I_Dec_nextByte_0 ok_Dec_nextByte_0 _ _ _ ?_
  refine And.intro (vin (by decide)) ?_
  refine s_Mem_fetch (bnd_g hK fun r1 e1 hK => ?_)
  refine And.intro trivial (SG_g hK fun s2 e2 hK => ?_)
  exact hK
def I_Dec_begin_0 : List IT := [(0, .aload_n 0, 1, 0, 0, []), (1, .aload_n 0, 1, 0, 0, []), (2, .getfield 13, 3, 0, 0, []), (5, .getfield 17, 3, 0, 0, []), (8, .putfield 23, 3, 0, 0, []), (11, .aload_n 0, 1, 0, 0, []), (12, .iconst (-1), 1, (-1), 0, []), (13, .putfield 26, 3, 0, 0, []), (16, .aload_n 0, 1, 0, 0, []), (17, .iconst 0, 1, 0, 0, []), (18, .putfield 29, 3, 0, 0, []), (21, .iconst 0, 1, 0, 0, []), (22, .istore_n 1, 1, 0, 0, [])]
theorem ok_Dec_begin_0 : blkOK b_Dec_begin pt_Dec 23 I_Dec_begin_0 = true := by decide +kernel
def I_Dec_begin_23 : List IT := [(23, .iload_n 1, 1, 0, 0, []), (24, .iconst 3, 1, 3, 0, []), (25, .if_icmp .gt 102, 3, 0, 127, []), (28, .aload_n 0, 1, 0, 0, []), (29, .aload_n 0, 1, 0, 0, []), (30, .invokevirtual 32, 3, 0, 0, []), (33, .putfield 36, 3, 0, 0, []), (36, .aload_n 0, 1, 0, 0, []), (37, .getfield 36, 3, 0, 0, []), (40, .sipush 243, 3, 243, 0, []), (43, .if_icmp .eq 13, 3, 0, 56, []), (46, .aload_n 0, 1, 0, 0, []), (47, .getfield 36, 3, 0, 0, []), (50, .sipush 242, 3, 242, 0, []), (53, .if_icmp .ne 14, 3, 0, 67, [])]
theorem ok_Dec_begin_23 : blkOK b_Dec_begin pt_Dec 56 I_Dec_begin_23 = true := by decide +kernel
def I_Dec_begin_56 : List IT := [(56, .aload_n 0, 1, 0, 0, []), (57, .aload_n 0, 1, 0, 0, []), (58, .getfield 36, 3, 0, 0, []), (61, .putfield 29, 3, 0, 0, []), (64, .goto 57, 3, 0, 121, [])]
theorem ok_Dec_begin_56 : blkOK b_Dec_begin pt_Dec 67 I_Dec_begin_56 = true := by decide +kernel
def I_Dec_begin_67 : List IT := [(67, .aload_n 0, 1, 0, 0, []), (68, .getfield 36, 3, 0, 0, []), (71, .bipush 38, 2, 38, 0, []), (73, .if_icmp .eq 30, 3, 0, 103, []), (76, .aload_n 0, 1, 0, 0, []), (77, .getfield 36, 3, 0, 0, []), (80, .bipush 46, 2, 46, 0, []), (82, .if_icmp .eq 21, 3, 0, 103, []), (85, .aload_n 0, 1, 0, 0, []), (86, .getfield 36, 3, 0, 0, []), (89, .bipush 54, 2, 54, 0, []), (91, .if_icmp .eq 12, 3, 0, 103, []), (94, .aload_n 0, 1, 0, 0, []), (95, .getfield 36, 3, 0, 0, []), (98, .bipush 62, 2, 62, 0, []), (100, .if_icmp .ne 19, 3, 0, 119, [])]
theorem ok_Dec_begin_67 : blkOK b_Dec_begin pt_Dec 103 I_Dec_begin_67 = true := by decide +kernel
def I_Dec_begin_103 : List IT := [(103, .aload_n 0, 1, 0, 0, []), (104, .aload_n 0, 1, 0, 0, []), (105, .getfield 36, 3, 0, 0, []), (108, .bipush 38, 2, 38, 0, []), (110, .isub, 1, 0, 0, []), (111, .iconst 3, 1, 3, 0, []), (112, .ishr, 1, 0, 0, []), (113, .putfield 26, 3, 0, 0, []), (116, .goto 5, 3, 0, 121, [])]
theorem ok_Dec_begin_103 : blkOK b_Dec_begin pt_Dec 119 I_Dec_begin_103 = true := by decide +kernel
def I_Dec_begin_119 : List IT := [(119, .iconst 1, 1, 1, 0, []), (120, .ireturn, 1, 0, 0, [])]
theorem ok_Dec_begin_119 : blkOK b_Dec_begin pt_Dec 121 I_Dec_begin_119 = true := by decide +kernel
def I_Dec_begin_121 : List IT := [(121, .iinc 1 1, 3, 1, 0, []), (124, .goto (-101), 3, 0, 23, [])]
theorem ok_Dec_begin_121 : blkOK b_Dec_begin pt_Dec 127 I_Dec_begin_121 = true := by decide +kernel
def I_Dec_begin_127 : List IT := [(127, .iconst 0, 1, 0, 0, []), (128, .ireturn, 1, 0, 0, [])]
theorem ok_Dec_begin_127 : blkOK b_Dec_begin pt_Dec 129 I_Dec_begin_127 = true := by decide +kernel
def f_Dec_begin_23_c4 (σ : Sg)  : Int32 × Sg := ((0 : Int32), σ)
theorem z_Dec_begin_23_c4 {σ : Sg}    : (f_Dec_begin_23_c4 σ ).1 = 0 ∨ (f_Dec_begin_23_c4 σ ).1 = 1 := by
  show Zb (f_Dec_begin_23_c4 σ )
  unfold f_Dec_begin_23_c4
  exact (Or.inl rfl)
abbrev w_Dec_begin_23_c4 : List (Nat × Option Nat) := []
theorem p_Dec_begin_23_c4 {P : Sg → Prop} (hP : WP w_Dec_begin_23_c4 P) {σ : Sg}  (h : P σ) : PP P (f_Dec_begin_23_c4 σ ) := by
  unfold f_Dec_begin_23_c4
  exact h
set_option maxRecDepth 100000 in
set_option maxHeartbeats 4000000 in
theorem b_Dec_begin_23_c4 {l : Launch} {ad : Nat → Nat} {D : va_G} {cI : ClassId} {K : Option Value → Sg → Prop} {X : Nat → List Value → List Value → Sg → Prop} (hX : Cl l ad D cI mi_Dec_begin pt_Dec K X) {σ : Sg}    (hK : KI K (f_Dec_begin_23_c4 σ )) : X 23 [.ref 14, .int (((((0 : Int32) + (1 : Int32)) + (1 : Int32)) + (1 : Int32)) + (1 : Int32))] [] σ := by
  unfold f_Dec_begin_23_c4 at hK
  refine hX.1 56 I_Dec_begin_23 ok_Dec_begin_23 _ _ _ ?_
  refine And.intro (fun _ => ?_) (fun h => absurd (by decide) h)
  refine hX.1 129 I_Dec_begin_127 ok_Dec_begin_127 _ _ _ ?_
  exact And.intro (Or.inl rfl) hK
def f_Dec_begin_121_c3 (σ : Sg)  : Int32 × Sg := (f_Dec_begin_23_c4 σ)
theorem z_Dec_begin_121_c3 {σ : Sg}    : (f_Dec_begin_121_c3 σ ).1 = 0 ∨ (f_Dec_begin_121_c3 σ ).1 = 1 := by
  show Zb (f_Dec_begin_121_c3 σ )
  unfold f_Dec_begin_121_c3
  exact z_Dec_begin_23_c4  
abbrev w_Dec_begin_121_c3 : List (Nat × Option Nat) := []
theorem p_Dec_begin_121_c3 {P : Sg → Prop} (hP : WP w_Dec_begin_121_c3 P) {σ : Sg}  (h : P σ) : PP P (f_Dec_begin_121_c3 σ ) := by
  unfold f_Dec_begin_121_c3
  exact p_Dec_begin_23_c4 (wsub hP rfl) h
set_option maxRecDepth 100000 in
set_option maxHeartbeats 4000000 in
theorem b_Dec_begin_121_c3 {l : Launch} {ad : Nat → Nat} {D : va_G} {cI : ClassId} {K : Option Value → Sg → Prop} {X : Nat → List Value → List Value → Sg → Prop} (hX : Cl l ad D cI mi_Dec_begin pt_Dec K X) {σ : Sg}    (hK : KI K (f_Dec_begin_121_c3 σ )) : X 121 [.ref 14, .int ((((0 : Int32) + (1 : Int32)) + (1 : Int32)) + (1 : Int32))] [] σ := by
  unfold f_Dec_begin_121_c3 at hK
  refine hX.1 127 I_Dec_begin_121 ok_Dec_begin_121 _ _ _ ?_
  exact b_Dec_begin_23_c4 hX  hK
def f_Dec_begin_56_c3 (σ : Sg)  : Int32 × Sg := (bnd (up2 σ 14 4 (σ 14 3)) fun s1 => (f_Dec_begin_121_c3 s1))
theorem z_Dec_begin_56_c3 {σ : Sg}    : (f_Dec_begin_56_c3 σ ).1 = 0 ∨ (f_Dec_begin_56_c3 σ ).1 = 1 := by
  show Zb (f_Dec_begin_56_c3 σ )
  unfold f_Dec_begin_56_c3
  refine bnd_z fun s1 e1 => ?_
  exact z_Dec_begin_121_c3  
abbrev w_Dec_begin_56_c3 : List (Nat × Option Nat) := [(14, some 4)]
theorem p_Dec_begin_56_c3 {P : Sg → Prop} (hP : WP w_Dec_begin_56_c3 P) {σ : Sg}  (h : P σ) : PP P (f_Dec_begin_56_c3 σ ) := by
  unfold f_Dec_begin_56_c3
  refine bnd_zz (Z := P) (hP _ _ _ _ (Or.inr (by decide)) h) fun s1 e1 q1 => ?_
  exact p_Dec_begin_121_c3 (wsub hP rfl) q1
set_option maxRecDepth 100000 in
set_option maxHeartbeats 4000000 in
theorem b_Dec_begin_56_c3 {l : Launch} {ad : Nat → Nat} {D : va_G} {cI : ClassId} {K : Option Value → Sg → Prop} {X : Nat → List Value → List Value → Sg → Prop} (hX : Cl l ad D cI mi_Dec_begin pt_Dec K X) {σ : Sg}    (hK : KI K (f_Dec_begin_56_c3 σ )) : X 56 [.ref 14, .int ((((0 : Int32) + (1 : Int32)) + (1 : Int32)) + (1 : Int32))] [] σ := by
  unfold f_Dec_begin_56_c3 at hK
  refine hX.1 67 I_Dec_begin_56 ok_Dec_begin_56 _ _ _ ?_
  refine And.intro trivial (SG_g hK fun s1 e1 hK => ?_)
  exact b_Dec_begin_121_c3 hX  hK
def f_Dec_begin_103_c3 (σ : Sg)  : Int32 × Sg := (bnd (up2 σ 14 8 (((σ 14 3) - (38 : Int32)) >>> ((3 : Int32) &&& 31 : Int32))) fun s1 => (f_Dec_begin_121_c3 s1))
theorem z_Dec_begin_103_c3 {σ : Sg}    : (f_Dec_begin_103_c3 σ ).1 = 0 ∨ (f_Dec_begin_103_c3 σ ).1 = 1 := by
  show Zb (f_Dec_begin_103_c3 σ )
  unfold f_Dec_begin_103_c3
  refine bnd_z fun s1 e1 => ?_
  exact z_Dec_begin_121_c3  
abbrev w_Dec_begin_103_c3 : List (Nat × Option Nat) := [(14, some 8)]
theorem p_Dec_begin_103_c3 {P : Sg → Prop} (hP : WP w_Dec_begin_103_c3 P) {σ : Sg}  (h : P σ) : PP P (f_Dec_begin_103_c3 σ ) := by
  unfold f_Dec_begin_103_c3
  refine bnd_zz (Z := P) (hP _ _ _ _ (Or.inr (by decide)) h) fun s1 e1 q1 => ?_
  exact p_Dec_begin_121_c3 (wsub hP rfl) q1
set_option maxRecDepth 100000 in
set_option maxHeartbeats 4000000 in
theorem b_Dec_begin_103_c3 {l : Launch} {ad : Nat → Nat} {D : va_G} {cI : ClassId} {K : Option Value → Sg → Prop} {X : Nat → List Value → List Value → Sg → Prop} (hX : Cl l ad D cI mi_Dec_begin pt_Dec K X) {σ : Sg}    (hK : KI K (f_Dec_begin_103_c3 σ )) : X 103 [.ref 14, .int ((((0 : Int32) + (1 : Int32)) + (1 : Int32)) + (1 : Int32))] [] σ := by
  unfold f_Dec_begin_103_c3 at hK
  refine hX.1 119 I_Dec_begin_103 ok_Dec_begin_103 _ _ _ ?_
  refine And.intro trivial (SG_g hK fun s1 e1 hK => ?_)
  exact b_Dec_begin_121_c3 hX  hK
def f_Dec_begin_23_c3 (σ : Sg)  : Int32 × Sg := (bnd (f_Dec_nextByte σ) fun r1 => bnd (up2 r1.2 14 3 r1.1) fun s2 => (if (s2 14 3) = (243 : Int32) then (f_Dec_begin_56_c3 s2) else (if (s2 14 3) = (242 : Int32) then (f_Dec_begin_56_c3 s2) else (if (s2 14 3) = (38 : Int32) then (f_Dec_begin_103_c3 s2) else (if (s2 14 3) = (46 : Int32) then (f_Dec_begin_103_c3 s2) else (if (s2 14 3) = (54 : Int32) then (f_Dec_begin_103_c3 s2) else (if (s2 14 3) = (62 : Int32) then (f_Dec_begin_103_c3 s2) else ((1 : Int32), s2))))))))
theorem z_Dec_begin_23_c3 {σ : Sg}    : (f_Dec_begin_23_c3 σ ).1 = 0 ∨ (f_Dec_begin_23_c3 σ ).1 = 1 := by
  show Zb (f_Dec_begin_23_c3 σ )
  unfold f_Dec_begin_23_c3
  refine bnd_z fun r1 e1 => ?_
  refine bnd_z fun s2 e2 => ?_
  refine ite_z (fun h3 => ?_) (fun h3 => ?_)
  · exact z_Dec_begin_56_c3
  · refine ite_z (fun h4 => ?_) (fun h4 => ?_)
    · exact z_Dec_begin_56_c3
    · refine ite_z (fun h5 => ?_) (fun h5 => ?_)
      · exact z_Dec_begin_103_c3
      · refine ite_z (fun h6 => ?_) (fun h6 => ?_)
        · exact z_Dec_begin_103_c3
        · refine ite_z (fun h7 => ?_) (fun h7 => ?_)
          · exact z_Dec_begin_103_c3
          · refine ite_z (fun h8 => ?_) (fun h8 => ?_)
            · exact z_Dec_begin_103_c3
            · exact (Or.inr rfl)
abbrev w_Dec_begin_23_c3 : List (Nat × Option Nat) := [(3, some 2), (14, some 3), (14, some 4), (14, some 8)]
theorem p_Dec_begin_23_c3 {P : Sg → Prop} (hP : WP w_Dec_begin_23_c3 P) {σ : Sg}  (h : P σ) : PP P (f_Dec_begin_23_c3 σ ) := by
  unfold f_Dec_begin_23_c3
  refine bnd_zz (Z := PP P) (p_Dec_nextByte (wsub hP rfl) h) fun r1 e1 q1 => ?_
  refine bnd_zz (Z := P) (hP _ _ _ _ (Or.inr (by decide)) q1) fun s2 e2 q2 => ?_
  refine ite_z (fun _ => ?_) (fun _ => ?_)
  · exact p_Dec_begin_56_c3 (wsub hP rfl) q2
  · refine ite_z (fun _ => ?_) (fun _ => ?_)
    · exact p_Dec_begin_56_c3 (wsub hP rfl) q2
    · refine ite_z (fun _ => ?_) (fun _ => ?_)
      · exact p_Dec_begin_103_c3 (wsub hP rfl) q2
      · refine ite_z (fun _ => ?_) (fun _ => ?_)
        · exact p_Dec_begin_103_c3 (wsub hP rfl) q2
        · refine ite_z (fun _ => ?_) (fun _ => ?_)
          · exact p_Dec_begin_103_c3 (wsub hP rfl) q2
          · refine ite_z (fun _ => ?_) (fun _ => ?_)
            · exact p_Dec_begin_103_c3 (wsub hP rfl) q2
            · exact q2
set_option maxRecDepth 100000 in
set_option maxHeartbeats 4000000 in
theorem b_Dec_begin_23_c3 {l : Launch} {ad : Nat → Nat} {D : va_G} {cI : ClassId} {K : Option Value → Sg → Prop} {X : Nat → List Value → List Value → Sg → Prop} (hX : Cl l ad D cI mi_Dec_begin pt_Dec K X) {σ : Sg}    (hK : KI K (f_Dec_begin_23_c3 σ )) : X 23 [.ref 14, .int ((((0 : Int32) + (1 : Int32)) + (1 : Int32)) + (1 : Int32))] [] σ := by
  unfold f_Dec_begin_23_c3 at hK
  refine hX.1 56 I_Dec_begin_23 ok_Dec_begin_23 _ _ _ ?_
  refine And.intro (fun h => absurd h (by decide)) (fun _ => ?_)
  refine s_Dec_nextByte (bnd_g hK fun r1 e1 hK => ?_)
  refine And.intro trivial (SG_g hK fun s2 e2 hK => ?_)
  refine And.intro (fun h3 => ?_) (fun h3 => ?_)
  · have hK := ite_p hK h3
    exact b_Dec_begin_56_c3 hX  hK
  · have hK := ite_n hK h3
    refine And.intro (fun h4 => ?_) (fun h4 => ?_)
    · have hK := ite_p hK h4
      exact b_Dec_begin_56_c3 hX  hK
    · have hK := ite_n hK h4
      refine hX.1 103 I_Dec_begin_67 ok_Dec_begin_67 _ _ _ ?_
      refine And.intro (fun h5 => ?_) (fun h5 => ?_)
      · have hK := ite_p hK h5
        exact b_Dec_begin_103_c3 hX  hK
      · have hK := ite_n hK h5
        refine And.intro (fun h6 => ?_) (fun h6 => ?_)
        · have hK := ite_p hK h6
          exact b_Dec_begin_103_c3 hX  hK
        · have hK := ite_n hK h6
          refine And.intro (fun h7 => ?_) (fun h7 => ?_)
          · have hK := ite_p hK h7
            exact b_Dec_begin_103_c3 hX  hK
          · have hK := ite_n hK h7
            refine And.intro (fun h8 => ?_) (fun h8 => ?_)
            · have hK := ite_p hK h8
              exact b_Dec_begin_103_c3 hX  hK
            · have hK := ite_n hK h8
              refine hX.1 121 I_Dec_begin_119 ok_Dec_begin_119 _ _ _ ?_
              exact And.intro (Or.inr rfl) hK
def f_Dec_begin_121_c2 (σ : Sg)  : Int32 × Sg := (f_Dec_begin_23_c3 σ)
theorem z_Dec_begin_121_c2 {σ : Sg}    : (f_Dec_begin_121_c2 σ ).1 = 0 ∨ (f_Dec_begin_121_c2 σ ).1 = 1 := by
  show Zb (f_Dec_begin_121_c2 σ )
  unfold f_Dec_begin_121_c2
  exact z_Dec_begin_23_c3  
abbrev w_Dec_begin_121_c2 : List (Nat × Option Nat) := [(3, some 2), (14, some 3), (14, some 4), (14, some 8)]
theorem p_Dec_begin_121_c2 {P : Sg → Prop} (hP : WP w_Dec_begin_121_c2 P) {σ : Sg}  (h : P σ) : PP P (f_Dec_begin_121_c2 σ ) := by
  unfold f_Dec_begin_121_c2
  exact p_Dec_begin_23_c3 (wsub hP rfl) h
set_option maxRecDepth 100000 in
set_option maxHeartbeats 4000000 in
theorem b_Dec_begin_121_c2 {l : Launch} {ad : Nat → Nat} {D : va_G} {cI : ClassId} {K : Option Value → Sg → Prop} {X : Nat → List Value → List Value → Sg → Prop} (hX : Cl l ad D cI mi_Dec_begin pt_Dec K X) {σ : Sg}    (hK : KI K (f_Dec_begin_121_c2 σ )) : X 121 [.ref 14, .int (((0 : Int32) + (1 : Int32)) + (1 : Int32))] [] σ := by
  unfold f_Dec_begin_121_c2 at hK
  refine hX.1 127 I_Dec_begin_121 ok_Dec_begin_121 _ _ _ ?_
  exact b_Dec_begin_23_c3 hX  hK
def f_Dec_begin_56_c2 (σ : Sg)  : Int32 × Sg := (bnd (up2 σ 14 4 (σ 14 3)) fun s1 => (f_Dec_begin_121_c2 s1))
theorem z_Dec_begin_56_c2 {σ : Sg}    : (f_Dec_begin_56_c2 σ ).1 = 0 ∨ (f_Dec_begin_56_c2 σ ).1 = 1 := by
  show Zb (f_Dec_begin_56_c2 σ )
  unfold f_Dec_begin_56_c2
  refine bnd_z fun s1 e1 => ?_
  exact z_Dec_begin_121_c2  
abbrev w_Dec_begin_56_c2 : List (Nat × Option Nat) := [(3, some 2), (14, some 3), (14, some 4), (14, some 8)]
theorem p_Dec_begin_56_c2 {P : Sg → Prop} (hP : WP w_Dec_begin_56_c2 P) {σ : Sg}  (h : P σ) : PP P (f_Dec_begin_56_c2 σ ) := by
  unfold f_Dec_begin_56_c2
  refine bnd_zz (Z := P) (hP _ _ _ _ (Or.inr (by decide)) h) fun s1 e1 q1 => ?_
  exact p_Dec_begin_121_c2 (wsub hP rfl) q1
set_option maxRecDepth 100000 in
set_option maxHeartbeats 4000000 in
theorem b_Dec_begin_56_c2 {l : Launch} {ad : Nat → Nat} {D : va_G} {cI : ClassId} {K : Option Value → Sg → Prop} {X : Nat → List Value → List Value → Sg → Prop} (hX : Cl l ad D cI mi_Dec_begin pt_Dec K X) {σ : Sg}    (hK : KI K (f_Dec_begin_56_c2 σ )) : X 56 [.ref 14, .int (((0 : Int32) + (1 : Int32)) + (1 : Int32))] [] σ := by
  unfold f_Dec_begin_56_c2 at hK
  refine hX.1 67 I_Dec_begin_56 ok_Dec_begin_56 _ _ _ ?_
  refine And.intro trivial (SG_g hK fun s1 e1 hK => ?_)
  exact b_Dec_begin_121_c2 hX  hK
def f_Dec_begin_103_c2 (σ : Sg)  : Int32 × Sg := (bnd (up2 σ 14 8 (((σ 14 3) - (38 : Int32)) >>> ((3 : Int32) &&& 31 : Int32))) fun s1 => (f_Dec_begin_121_c2 s1))
theorem z_Dec_begin_103_c2 {σ : Sg}    : (f_Dec_begin_103_c2 σ ).1 = 0 ∨ (f_Dec_begin_103_c2 σ ).1 = 1 := by
  show Zb (f_Dec_begin_103_c2 σ )
  unfold f_Dec_begin_103_c2
  refine bnd_z fun s1 e1 => ?_
  exact z_Dec_begin_121_c2  
abbrev w_Dec_begin_103_c2 : List (Nat × Option Nat) := [(3, some 2), (14, some 3), (14, some 4), (14, some 8)]
theorem p_Dec_begin_103_c2 {P : Sg → Prop} (hP : WP w_Dec_begin_103_c2 P) {σ : Sg}  (h : P σ) : PP P (f_Dec_begin_103_c2 σ ) := by
  unfold f_Dec_begin_103_c2
  refine bnd_zz (Z := P) (hP _ _ _ _ (Or.inr (by decide)) h) fun s1 e1 q1 => ?_
  exact p_Dec_begin_121_c2 (wsub hP rfl) q1
set_option maxRecDepth 100000 in
set_option maxHeartbeats 4000000 in
theorem b_Dec_begin_103_c2 {l : Launch} {ad : Nat → Nat} {D : va_G} {cI : ClassId} {K : Option Value → Sg → Prop} {X : Nat → List Value → List Value → Sg → Prop} (hX : Cl l ad D cI mi_Dec_begin pt_Dec K X) {σ : Sg}    (hK : KI K (f_Dec_begin_103_c2 σ )) : X 103 [.ref 14, .int (((0 : Int32) + (1 : Int32)) + (1 : Int32))] [] σ := by
  unfold f_Dec_begin_103_c2 at hK
  refine hX.1 119 I_Dec_begin_103 ok_Dec_begin_103 _ _ _ ?_
  refine And.intro trivial (SG_g hK fun s1 e1 hK => ?_)
  exact b_Dec_begin_121_c2 hX  hK
def f_Dec_begin_23_c2 (σ : Sg)  : Int32 × Sg := (bnd (f_Dec_nextByte σ) fun r1 => bnd (up2 r1.2 14 3 r1.1) fun s2 => (if (s2 14 3) = (243 : Int32) then (f_Dec_begin_56_c2 s2) else (if (s2 14 3) = (242 : Int32) then (f_Dec_begin_56_c2 s2) else (if (s2 14 3) = (38 : Int32) then (f_Dec_begin_103_c2 s2) else (if (s2 14 3) = (46 : Int32) then (f_Dec_begin_103_c2 s2) else (if (s2 14 3) = (54 : Int32) then (f_Dec_begin_103_c2 s2) else (if (s2 14 3) = (62 : Int32) then (f_Dec_begin_103_c2 s2) else ((1 : Int32), s2))))))))
theorem z_Dec_begin_23_c2 {σ : Sg}    : (f_Dec_begin_23_c2 σ ).1 = 0 ∨ (f_Dec_begin_23_c2 σ ).1 = 1 := by
  show Zb (f_Dec_begin_23_c2 σ )
  unfold f_Dec_begin_23_c2
  refine bnd_z fun r1 e1 => ?_
  refine bnd_z fun s2 e2 => ?_
  refine ite_z (fun h3 => ?_) (fun h3 => ?_)
  · exact z_Dec_begin_56_c2
  · refine ite_z (fun h4 => ?_) (fun h4 => ?_)
    · exact z_Dec_begin_56_c2
    · refine ite_z (fun h5 => ?_) (fun h5 => ?_)
      · exact z_Dec_begin_103_c2
      · refine ite_z (fun h6 => ?_) (fun h6 => ?_)
        · exact z_Dec_begin_103_c2
        · refine ite_z (fun h7 => ?_) (fun h7 => ?_)
          · exact z_Dec_begin_103_c2
          · refine ite_z (fun h8 => ?_) (fun h8 => ?_)
            · exact z_Dec_begin_103_c2
            · exact (Or.inr rfl)
abbrev w_Dec_begin_23_c2 : List (Nat × Option Nat) := [(3, some 2), (14, some 3), (14, some 4), (14, some 8)]
theorem p_Dec_begin_23_c2 {P : Sg → Prop} (hP : WP w_Dec_begin_23_c2 P) {σ : Sg}  (h : P σ) : PP P (f_Dec_begin_23_c2 σ ) := by
  unfold f_Dec_begin_23_c2
  refine bnd_zz (Z := PP P) (p_Dec_nextByte (wsub hP rfl) h) fun r1 e1 q1 => ?_
  refine bnd_zz (Z := P) (hP _ _ _ _ (Or.inr (by decide)) q1) fun s2 e2 q2 => ?_
  refine ite_z (fun _ => ?_) (fun _ => ?_)
  · exact p_Dec_begin_56_c2 (wsub hP rfl) q2
  · refine ite_z (fun _ => ?_) (fun _ => ?_)
    · exact p_Dec_begin_56_c2 (wsub hP rfl) q2
    · refine ite_z (fun _ => ?_) (fun _ => ?_)
      · exact p_Dec_begin_103_c2 (wsub hP rfl) q2
      · refine ite_z (fun _ => ?_) (fun _ => ?_)
        · exact p_Dec_begin_103_c2 (wsub hP rfl) q2
        · refine ite_z (fun _ => ?_) (fun _ => ?_)
          · exact p_Dec_begin_103_c2 (wsub hP rfl) q2
          · refine ite_z (fun _ => ?_) (fun _ => ?_)
            · exact p_Dec_begin_103_c2 (wsub hP rfl) q2
            · exact q2
set_option maxRecDepth 100000 in
set_option maxHeartbeats 4000000 in
theorem b_Dec_begin_23_c2 {l : Launch} {ad : Nat → Nat} {D : va_G} {cI : ClassId} {K : Option Value → Sg → Prop} {X : Nat → List Value → List Value → Sg → Prop} (hX : Cl l ad D cI mi_Dec_begin pt_Dec K X) {σ : Sg}    (hK : KI K (f_Dec_begin_23_c2 σ )) : X 23 [.ref 14, .int (((0 : Int32) + (1 : Int32)) + (1 : Int32))] [] σ := by
  unfold f_Dec_begin_23_c2 at hK
  refine hX.1 56 I_Dec_begin_23 ok_Dec_begin_23 _ _ _ ?_
  refine And.intro (fun h => absurd h (by decide)) (fun _ => ?_)
  refine s_Dec_nextByte (bnd_g hK fun r1 e1 hK => ?_)
  refine And.intro trivial (SG_g hK fun s2 e2 hK => ?_)
  refine And.intro (fun h3 => ?_) (fun h3 => ?_)
  · have hK := ite_p hK h3
    exact b_Dec_begin_56_c2 hX  hK
  · have hK := ite_n hK h3
    refine And.intro (fun h4 => ?_) (fun h4 => ?_)
    · have hK := ite_p hK h4
      exact b_Dec_begin_56_c2 hX  hK
    · have hK := ite_n hK h4
      refine hX.1 103 I_Dec_begin_67 ok_Dec_begin_67 _ _ _ ?_
      refine And.intro (fun h5 => ?_) (fun h5 => ?_)
      · have hK := ite_p hK h5
        exact b_Dec_begin_103_c2 hX  hK
      · have hK := ite_n hK h5
        refine And.intro (fun h6 => ?_) (fun h6 => ?_)
        · have hK := ite_p hK h6
          exact b_Dec_begin_103_c2 hX  hK
        · have hK := ite_n hK h6
          refine And.intro (fun h7 => ?_) (fun h7 => ?_)
          · have hK := ite_p hK h7
            exact b_Dec_begin_103_c2 hX  hK
          · have hK := ite_n hK h7
            refine And.intro (fun h8 => ?_) (fun h8 => ?_)
            · have hK := ite_p hK h8
              exact b_Dec_begin_103_c2 hX  hK
            · have hK := ite_n hK h8
              refine hX.1 121 I_Dec_begin_119 ok_Dec_begin_119 _ _ _ ?_
              exact And.intro (Or.inr rfl) hK
def f_Dec_begin_121_c1 (σ : Sg)  : Int32 × Sg := (f_Dec_begin_23_c2 σ)
theorem z_Dec_begin_121_c1 {σ : Sg}    : (f_Dec_begin_121_c1 σ ).1 = 0 ∨ (f_Dec_begin_121_c1 σ ).1 = 1 := by
  show Zb (f_Dec_begin_121_c1 σ )
  unfold f_Dec_begin_121_c1
  exact z_Dec_begin_23_c2  
abbrev w_Dec_begin_121_c1 : List (Nat × Option Nat) := [(3, some 2), (14, some 3), (14, some 4), (14, some 8)]
theorem p_Dec_begin_121_c1 {P : Sg → Prop} (hP : WP w_Dec_begin_121_c1 P) {σ : Sg}  (h : P σ) : PP P (f_Dec_begin_121_c1 σ ) := by
  unfold f_Dec_begin_121_c1
  exact p_Dec_begin_23_c2 (wsub hP rfl) h
set_option maxRecDepth 100000 in
set_option maxHeartbeats 4000000 in
theorem b_Dec_begin_121_c1 {l : Launch} {ad : Nat → Nat} {D : va_G} {cI : ClassId} {K : Option Value → Sg → Prop} {X : Nat → List Value → List Value → Sg → Prop} (hX : Cl l ad D cI mi_Dec_begin pt_Dec K X) {σ : Sg}    (hK : KI K (f_Dec_begin_121_c1 σ )) : X 121 [.ref 14, .int ((0 : Int32) + (1 : Int32))] [] σ := by
  unfold f_Dec_begin_121_c1 at hK
  refine hX.1 127 I_Dec_begin_121 ok_Dec_begin_121 _ _ _ ?_
  exact b_Dec_begin_23_c2 hX  hK
def f_Dec_begin_56_c1 (σ : Sg)  : Int32 × Sg := (bnd (up2 σ 14 4 (σ 14 3)) fun s1 => (f_Dec_begin_121_c1 s1))
theorem z_Dec_begin_56_c1 {σ : Sg}    : (f_Dec_begin_56_c1 σ ).1 = 0 ∨ (f_Dec_begin_56_c1 σ ).1 = 1 := by
  show Zb (f_Dec_begin_56_c1 σ )
  unfold f_Dec_begin_56_c1
  refine bnd_z fun s1 e1 => ?_
  exact z_Dec_begin_121_c1  
abbrev w_Dec_begin_56_c1 : List (Nat × Option Nat) := [(3, some 2), (14, some 3), (14, some 4), (14, some 8)]
theorem p_Dec_begin_56_c1 {P : Sg → Prop} (hP : WP w_Dec_begin_56_c1 P) {σ : Sg}  (h : P σ) : PP P (f_Dec_begin_56_c1 σ ) := by
  unfold f_Dec_begin_56_c1
  refine bnd_zz (Z := P) (hP _ _ _ _ (Or.inr (by decide)) h) fun s1 e1 q1 => ?_
  exact p_Dec_begin_121_c1 (wsub hP rfl) q1
set_option maxRecDepth 100000 in
set_option maxHeartbeats 4000000 in
theorem b_Dec_begin_56_c1 {l : Launch} {ad : Nat → Nat} {D : va_G} {cI : ClassId} {K : Option Value → Sg → Prop} {X : Nat → List Value → List Value → Sg → Prop} (hX : Cl l ad D cI mi_Dec_begin pt_Dec K X) {σ : Sg}    (hK : KI K (f_Dec_begin_56_c1 σ )) : X 56 [.ref 14, .int ((0 : Int32) + (1 : Int32))] [] σ := by
  unfold f_Dec_begin_56_c1 at hK
  refine hX.1 67 I_Dec_begin_56 ok_Dec_begin_56 _ _ _ ?_
  refine And.intro trivial (SG_g hK fun s1 e1 hK => ?_)
  exact b_Dec_begin_121_c1 hX  hK
def f_Dec_begin_103_c1 (σ : Sg)  : Int32 × Sg := (bnd (up2 σ 14 8 (((σ 14 3) - (38 : Int32)) >>> ((3 : Int32) &&& 31 : Int32))) fun s1 => (f_Dec_begin_121_c1 s1))
theorem z_Dec_begin_103_c1 {σ : Sg}    : (f_Dec_begin_103_c1 σ ).1 = 0 ∨ (f_Dec_begin_103_c1 σ ).1 = 1 := by
  show Zb (f_Dec_begin_103_c1 σ )
  unfold f_Dec_begin_103_c1
  refine bnd_z fun s1 e1 => ?_
  exact z_Dec_begin_121_c1  
abbrev w_Dec_begin_103_c1 : List (Nat × Option Nat) := [(3, some 2), (14, some 3), (14, some 4), (14, some 8)]
theorem p_Dec_begin_103_c1 {P : Sg → Prop} (hP : WP w_Dec_begin_103_c1 P) {σ : Sg}  (h : P σ) : PP P (f_Dec_begin_103_c1 σ ) := by
  unfold f_Dec_begin_103_c1
  refine bnd_zz (Z := P) (hP _ _ _ _ (Or.inr (by decide)) h) fun s1 e1 q1 => ?_
  exact p_Dec_begin_121_c1 (wsub hP rfl) q1
set_option maxRecDepth 100000 in
set_option maxHeartbeats 4000000 in
theorem b_Dec_begin_103_c1 {l : Launch} {ad : Nat → Nat} {D : va_G} {cI : ClassId} {K : Option Value → Sg → Prop} {X : Nat → List Value → List Value → Sg → Prop} (hX : Cl l ad D cI mi_Dec_begin pt_Dec K X) {σ : Sg}    (hK : KI K (f_Dec_begin_103_c1 σ )) : X 103 [.ref 14, .int ((0 : Int32) + (1 : Int32))] [] σ := by
  unfold f_Dec_begin_103_c1 at hK
  refine hX.1 119 I_Dec_begin_103 ok_Dec_begin_103 _ _ _ ?_
  refine And.intro trivial (SG_g hK fun s1 e1 hK => ?_)
  exact b_Dec_begin_121_c1 hX  hK
def f_Dec_begin_23_c1 (σ : Sg)  : Int32 × Sg := (bnd (f_Dec_nextByte σ) fun r1 => bnd (up2 r1.2 14 3 r1.1) fun s2 => (if (s2 14 3) = (243 : Int32) then (f_Dec_begin_56_c1 s2) else (if (s2 14 3) = (242 : Int32) then (f_Dec_begin_56_c1 s2) else (if (s2 14 3) = (38 : Int32) then (f_Dec_begin_103_c1 s2) else (if (s2 14 3) = (46 : Int32) then (f_Dec_begin_103_c1 s2) else (if (s2 14 3) = (54 : Int32) then (f_Dec_begin_103_c1 s2) else (if (s2 14 3) = (62 : Int32) then (f_Dec_begin_103_c1 s2) else ((1 : Int32), s2))))))))
theorem z_Dec_begin_23_c1 {σ : Sg}    : (f_Dec_begin_23_c1 σ ).1 = 0 ∨ (f_Dec_begin_23_c1 σ ).1 = 1 := by
  show Zb (f_Dec_begin_23_c1 σ )
  unfold f_Dec_begin_23_c1
  refine bnd_z fun r1 e1 => ?_
  refine bnd_z fun s2 e2 => ?_
  refine ite_z (fun h3 => ?_) (fun h3 => ?_)
  · exact z_Dec_begin_56_c1
  · refine ite_z (fun h4 => ?_) (fun h4 => ?_)
    · exact z_Dec_begin_56_c1
    · refine ite_z (fun h5 => ?_) (fun h5 => ?_)
      · exact z_Dec_begin_103_c1
      · refine ite_z (fun h6 => ?_) (fun h6 => ?_)
        · exact z_Dec_begin_103_c1
        · refine ite_z (fun h7 => ?_) (fun h7 => ?_)
          · exact z_Dec_begin_103_c1
          · refine ite_z (fun h8 => ?_) (fun h8 => ?_)
            · exact z_Dec_begin_103_c1
            · exact (Or.inr rfl)
abbrev w_Dec_begin_23_c1 : List (Nat × Option Nat) := [(3, some 2), (14, some 3), (14, some 4), (14, some 8)]
theorem p_Dec_begin_23_c1 {P : Sg → Prop} (hP : WP w_Dec_begin_23_c1 P) {σ : Sg}  (h : P σ) : PP P (f_Dec_begin_23_c1 σ ) := by
  unfold f_Dec_begin_23_c1
  refine bnd_zz (Z := PP P) (p_Dec_nextByte (wsub hP rfl) h) fun r1 e1 q1 => ?_
  refine bnd_zz (Z := P) (hP _ _ _ _ (Or.inr (by decide)) q1) fun s2 e2 q2 => ?_
  refine ite_z (fun _ => ?_) (fun _ => ?_)
  · exact p_Dec_begin_56_c1 (wsub hP rfl) q2
  · refine ite_z (fun _ => ?_) (fun _ => ?_)
    · exact p_Dec_begin_56_c1 (wsub hP rfl) q2
    · refine ite_z (fun _ => ?_) (fun _ => ?_)
      · exact p_Dec_begin_103_c1 (wsub hP rfl) q2
      · refine ite_z (fun _ => ?_) (fun _ => ?_)
        · exact p_Dec_begin_103_c1 (wsub hP rfl) q2
        · refine ite_z (fun _ => ?_) (fun _ => ?_)
          · exact p_Dec_begin_103_c1 (wsub hP rfl) q2
          · refine ite_z (fun _ => ?_) (fun _ => ?_)
            · exact p_Dec_begin_103_c1 (wsub hP rfl) q2
            · exact q2
set_option maxRecDepth 100000 in
set_option maxHeartbeats 4000000 in
theorem b_Dec_begin_23_c1 {l : Launch} {ad : Nat → Nat} {D : va_G} {cI : ClassId} {K : Option Value → Sg → Prop} {X : Nat → List Value → List Value → Sg → Prop} (hX : Cl l ad D cI mi_Dec_begin pt_Dec K X) {σ : Sg}    (hK : KI K (f_Dec_begin_23_c1 σ )) : X 23 [.ref 14, .int ((0 : Int32) + (1 : Int32))] [] σ := by
  unfold f_Dec_begin_23_c1 at hK
  refine hX.1 56 I_Dec_begin_23 ok_Dec_begin_23 _ _ _ ?_
  refine And.intro (fun h => absurd h (by decide)) (fun _ => ?_)
  refine s_Dec_nextByte (bnd_g hK fun r1 e1 hK => ?_)
  refine And.intro trivial (SG_g hK fun s2 e2 hK => ?_)
  refine And.intro (fun h3 => ?_) (fun h3 => ?_)
  · have hK := ite_p hK h3
    exact b_Dec_begin_56_c1 hX  hK
  · have hK := ite_n hK h3
    refine And.intro (fun h4 => ?_) (fun h4 => ?_)
    · have hK := ite_p hK h4
      exact b_Dec_begin_56_c1 hX  hK
    · have hK := ite_n hK h4
      refine hX.1 103 I_Dec_begin_67 ok_Dec_begin_67 _ _ _ ?_
      refine And.intro (fun h5 => ?_) (fun h5 => ?_)
      · have hK := ite_p hK h5
        exact b_Dec_begin_103_c1 hX  hK
      · have hK := ite_n hK h5
        refine And.intro (fun h6 => ?_) (fun h6 => ?_)
        · have hK := ite_p hK h6
          exact b_Dec_begin_103_c1 hX  hK
        · have hK := ite_n hK h6
          refine And.intro (fun h7 => ?_) (fun h7 => ?_)
          · have hK := ite_p hK h7
            exact b_Dec_begin_103_c1 hX  hK
          · have hK := ite_n hK h7
            refine And.intro (fun h8 => ?_) (fun h8 => ?_)
            · have hK := ite_p hK h8
              exact b_Dec_begin_103_c1 hX  hK
            · have hK := ite_n hK h8
              refine hX.1 121 I_Dec_begin_119 ok_Dec_begin_119 _ _ _ ?_
              exact And.intro (Or.inr rfl) hK
def f_Dec_begin_121_c0 (σ : Sg)  : Int32 × Sg := (f_Dec_begin_23_c1 σ)
theorem z_Dec_begin_121_c0 {σ : Sg}    : (f_Dec_begin_121_c0 σ ).1 = 0 ∨ (f_Dec_begin_121_c0 σ ).1 = 1 := by
  show Zb (f_Dec_begin_121_c0 σ )
  unfold f_Dec_begin_121_c0
  exact z_Dec_begin_23_c1  
abbrev w_Dec_begin_121_c0 : List (Nat × Option Nat) := [(3, some 2), (14, some 3), (14, some 4), (14, some 8)]
theorem p_Dec_begin_121_c0 {P : Sg → Prop} (hP : WP w_Dec_begin_121_c0 P) {σ : Sg}  (h : P σ) : PP P (f_Dec_begin_121_c0 σ ) := by
  unfold f_Dec_begin_121_c0
  exact p_Dec_begin_23_c1 (wsub hP rfl) h
set_option maxRecDepth 100000 in
set_option maxHeartbeats 4000000 in
theorem b_Dec_begin_121_c0 {l : Launch} {ad : Nat → Nat} {D : va_G} {cI : ClassId} {K : Option Value → Sg → Prop} {X : Nat → List Value → List Value → Sg → Prop} (hX : Cl l ad D cI mi_Dec_begin pt_Dec K X) {σ : Sg}    (hK : KI K (f_Dec_begin_121_c0 σ )) : X 121 [.ref 14, .int (0 : Int32)] [] σ := by
  unfold f_Dec_begin_121_c0 at hK
  refine hX.1 127 I_Dec_begin_121 ok_Dec_begin_121 _ _ _ ?_
  exact b_Dec_begin_23_c1 hX  hK
def f_Dec_begin_56_c0 (σ : Sg)  : Int32 × Sg := (bnd (up2 σ 14 4 (σ 14 3)) fun s1 => (f_Dec_begin_121_c0 s1))
theorem z_Dec_begin_56_c0 {σ : Sg}    : (f_Dec_begin_56_c0 σ ).1 = 0 ∨ (f_Dec_begin_56_c0 σ ).1 = 1 := by
  show Zb (f_Dec_begin_56_c0 σ )
  unfold f_Dec_begin_56_c0
  refine bnd_z fun s1 e1 => ?_
  exact z_Dec_begin_121_c0  
abbrev w_Dec_begin_56_c0 : List (Nat × Option Nat) := [(3, some 2), (14, some 3), (14, some 4), (14, some 8)]
theorem p_Dec_begin_56_c0 {P : Sg → Prop} (hP : WP w_Dec_begin_56_c0 P) {σ : Sg}  (h : P σ) : PP P (f_Dec_begin_56_c0 σ ) := by
  unfold f_Dec_begin_56_c0
  refine bnd_zz (Z := P) (hP _ _ _ _ (Or.inr (by decide)) h) fun s1 e1 q1 => ?_
  exact p_Dec_begin_121_c0 (wsub hP rfl) q1
set_option maxRecDepth 100000 in
set_option maxHeartbeats 4000000 in
theorem b_Dec_begin_56_c0 {l : Launch} {ad : Nat → Nat} {D : va_G} {cI : ClassId} {K : Option Value → Sg → Prop} {X : Nat → List Value → List Value → Sg → Prop} (hX : Cl l ad D cI mi_Dec_begin pt_Dec K X) {σ : Sg}    (hK : KI K (f_Dec_begin_56_c0 σ )) : X 56 [.ref 14, .int (0 : Int32)] [] σ := by
  unfold f_Dec_begin_56_c0 at hK
  refine hX.1 67 I_Dec_begin_56 ok_Dec_begin_56 _ _ _ ?_
  refine And.intro trivial (SG_g hK fun s1 e1 hK => ?_)
  exact b_Dec_begin_121_c0 hX  hK
def f_Dec_begin_103_c0 (σ : Sg)  : Int32 × Sg := (bnd (up2 σ 14 8 (((σ 14 3) - (38 : Int32)) >>> ((3 : Int32) &&& 31 : Int32))) fun s1 => (f_Dec_begin_121_c0 s1))
theorem z_Dec_begin_103_c0 {σ : Sg}    : (f_Dec_begin_103_c0 σ ).1 = 0 ∨ (f_Dec_begin_103_c0 σ ).1 = 1 := by
  show Zb (f_Dec_begin_103_c0 σ )
  unfold f_Dec_begin_103_c0
  refine bnd_z fun s1 e1 => ?_
  exact z_Dec_begin_121_c0  
abbrev w_Dec_begin_103_c0 : List (Nat × Option Nat) := [(3, some 2), (14, some 3), (14, some 4), (14, some 8)]
theorem p_Dec_begin_103_c0 {P : Sg → Prop} (hP : WP w_Dec_begin_103_c0 P) {σ : Sg}  (h : P σ) : PP P (f_Dec_begin_103_c0 σ ) := by
  unfold f_Dec_begin_103_c0
  refine bnd_zz (Z := P) (hP _ _ _ _ (Or.inr (by decide)) h) fun s1 e1 q1 => ?_
  exact p_Dec_begin_121_c0 (wsub hP rfl) q1
set_option maxRecDepth 100000 in
set_option maxHeartbeats 4000000 in
theorem b_Dec_begin_103_c0 {l : Launch} {ad : Nat → Nat} {D : va_G} {cI : ClassId} {K : Option Value → Sg → Prop} {X : Nat → List Value → List Value → Sg → Prop} (hX : Cl l ad D cI mi_Dec_begin pt_Dec K X) {σ : Sg}    (hK : KI K (f_Dec_begin_103_c0 σ )) : X 103 [.ref 14, .int (0 : Int32)] [] σ := by
  unfold f_Dec_begin_103_c0 at hK
  refine hX.1 119 I_Dec_begin_103 ok_Dec_begin_103 _ _ _ ?_
  refine And.intro trivial (SG_g hK fun s1 e1 hK => ?_)
  exact b_Dec_begin_121_c0 hX  hK
def f_Dec_begin_23_c0 (σ : Sg)  : Int32 × Sg := (bnd (f_Dec_nextByte σ) fun r1 => bnd (up2 r1.2 14 3 r1.1) fun s2 => (if (s2 14 3) = (243 : Int32) then (f_Dec_begin_56_c0 s2) else (if (s2 14 3) = (242 : Int32) then (f_Dec_begin_56_c0 s2) else (if (s2 14 3) = (38 : Int32) then (f_Dec_begin_103_c0 s2) else (if (s2 14 3) = (46 : Int32) then (f_Dec_begin_103_c0 s2) else (if (s2 14 3) = (54 : Int32) then (f_Dec_begin_103_c0 s2) else (if (s2 14 3) = (62 : Int32) then (f_Dec_begin_103_c0 s2) else ((1 : Int32), s2))))))))
theorem z_Dec_begin_23_c0 {σ : Sg}    : (f_Dec_begin_23_c0 σ ).1 = 0 ∨ (f_Dec_begin_23_c0 σ ).1 = 1 := by
  show Zb (f_Dec_begin_23_c0 σ )
  unfold f_Dec_begin_23_c0
  refine bnd_z fun r1 e1 => ?_
  refine bnd_z fun s2 e2 => ?_
  refine ite_z (fun h3 => ?_) (fun h3 => ?_)
  · exact z_Dec_begin_56_c0
  · refine ite_z (fun h4 => ?_) (fun h4 => ?_)
    · exact z_Dec_begin_56_c0
    · refine ite_z (fun h5 => ?_) (fun h5 => ?_)
      · exact z_Dec_begin_103_c0
      · refine ite_z (fun h6 => ?_) (fun h6 => ?_)
        · exact z_Dec_begin_103_c0
        · refine ite_z (fun h7 => ?_) (fun h7 => ?_)
          · exact z_Dec_begin_103_c0
          · refine ite_z (fun h8 => ?_) (fun h8 => ?_)
            · exact z_Dec_begin_103_c0
            · exact (Or.inr rfl)
abbrev w_Dec_begin_23_c0 : List (Nat × Option Nat) := [(3, some 2), (14, some 3), (14, some 4), (14, some 8)]
theorem p_Dec_begin_23_c0 {P : Sg → Prop} (hP : WP w_Dec_begin_23_c0 P) {σ : Sg}  (h : P σ) : PP P (f_Dec_begin_23_c0 σ ) := by
  unfold f_Dec_begin_23_c0
  refine bnd_zz (Z := PP P) (p_Dec_nextByte (wsub hP rfl) h) fun r1 e1 q1 => ?_
  refine bnd_zz (Z := P) (hP _ _ _ _ (Or.inr (by decide)) q1) fun s2 e2 q2 => ?_
  refine ite_z (fun _ => ?_) (fun _ => ?_)
  · exact p_Dec_begin_56_c0 (wsub hP rfl) q2
  · refine ite_z (fun _ => ?_) (fun _ => ?_)
    · exact p_Dec_begin_56_c0 (wsub hP rfl) q2
    · refine ite_z (fun _ => ?_) (fun _ => ?_)
      · exact p_Dec_begin_103_c0 (wsub hP rfl) q2
      · refine ite_z (fun _ => ?_) (fun _ => ?_)
        · exact p_Dec_begin_103_c0 (wsub hP rfl) q2
        · refine ite_z (fun _ => ?_) (fun _ => ?_)
          · exact p_Dec_begin_103_c0 (wsub hP rfl) q2
          · refine ite_z (fun _ => ?_) (fun _ => ?_)
            · exact p_Dec_begin_103_c0 (wsub hP rfl) q2
            · exact q2
set_option maxRecDepth 100000 in
set_option maxHeartbeats 4000000 in
theorem b_Dec_begin_23_c0 {l : Launch} {ad : Nat → Nat} {D : va_G} {cI : ClassId} {K : Option Value → Sg → Prop} {X : Nat → List Value → List Value → Sg → Prop} (hX : Cl l ad D cI mi_Dec_begin pt_Dec K X) {σ : Sg}    (hK : KI K (f_Dec_begin_23_c0 σ )) : X 23 [.ref 14, .int (0 : Int32)] [] σ := by
  unfold f_Dec_begin_23_c0 at hK
  refine hX.1 56 I_Dec_begin_23 ok_Dec_begin_23 _ _ _ ?_
  refine And.intro (fun h => absurd h (by decide)) (fun _ => ?_)
  refine s_Dec_nextByte (bnd_g hK fun r1 e1 hK => ?_)
  refine And.intro trivial (SG_g hK fun s2 e2 hK => ?_)
  refine And.intro (fun h3 => ?_) (fun h3 => ?_)
  · have hK := ite_p hK h3
    exact b_Dec_begin_56_c0 hX  hK
  · have hK := ite_n hK h3
    refine And.intro (fun h4 => ?_) (fun h4 => ?_)
    · have hK := ite_p hK h4
      exact b_Dec_begin_56_c0 hX  hK
    · have hK := ite_n hK h4
      refine hX.1 103 I_Dec_begin_67 ok_Dec_begin_67 _ _ _ ?_
      refine And.intro (fun h5 => ?_) (fun h5 => ?_)
      · have hK := ite_p hK h5
        exact b_Dec_begin_103_c0 hX  hK
      · have hK := ite_n hK h5
        refine And.intro (fun h6 => ?_) (fun h6 => ?_)
        · have hK := ite_p hK h6
          exact b_Dec_begin_103_c0 hX  hK
        · have hK := ite_n hK h6
          refine And.intro (fun h7 => ?_) (fun h7 => ?_)
          · have hK := ite_p hK h7
            exact b_Dec_begin_103_c0 hX  hK
          · have hK := ite_n hK h7
            refine And.intro (fun h8 => ?_) (fun h8 => ?_)
            · have hK := ite_p hK h8
              exact b_Dec_begin_103_c0 hX  hK
            · have hK := ite_n hK h8
              refine hX.1 121 I_Dec_begin_119 ok_Dec_begin_119 _ _ _ ?_
              exact And.intro (Or.inr rfl) hK
def f_Dec_begin (σ : Sg)  : Int32 × Sg := (bnd (up2 σ 14 2 (σ 3 2)) fun s1 => bnd (up2 s1 14 8 (-1 : Int32)) fun s2 => bnd (up2 s2 14 4 (0 : Int32)) fun s3 => (f_Dec_begin_23_c0 s3))
theorem z_Dec_begin {σ : Sg}    : (f_Dec_begin σ ).1 = 0 ∨ (f_Dec_begin σ ).1 = 1 := by
  show Zb (f_Dec_begin σ )
  unfold f_Dec_begin
  refine bnd_z fun s1 e1 => ?_
  refine bnd_z fun s2 e2 => ?_
  refine bnd_z fun s3 e3 => ?_
  exact z_Dec_begin_23_c0  
abbrev w_Dec_begin : List (Nat × Option Nat) := [(3, some 2), (14, some 2), (14, some 3), (14, some 4), (14, some 8)]
theorem p_Dec_begin {P : Sg → Prop} (hP : WP w_Dec_begin P) {σ : Sg}  (h : P σ) : PP P (f_Dec_begin σ ) := by
  unfold f_Dec_begin
  refine bnd_zz (Z := P) (hP _ _ _ _ (Or.inr (by decide)) h) fun s1 e1 q1 => ?_
  refine bnd_zz (Z := P) (hP _ _ _ _ (Or.inr (by decide)) q1) fun s2 e2 q2 => ?_
  refine bnd_zz (Z := P) (hP _ _ _ _ (Or.inr (by decide)) q2) fun s3 e3 q3 => ?_
  exact p_Dec_begin_23_c0 (wsub hP rfl) q3
set_option maxRecDepth 100000 in
set_option maxHeartbeats 4000000 in
theorem s_Dec_begin {l : Launch} {ad : Nat → Nat} {D : va_G} {cI : ClassId} {σ : Sg}  {K : Option Value → Sg → Prop}   (hK : KI K (f_Dec_begin σ )) : MetJ l ad D cI mi_Dec_begin [.ref 14] σ K := by
  refine met_of mi_Dec_begin pt_Dec pt_Dec_in rfl pl_Dec rfl (Nat.le_of_ble_eq_true rfl) fun X hX => ?_
  have hX : Cl l ad D cI mi_Dec_begin pt_Dec K X := hX
  show X 0 [.ref 14, .null] [] σ
  unfold f_Dec_begin at hK
  refine hX.1 23 I_Dec_begin_0 ok_Dec_begin_0 _ _ _ ?_
  refine And.intro trivial (SG_g hK fun s1 e1 hK => ?_)
  refine And.intro trivial (SG_g hK fun s2 e2 hK => ?_)
  refine And.intro trivial (SG_g hK fun s3 e3 hK => ?_)
  exact b_Dec_begin_23_c0 hX  hK
def I_Dec_nextWord_0 : List IT := [(0, .aload_n 0, 1, 0, 0, []), (1, .getfield 7, 3, 0, 0, []), (4, .aload_n 0, 1, 0, 0, []), (5, .getfield 13, 3, 0, 0, []), (8, .getfield 39, 3, 0, 0, []), (11, .iconst 1, 1, 1, 0, []), (12, .iaload, 1, 0, 0, []), (13, .aload_n 0, 1, 0, 0, []), (14, .getfield 13, 3, 0, 0, []), (17, .getfield 17, 3, 0, 0, []), (20, .iconst 1, 1, 1, 0, []), (21, .invokevirtual 43, 3, 0, 0, []), (24, .istore_n 1, 1, 0, 0, []), (25, .aload_n 0, 1, 0, 0, []), (26, .getfield 13, 3, 0, 0, []), (29, .aload_n 0, 1, 0, 0, []), (30, .getfield 13, 3, 0, 0, []), (33, .getfield 17, 3, 0, 0, []), (36, .iconst 2, 1, 2, 0, []), (37, .iadd, 1, 0, 0, []), (38, .ldc 49, 2, 65535, 0, []), (40, .iand, 1, 0, 0, []), (41, .putfield 17, 3, 0, 0, []), (44, .iload_n 1, 1, 0, 0, []), (45, .ireturn, 1, 0, 0, [])]
theorem ok_Dec_nextWord_0 : blkOK b_Dec_nextWord pt_Dec 46 I_Dec_nextWord_0 = true := by decide +kernel
def f_Dec_nextWord (σ : Sg)  : Int32 × Sg := (bnd (f_Mem_fetch σ (σ 5 (Int32.toNatClampNeg (1 : Int32))) (σ 3 2) (1 : Int32)) fun r1 => bnd (up2 r1.2 3 2 (((r1.2 3 2) + (2 : Int32)) &&& (65535 : Int32))) fun s2 => (r1.1, s2))
abbrev w_Dec_nextWord : List (Nat × Option Nat) := [(3, some 2)]
theorem p_Dec_nextWord {P : Sg → Prop} (hP : WP w_Dec_nextWord P) {σ : Sg}  (h : P σ) : PP P (f_Dec_nextWord σ ) := by
  unfold f_Dec_nextWord
  refine bnd_zz (Z := PP P) (p_Mem_fetch (wsub hP rfl) h) fun r1 e1 q1 => ?_
  refine bnd_zz (Z := P) (hP _ _ _ _ (Or.inr (by decide)) q1) fun s2 e2 q2 => ?_
  exact q2
set_option maxRecDepth 100000 in
set_option maxHeartbeats 4000000 in
theorem s_Dec_nextWord {l : Launch} {ad : Nat → Nat} {D : va_G} {cI : ClassId} {σ : Sg}  {K : Option Value → Sg → Prop}   (hK : KI K (f_Dec_nextWord σ )) : MetJ l ad D cI mi_Dec_nextWord [.ref 14] σ K := by
  refine met_of mi_Dec_nextWord pt_Dec pt_Dec_in rfl pl_Dec rfl (Nat.le_of_ble_eq_true rfl) fun X hX => ?_
  have hX : Cl l ad D cI mi_Dec_nextWord pt_Dec K X := hX
  show X 0 [.ref 14, .null] [] σ
  unfold f_Dec_nextWord at hK
  refine hX.1 46 I_Dec_nextWord_0 ok_Dec_nextWord_0 _ _ _ ?_
  refine And.intro (vin (by decide)) ?_
  refine s_Mem_fetch (bnd_g hK fun r1 e1 hK => ?_)
  refine And.intro trivial (SG_g hK fun s2 e2 hK => ?_)
  exact hK
def I_Dec_nextSigned_0 : List IT := [(0, .aload_n 0, 1, 0, 0, []), (1, .invokevirtual 32, 3, 0, 0, []), (4, .i2b, 1, 0, 0, []), (5, .ireturn, 1, 0, 0, [])]
theorem ok_Dec_nextSigned_0 : blkOK b_Dec_nextSigned pt_Dec 6 I_Dec_nextSigned_0 = true := by decide +kernel
def f_Dec_nextSigned (σ : Sg)  : Int32 × Sg := (bnd (f_Dec_nextByte σ) fun r1 => ((r1.1 : Int32).toInt8.toInt32, r1.2))
abbrev w_Dec_nextSigned : List (Nat × Option Nat) := [(3, some 2)]
theorem p_Dec_nextSigned {P : Sg → Prop} (hP : WP w_Dec_nextSigned P) {σ : Sg}  (h : P σ) : PP P (f_Dec_nextSigned σ ) := by
  unfold f_Dec_nextSigned
  refine bnd_zz (Z := PP P) (p_Dec_nextByte (wsub hP rfl) h) fun r1 e1 q1 => ?_
  exact q1
set_option maxRecDepth 100000 in
set_option maxHeartbeats 4000000 in
theorem s_Dec_nextSigned {l : Launch} {ad : Nat → Nat} {D : va_G} {cI : ClassId} {σ : Sg}  {K : Option Value → Sg → Prop}   (hK : KI K (f_Dec_nextSigned σ )) : MetJ l ad D cI mi_Dec_nextSigned [.ref 14] σ K := by
  refine met_of mi_Dec_nextSigned pt_Dec pt_Dec_in rfl pl_Dec rfl (Nat.le_of_ble_eq_true rfl) fun X hX => ?_
  have hX : Cl l ad D cI mi_Dec_nextSigned pt_Dec K X := hX
  show X 0 [.ref 14] [] σ
  unfold f_Dec_nextSigned at hK
  refine hX.1 6 I_Dec_nextSigned_0 ok_Dec_nextSigned_0 _ _ _ ?_
  refine s_Dec_nextByte (bnd_g hK fun r1 e1 hK => ?_)
  exact hK
def I_Dec_nextOf_0 : List IT := [(0, .iload_n 1, 1, 0, 0, []), (1, .ifCond .eq 10, 3, 0, 11, []), (4, .aload_n 0, 1, 0, 0, []), (5, .invokevirtual 50, 3, 0, 0, []), (8, .goto 7, 3, 0, 15, [])]
theorem ok_Dec_nextOf_0 : blkOK b_Dec_nextOf pt_Dec 11 I_Dec_nextOf_0 = true := by decide +kernel
def I_Dec_nextOf_11 : List IT := [(11, .aload_n 0, 1, 0, 0, []), (12, .invokevirtual 32, 3, 0, 0, [])]
theorem ok_Dec_nextOf_11 : blkOK b_Dec_nextOf pt_Dec 15 I_Dec_nextOf_11 = true := by decide +kernel
def I_Dec_nextOf_15 : List IT := [(15, .ireturn, 1, 0, 0, [])]
theorem ok_Dec_nextOf_15 : blkOK b_Dec_nextOf pt_Dec 16 I_Dec_nextOf_15 = true := by decide +kernel
def f_Dec_nextOf (σ : Sg) (a1 : Int32) : Int32 × Sg := (if a1 = (0 : Int32) then (bnd (f_Dec_nextByte σ) fun r2 => (r2.1, r2.2)) else (bnd (f_Dec_nextWord σ) fun r3 => (r3.1, r3.2)))
abbrev w_Dec_nextOf : List (Nat × Option Nat) := [(3, some 2)]
theorem p_Dec_nextOf {P : Sg → Prop} (hP : WP w_Dec_nextOf P) {σ : Sg} {a1 : Int32} (h : P σ) : PP P (f_Dec_nextOf σ a1) := by
  unfold f_Dec_nextOf
  refine ite_z (fun _ => ?_) (fun _ => ?_)
  · refine bnd_zz (Z := PP P) (p_Dec_nextByte (wsub hP rfl) h) fun r2 e2 q2 => ?_
    exact q2
  · refine bnd_zz (Z := PP P) (p_Dec_nextWord (wsub hP rfl) h) fun r3 e3 q3 => ?_
    exact q3
set_option maxRecDepth 100000 in
set_option maxHeartbeats 4000000 in
theorem s_Dec_nextOf {l : Launch} {ad : Nat → Nat} {D : va_G} {cI : ClassId} {σ : Sg} {a1 : Int32} {K : Option Value → Sg → Prop}   (hK : KI K (f_Dec_nextOf σ a1)) : MetJ l ad D cI mi_Dec_nextOf [.ref 14, .int a1] σ K := by
  refine met_of mi_Dec_nextOf pt_Dec pt_Dec_in rfl pl_Dec rfl (Nat.le_of_ble_eq_true rfl) fun X hX => ?_
  have hX : Cl l ad D cI mi_Dec_nextOf pt_Dec K X := hX
  show X 0 [.ref 14, .int a1] [] σ
  unfold f_Dec_nextOf at hK
  refine hX.1 11 I_Dec_nextOf_0 ok_Dec_nextOf_0 _ _ _ ?_
  refine And.intro (fun h1 => ?_) (fun h1 => ?_)
  · have hK := ite_p hK h1
    refine hX.1 15 I_Dec_nextOf_11 ok_Dec_nextOf_11 _ _ _ ?_
    refine s_Dec_nextByte (bnd_g hK fun r2 e2 hK => ?_)
    refine hX.1 16 I_Dec_nextOf_15 ok_Dec_nextOf_15 _ _ _ ?_
    exact hK
  · have hK := ite_n hK h1
    refine s_Dec_nextWord (bnd_g hK fun r3 e3 hK => ?_)
    refine hX.1 16 I_Dec_nextOf_15 ok_Dec_nextOf_15 _ _ _ ?_
    exact hK
def I_Dec_segmentOr_0 : List IT := [(0, .aload_n 0, 1, 0, 0, []), (1, .getfield 13, 3, 0, 0, []), (4, .getfield 39, 3, 0, 0, []), (7, .aload_n 0, 1, 0, 0, []), (8, .getfield 26, 3, 0, 0, []), (11, .iconst (-1), 1, (-1), 0, []), (12, .if_icmp .ne 7, 3, 0, 19, []), (15, .iload_n 1, 1, 0, 0, []), (16, .goto 7, 3, 0, 23, [])]
theorem ok_Dec_segmentOr_0 : blkOK b_Dec_segmentOr pt_Dec 19 I_Dec_segmentOr_0 = true := by decide +kernel
def I_Dec_segmentOr_19 : List IT := [(19, .aload_n 0, 1, 0, 0, []), (20, .getfield 26, 3, 0, 0, [])]
theorem ok_Dec_segmentOr_19 : blkOK b_Dec_segmentOr pt_Dec 23 I_Dec_segmentOr_19 = true := by decide +kernel
def I_Dec_segmentOr_23 : List IT := [(23, .iconst 3, 1, 3, 0, []), (24, .iand, 1, 0, 0, []), (25, .iaload, 1, 0, 0, []), (26, .ireturn, 1, 0, 0, [])]
theorem ok_Dec_segmentOr_23 : blkOK b_Dec_segmentOr pt_Dec 27 I_Dec_segmentOr_23 = true := by decide +kernel
def f_Dec_segmentOr (σ : Sg) (a1 : Int32) : Int32 × Sg := (if (σ 14 8) = (-1 : Int32) then ((σ 5 (Int32.toNatClampNeg (a1 &&& (3 : Int32)))), σ) else ((σ 5 (Int32.toNatClampNeg ((σ 14 8) &&& (3 : Int32)))), σ))
abbrev w_Dec_segmentOr : List (Nat × Option Nat) := []
theorem p_Dec_segmentOr {P : Sg → Prop} (hP : WP w_Dec_segmentOr P) {σ : Sg} {a1 : Int32} (h : P σ) : PP P (f_Dec_segmentOr σ a1) := by
  unfold f_Dec_segmentOr
  refine ite_z (fun _ => ?_) (fun _ => ?_)
  · exact h
  · exact h
set_option maxRecDepth 100000 in
set_option maxHeartbeats 4000000 in
theorem s_Dec_segmentOr {l : Launch} {ad : Nat → Nat} {D : va_G} {cI : ClassId} {σ : Sg} {a1 : Int32} {K : Option Value → Sg → Prop}   (hK : KI K (f_Dec_segmentOr σ a1)) : MetJ l ad D cI mi_Dec_segmentOr [.ref 14, .int a1] σ K := by
  refine met_of mi_Dec_segmentOr pt_Dec pt_Dec_in rfl pl_Dec rfl (Nat.le_of_ble_eq_true rfl) fun X hX => ?_
  have hX : Cl l ad D cI mi_Dec_segmentOr pt_Dec K X := hX
  show X 0 [.ref 14, .int a1] [] σ
  unfold f_Dec_segmentOr at hK
  refine hX.1 19 I_Dec_segmentOr_0 ok_Dec_segmentOr_0 _ _ _ ?_
  refine And.intro (fun h1 => ?_) (fun h1 => ?_)
  · have hK := ite_p hK h1
    refine hX.1 27 I_Dec_segmentOr_23 ok_Dec_segmentOr_23 _ _ _ ?_
    refine And.intro (pk_andIn _ 2 rfl (by decide)) ?_
    exact hK
  · have hK := ite_n hK h1
    refine hX.1 23 I_Dec_segmentOr_19 ok_Dec_segmentOr_19 _ _ _ ?_
    refine hX.1 27 I_Dec_segmentOr_23 ok_Dec_segmentOr_23 _ _ _ ?_
    refine And.intro (pk_andIn _ 2 rfl (by decide)) ?_
    exact hK
def I_Dec_base_0 : List IT := [(0, .aload_n 0, 1, 0, 0, []), (1, .getfield 13, 3, 0, 0, []), (4, .getfield 91, 3, 0, 0, []), (7, .astore_n 1, 1, 0, 0, []), (8, .aload_n 0, 1, 0, 0, []), (9, .getfield 56, 3, 0, 0, []), (12, .tableswitch 94 0 6 #[44, 53, 62, 71, 80, 85, 90], 44, 0, 106, [(0, 56), (1, 65), (2, 74), (3, 83), (4, 92), (5, 97), (6, 102)])]
theorem ok_Dec_base_0 : blkOK b_Dec_base pt_Dec 56 I_Dec_base_0 = true := by decide +kernel
def I_Dec_base_56 : List IT := [(56, .aload_n 1, 1, 0, 0, []), (57, .iconst 3, 1, 3, 0, []), (58, .iaload, 1, 0, 0, []), (59, .aload_n 1, 1, 0, 0, []), (60, .bipush 6, 2, 6, 0, []), (62, .iaload, 1, 0, 0, []), (63, .iadd, 1, 0, 0, []), (64, .ireturn, 1, 0, 0, [])]
theorem ok_Dec_base_56 : blkOK b_Dec_base pt_Dec 65 I_Dec_base_56 = true := by decide +kernel
def I_Dec_base_65 : List IT := [(65, .aload_n 1, 1, 0, 0, []), (66, .iconst 3, 1, 3, 0, []), (67, .iaload, 1, 0, 0, []), (68, .aload_n 1, 1, 0, 0, []), (69, .bipush 7, 2, 7, 0, []), (71, .iaload, 1, 0, 0, []), (72, .iadd, 1, 0, 0, []), (73, .ireturn, 1, 0, 0, [])]
theorem ok_Dec_base_65 : blkOK b_Dec_base pt_Dec 74 I_Dec_base_65 = true := by decide +kernel
def I_Dec_base_74 : List IT := [(74, .aload_n 1, 1, 0, 0, []), (75, .iconst 5, 1, 5, 0, []), (76, .iaload, 1, 0, 0, []), (77, .aload_n 1, 1, 0, 0, []), (78, .bipush 6, 2, 6, 0, []), (80, .iaload, 1, 0, 0, []), (81, .iadd, 1, 0, 0, []), (82, .ireturn, 1, 0, 0, [])]
theorem ok_Dec_base_74 : blkOK b_Dec_base pt_Dec 83 I_Dec_base_74 = true := by decide +kernel
def I_Dec_base_83 : List IT := [(83, .aload_n 1, 1, 0, 0, []), (84, .iconst 5, 1, 5, 0, []), (85, .iaload, 1, 0, 0, []), (86, .aload_n 1, 1, 0, 0, []), (87, .bipush 7, 2, 7, 0, []), (89, .iaload, 1, 0, 0, []), (90, .iadd, 1, 0, 0, []), (91, .ireturn, 1, 0, 0, [])]
theorem ok_Dec_base_83 : blkOK b_Dec_base pt_Dec 92 I_Dec_base_83 = true := by decide +kernel
def I_Dec_base_92 : List IT := [(92, .aload_n 1, 1, 0, 0, []), (93, .bipush 6, 2, 6, 0, []), (95, .iaload, 1, 0, 0, []), (96, .ireturn, 1, 0, 0, [])]
theorem ok_Dec_base_92 : blkOK b_Dec_base pt_Dec 97 I_Dec_base_92 = true := by decide +kernel
def I_Dec_base_97 : List IT := [(97, .aload_n 1, 1, 0, 0, []), (98, .bipush 7, 2, 7, 0, []), (100, .iaload, 1, 0, 0, []), (101, .ireturn, 1, 0, 0, [])]
theorem ok_Dec_base_97 : blkOK b_Dec_base pt_Dec 102 I_Dec_base_97 = true := by decide +kernel
def I_Dec_base_102 : List IT := [(102, .aload_n 1, 1, 0, 0, []), (103, .iconst 5, 1, 5, 0, []), (104, .iaload, 1, 0, 0, []), (105, .ireturn, 1, 0, 0, [])]
theorem ok_Dec_base_102 : blkOK b_Dec_base pt_Dec 106 I_Dec_base_102 = true := by decide +kernel
def I_Dec_base_106 : List IT := [(106, .aload_n 1, 1, 0, 0, []), (107, .iconst 3, 1, 3, 0, []), (108, .iaload, 1, 0, 0, []), (109, .ireturn, 1, 0, 0, [])]
theorem ok_Dec_base_106 : blkOK b_Dec_base pt_Dec 110 I_Dec_base_106 = true := by decide +kernel
def f_Dec_base (σ : Sg)  : Int32 × Sg := (if (σ 14 9) = (0 : Int32) then (((σ 4 (Int32.toNatClampNeg (3 : Int32))) + (σ 4 (Int32.toNatClampNeg (6 : Int32)))), σ) else (if (σ 14 9) = (1 : Int32) then (((σ 4 (Int32.toNatClampNeg (3 : Int32))) + (σ 4 (Int32.toNatClampNeg (7 : Int32)))), σ) else (if (σ 14 9) = (2 : Int32) then (((σ 4 (Int32.toNatClampNeg (5 : Int32))) + (σ 4 (Int32.toNatClampNeg (6 : Int32)))), σ) else (if (σ 14 9) = (3 : Int32) then (((σ 4 (Int32.toNatClampNeg (5 : Int32))) + (σ 4 (Int32.toNatClampNeg (7 : Int32)))), σ) else (if (σ 14 9) = (4 : Int32) then ((σ 4 (Int32.toNatClampNeg (6 : Int32))), σ) else (if (σ 14 9) = (5 : Int32) then ((σ 4 (Int32.toNatClampNeg (7 : Int32))), σ) else (if (σ 14 9) = (6 : Int32) then ((σ 4 (Int32.toNatClampNeg (5 : Int32))), σ) else ((σ 4 (Int32.toNatClampNeg (3 : Int32))), σ))))))))
abbrev w_Dec_base : List (Nat × Option Nat) := []
theorem p_Dec_base {P : Sg → Prop} (hP : WP w_Dec_base P) {σ : Sg}  (h : P σ) : PP P (f_Dec_base σ ) := by
  unfold f_Dec_base
  refine ite_z (fun _ => ?_) (fun _ => ?_)
  · exact h
  refine ite_z (fun _ => ?_) (fun _ => ?_)
  · exact h
  refine ite_z (fun _ => ?_) (fun _ => ?_)
  · exact h
  refine ite_z (fun _ => ?_) (fun _ => ?_)
  · exact h
  refine ite_z (fun _ => ?_) (fun _ => ?_)
  · exact h
  refine ite_z (fun _ => ?_) (fun _ => ?_)
  · exact h
  refine ite_z (fun _ => ?_) (fun _ => ?_)
  · exact h
  exact h
set_option maxRecDepth 100000 in
set_option maxHeartbeats 4000000 in
theorem s_Dec_base {l : Launch} {ad : Nat → Nat} {D : va_G} {cI : ClassId} {σ : Sg}  {K : Option Value → Sg → Prop}   (hK : KI K (f_Dec_base σ )) : MetJ l ad D cI mi_Dec_base [.ref 14] σ K := by
  refine met_of mi_Dec_base pt_Dec pt_Dec_in rfl pl_Dec rfl (Nat.le_of_ble_eq_true rfl) fun X hX => ?_
  have hX : Cl l ad D cI mi_Dec_base pt_Dec K X := hX
  show X 0 [.ref 14, .null] [] σ
  unfold f_Dec_base at hK
  refine hX.1 56 I_Dec_base_0 ok_Dec_base_0 _ _ _ ?_
  refine And.intro (fun h1 => ?_) (fun h1 => ?_)
  · have hK := ite_p hK h1
    refine hX.1 65 I_Dec_base_56 ok_Dec_base_56 _ _ _ ?_
    refine And.intro (vin (by decide)) ?_
    refine And.intro (vin (by decide)) ?_
    exact hK
  have hK := ite_n hK h1
  refine And.intro (fun h2 => ?_) (fun h2 => ?_)
  · have hK := ite_p hK h2
    refine hX.1 74 I_Dec_base_65 ok_Dec_base_65 _ _ _ ?_
    refine And.intro (vin (by decide)) ?_
    refine And.intro (vin (by decide)) ?_
    exact hK
  have hK := ite_n hK h2
  refine And.intro (fun h3 => ?_) (fun h3 => ?_)
  · have hK := ite_p hK h3
    refine hX.1 83 I_Dec_base_74 ok_Dec_base_74 _ _ _ ?_
    refine And.intro (vin (by decide)) ?_
    refine And.intro (vin (by decide)) ?_
    exact hK
  have hK := ite_n hK h3
  refine And.intro (fun h4 => ?_) (fun h4 => ?_)
  · have hK := ite_p hK h4
    refine hX.1 92 I_Dec_base_83 ok_Dec_base_83 _ _ _ ?_
    refine And.intro (vin (by decide)) ?_
    refine And.intro (vin (by decide)) ?_
    exact hK
  have hK := ite_n hK h4
  refine And.intro (fun h5 => ?_) (fun h5 => ?_)
  · have hK := ite_p hK h5
    refine hX.1 97 I_Dec_base_92 ok_Dec_base_92 _ _ _ ?_
    refine And.intro (vin (by decide)) ?_
    exact hK
  have hK := ite_n hK h5
  refine And.intro (fun h6 => ?_) (fun h6 => ?_)
  · have hK := ite_p hK h6
    refine hX.1 102 I_Dec_base_97 ok_Dec_base_97 _ _ _ ?_
    refine And.intro (vin (by decide)) ?_
    exact hK
  have hK := ite_n hK h6
  refine And.intro (fun h7 => ?_) (fun h7 => ?_)
  · have hK := ite_p hK h7
    refine hX.1 106 I_Dec_base_102 ok_Dec_base_102 _ _ _ ?_
    refine And.intro (vin (by decide)) ?_
    exact hK
  have hK := ite_n hK h7
  refine hX.1 110 I_Dec_base_106 ok_Dec_base_106 _ _ _ ?_
  refine And.intro (vin (by decide)) ?_
  exact hK
def I_Dec_readModrm_0 : List IT := [(0, .aload_n 0, 1, 0, 0, []), (1, .invokevirtual 32, 3, 0, 0, []), (4, .istore_n 2, 1, 0, 0, []), (5, .iload_n 2, 1, 0, 0, []), (6, .bipush 6, 2, 6, 0, []), (8, .ishr, 1, 0, 0, []), (9, .istore_n 3, 1, 0, 0, []), (10, .aload_n 0, 1, 0, 0, []), (11, .iload_n 2, 1, 0, 0, []), (12, .iconst 3, 1, 3, 0, []), (13, .ishr, 1, 0, 0, []), (14, .bipush 7, 2, 7, 0, []), (16, .iand, 1, 0, 0, []), (17, .putfield 53, 3, 0, 0, []), (20, .aload_n 0, 1, 0, 0, []), (21, .iload_n 2, 1, 0, 0, []), (22, .bipush 7, 2, 7, 0, []), (24, .iand, 1, 0, 0, []), (25, .putfield 56, 3, 0, 0, []), (28, .aload_n 0, 1, 0, 0, []), (29, .iload_n 1, 1, 0, 0, []), (30, .putfield 59, 3, 0, 0, []), (33, .aload_n 0, 1, 0, 0, []), (34, .iload_n 3, 1, 0, 0, []), (35, .iconst 3, 1, 3, 0, []), (36, .if_icmp .eq 7, 3, 0, 43, []), (39, .iconst 1, 1, 1, 0, []), (40, .goto 4, 3, 0, 44, [])]
theorem ok_Dec_readModrm_0 : blkOK b_Dec_readModrm pt_Dec 43 I_Dec_readModrm_0 = true := by decide +kernel
def I_Dec_readModrm_43 : List IT := [(43, .iconst 0, 1, 0, 0, [])]
theorem ok_Dec_readModrm_43 : blkOK b_Dec_readModrm pt_Dec 44 I_Dec_readModrm_43 = true := by decide +kernel
def I_Dec_readModrm_44 : List IT := [(44, .putfield 63, 3, 0, 0, []), (47, .aload_n 0, 1, 0, 0, []), (48, .getfield 63, 3, 0, 0, []), (51, .ifCond .ne 4, 3, 0, 55, []), (54, .return_, 1, 0, 0, [])]
theorem ok_Dec_readModrm_44 : blkOK b_Dec_readModrm pt_Dec 55 I_Dec_readModrm_44 = true := by decide +kernel
def I_Dec_readModrm_55 : List IT := [(55, .iload_n 3, 1, 0, 0, []), (56, .ifCond .ne 16, 3, 0, 72, []), (59, .aload_n 0, 1, 0, 0, []), (60, .getfield 56, 3, 0, 0, []), (63, .bipush 6, 2, 6, 0, []), (65, .if_icmp .ne 7, 3, 0, 72, []), (68, .iconst 1, 1, 1, 0, []), (69, .goto 4, 3, 0, 73, [])]
theorem ok_Dec_readModrm_55 : blkOK b_Dec_readModrm pt_Dec 72 I_Dec_readModrm_55 = true := by decide +kernel
def I_Dec_readModrm_72 : List IT := [(72, .iconst 0, 1, 0, 0, [])]
theorem ok_Dec_readModrm_72 : blkOK b_Dec_readModrm pt_Dec 73 I_Dec_readModrm_72 = true := by decide +kernel
def I_Dec_readModrm_73 : List IT := [(73, .istore 4, 2, 0, 0, []), (75, .iload 4, 2, 0, 0, []), (77, .ifCond .eq 10, 3, 0, 87, []), (80, .aload_n 0, 1, 0, 0, []), (81, .invokevirtual 50, 3, 0, 0, []), (84, .goto 7, 3, 0, 91, [])]
theorem ok_Dec_readModrm_73 : blkOK b_Dec_readModrm pt_Dec 87 I_Dec_readModrm_73 = true := by decide +kernel
def I_Dec_readModrm_87 : List IT := [(87, .aload_n 0, 1, 0, 0, []), (88, .invokevirtual 66, 3, 0, 0, [])]
theorem ok_Dec_readModrm_87 : blkOK b_Dec_readModrm pt_Dec 91 I_Dec_readModrm_87 = true := by decide +kernel
def I_Dec_readModrm_91 : List IT := [(91, .istore 5, 2, 0, 0, []), (93, .iload_n 3, 1, 0, 0, []), (94, .iconst 1, 1, 1, 0, []), (95, .if_icmp .ne 16, 3, 0, 111, []), (98, .iload 5, 2, 0, 0, []), (100, .aload_n 0, 1, 0, 0, []), (101, .invokevirtual 32, 3, 0, 0, []), (104, .i2b, 1, 0, 0, []), (105, .iadd, 1, 0, 0, []), (106, .istore 5, 2, 0, 0, []), (108, .goto 17, 3, 0, 125, [])]
theorem ok_Dec_readModrm_91 : blkOK b_Dec_readModrm pt_Dec 111 I_Dec_readModrm_91 = true := by decide +kernel
def I_Dec_readModrm_111 : List IT := [(111, .iload_n 3, 1, 0, 0, []), (112, .iconst 2, 1, 2, 0, []), (113, .if_icmp .ne 12, 3, 0, 125, []), (116, .iload 5, 2, 0, 0, []), (118, .aload_n 0, 1, 0, 0, []), (119, .invokevirtual 50, 3, 0, 0, []), (122, .iadd, 1, 0, 0, []), (123, .istore 5, 2, 0, 0, [])]
theorem ok_Dec_readModrm_111 : blkOK b_Dec_readModrm pt_Dec 125 I_Dec_readModrm_111 = true := by decide +kernel
def I_Dec_readModrm_125 : List IT := [(125, .aload_n 0, 1, 0, 0, []), (126, .iload 5, 2, 0, 0, []), (128, .ldc 49, 2, 65535, 0, []), (130, .iand, 1, 0, 0, []), (131, .putfield 69, 3, 0, 0, []), (134, .iload 4, 2, 0, 0, []), (136, .ifCond .ne 32, 3, 0, 168, []), (139, .aload_n 0, 1, 0, 0, []), (140, .getfield 56, 3, 0, 0, []), (143, .iconst 2, 1, 2, 0, []), (144, .if_icmp .eq 20, 3, 0, 164, []), (147, .aload_n 0, 1, 0, 0, []), (148, .getfield 56, 3, 0, 0, []), (151, .iconst 3, 1, 3, 0, []), (152, .if_icmp .eq 12, 3, 0, 164, []), (155, .aload_n 0, 1, 0, 0, []), (156, .getfield 56, 3, 0, 0, []), (159, .bipush 6, 2, 6, 0, []), (161, .if_icmp .ne 7, 3, 0, 168, [])]
theorem ok_Dec_readModrm_125 : blkOK b_Dec_readModrm pt_Dec 164 I_Dec_readModrm_125 = true := by decide +kernel
def I_Dec_readModrm_164 : List IT := [(164, .iconst 1, 1, 1, 0, []), (165, .goto 4, 3, 0, 169, [])]
theorem ok_Dec_readModrm_164 : blkOK b_Dec_readModrm pt_Dec 168 I_Dec_readModrm_164 = true := by decide +kernel
def I_Dec_readModrm_168 : List IT := [(168, .iconst 0, 1, 0, 0, [])]
theorem ok_Dec_readModrm_168 : blkOK b_Dec_readModrm pt_Dec 169 I_Dec_readModrm_168 = true := by decide +kernel
def I_Dec_readModrm_169 : List IT := [(169, .istore 6, 2, 0, 0, []), (171, .aload_n 0, 1, 0, 0, []), (172, .aload_n 0, 1, 0, 0, []), (173, .iload 6, 2, 0, 0, []), (175, .ifCond .eq 7, 3, 0, 182, []), (178, .iconst 2, 1, 2, 0, []), (179, .goto 4, 3, 0, 183, [])]
theorem ok_Dec_readModrm_169 : blkOK b_Dec_readModrm pt_Dec 182 I_Dec_readModrm_169 = true := by decide +kernel
def I_Dec_readModrm_182 : List IT := [(182, .iconst 3, 1, 3, 0, [])]
theorem ok_Dec_readModrm_182 : blkOK b_Dec_readModrm pt_Dec 183 I_Dec_readModrm_182 = true := by decide +kernel
def I_Dec_readModrm_183 : List IT := [(183, .invokevirtual 72, 3, 0, 0, []), (186, .putfield 76, 3, 0, 0, []), (189, .return_, 1, 0, 0, [])]
theorem ok_Dec_readModrm_183 : blkOK b_Dec_readModrm pt_Dec 190 I_Dec_readModrm_183 = true := by decide +kernel
def f_Dec_readModrm_183 (σ : Sg) (y0 : Int32) : Sg := (bnd (f_Dec_segmentOr σ y0) fun r1 => bnd (up2 r1.2 14 10 r1.1) fun s2 => s2)
abbrev w_Dec_readModrm_183 : List (Nat × Option Nat) := [(14, some 10)]
theorem p_Dec_readModrm_183 {P : Sg → Prop} (hP : WP w_Dec_readModrm_183 P) {σ : Sg} {y0 : Int32} (h : P σ) : P (f_Dec_readModrm_183 σ y0) := by
  unfold f_Dec_readModrm_183
  refine bnd_zz (Z := PP P) (p_Dec_segmentOr (wsub hP rfl) h) fun r1 e1 q1 => ?_
  refine bnd_zz (Z := P) (hP _ _ _ _ (Or.inr (by decide)) q1) fun s2 e2 q2 => ?_
  exact q2
set_option maxRecDepth 100000 in
set_option maxHeartbeats 4000000 in
theorem b_Dec_readModrm_183 {l : Launch} {ad : Nat → Nat} {D : va_G} {cI : ClassId} {K : Option Value → Sg → Prop} {X : Nat → List Value → List Value → Sg → Prop} (hX : Cl l ad D cI mi_Dec_readModrm pt_Dec K X) {σ : Sg} {y0 : Int32}   (hK : KV K (f_Dec_readModrm_183 σ y0)) : X 183 [.null, .null, .null, .null, .null, .null, .null] [.int y0, .ref 14, .ref 14] σ := by
  unfold f_Dec_readModrm_183 at hK
  refine hX.1 190 I_Dec_readModrm_183 ok_Dec_readModrm_183 _ _ _ ?_
  refine s_Dec_segmentOr (bnd_g hK fun r1 e1 hK => ?_)
  refine And.intro trivial (SG_g hK fun s2 e2 hK => ?_)
  exact hK
def f_Dec_readModrm_169 (σ : Sg) (y0 : Int32) : Sg := (if y0 = (0 : Int32) then (f_Dec_readModrm_183 σ (3 : Int32)) else (f_Dec_readModrm_183 σ (2 : Int32)))
abbrev w_Dec_readModrm_169 : List (Nat × Option Nat) := [(14, some 10)]
theorem p_Dec_readModrm_169 {P : Sg → Prop} (hP : WP w_Dec_readModrm_169 P) {σ : Sg} {y0 : Int32} (h : P σ) : P (f_Dec_readModrm_169 σ y0) := by
  unfold f_Dec_readModrm_169
  refine ite_z (fun _ => ?_) (fun _ => ?_)
  · exact p_Dec_readModrm_183 (wsub hP rfl) h
  · exact p_Dec_readModrm_183 (wsub hP rfl) h
set_option maxRecDepth 100000 in
set_option maxHeartbeats 4000000 in
theorem b_Dec_readModrm_169 {l : Launch} {ad : Nat → Nat} {D : va_G} {cI : ClassId} {K : Option Value → Sg → Prop} {X : Nat → List Value → List Value → Sg → Prop} (hX : Cl l ad D cI mi_Dec_readModrm pt_Dec K X) {σ : Sg} {y0 : Int32} (z_y0 : y0 = 0 ∨ y0 = 1)  (hK : KV K (f_Dec_readModrm_169 σ y0)) : X 169 [.ref 14, .null, .null, .null, .null, .null, .null] [.int y0] σ := by
  unfold f_Dec_readModrm_169 at hK
  refine hX.1 182 I_Dec_readModrm_169 ok_Dec_readModrm_169 _ _ _ ?_
  refine And.intro (fun h1 => ?_) (fun h1 => ?_)
  · have hK := ite_p hK h1
    refine hX.1 183 I_Dec_readModrm_182 ok_Dec_readModrm_182 _ _ _ ?_
    refine hX.fg [0, 6] ?_
    exact b_Dec_readModrm_183 hX  hK
  · have hK := ite_n hK h1
    refine hX.fg [0, 6] ?_
    exact b_Dec_readModrm_183 hX  hK
def f_Dec_readModrm_164 (σ : Sg)  : Sg := (f_Dec_readModrm_169 σ (1 : Int32))
abbrev w_Dec_readModrm_164 : List (Nat × Option Nat) := [(14, some 10)]
theorem p_Dec_readModrm_164 {P : Sg → Prop} (hP : WP w_Dec_readModrm_164 P) {σ : Sg}  (h : P σ) : P (f_Dec_readModrm_164 σ ) := by
  unfold f_Dec_readModrm_164
  exact p_Dec_readModrm_169 (wsub hP rfl) h
set_option maxRecDepth 100000 in
set_option maxHeartbeats 4000000 in
theorem b_Dec_readModrm_164 {l : Launch} {ad : Nat → Nat} {D : va_G} {cI : ClassId} {K : Option Value → Sg → Prop} {X : Nat → List Value → List Value → Sg → Prop} (hX : Cl l ad D cI mi_Dec_readModrm pt_Dec K X) {σ : Sg}    (hK : KV K (f_Dec_readModrm_164 σ )) : X 164 [.ref 14, .null, .null, .null, .null, .null, .null] [] σ := by
  unfold f_Dec_readModrm_164 at hK
  refine hX.1 168 I_Dec_readModrm_164 ok_Dec_readModrm_164 _ _ _ ?_
  exact b_Dec_readModrm_169 hX (Or.inr rfl) hK
def f_Dec_readModrm_168 (σ : Sg)  : Sg := (f_Dec_readModrm_169 σ (0 : Int32))
abbrev w_Dec_readModrm_168 : List (Nat × Option Nat) := [(14, some 10)]
theorem p_Dec_readModrm_168 {P : Sg → Prop} (hP : WP w_Dec_readModrm_168 P) {σ : Sg}  (h : P σ) : P (f_Dec_readModrm_168 σ ) := by
  unfold f_Dec_readModrm_168
  exact p_Dec_readModrm_169 (wsub hP rfl) h
set_option maxRecDepth 100000 in
set_option maxHeartbeats 4000000 in
theorem b_Dec_readModrm_168 {l : Launch} {ad : Nat → Nat} {D : va_G} {cI : ClassId} {K : Option Value → Sg → Prop} {X : Nat → List Value → List Value → Sg → Prop} (hX : Cl l ad D cI mi_Dec_readModrm pt_Dec K X) {σ : Sg}    (hK : KV K (f_Dec_readModrm_168 σ )) : X 168 [.ref 14, .null, .null, .null, .null, .null, .null] [] σ := by
  unfold f_Dec_readModrm_168 at hK
  refine hX.1 169 I_Dec_readModrm_168 ok_Dec_readModrm_168 _ _ _ ?_
  exact b_Dec_readModrm_169 hX (Or.inl rfl) hK
def f_Dec_readModrm_125 (σ : Sg) (x4 : Int32) (x5 : Int32) : Sg := (bnd (up2 σ 14 6 (x5 &&& (65535 : Int32))) fun s1 => (if x4 = (0 : Int32) then (if (s1 14 9) = (2 : Int32) then (f_Dec_readModrm_164 s1) else (if (s1 14 9) = (3 : Int32) then (f_Dec_readModrm_164 s1) else (if (s1 14 9) = (6 : Int32) then (f_Dec_readModrm_164 s1) else (f_Dec_readModrm_168 s1)))) else (f_Dec_readModrm_168 s1)))
abbrev w_Dec_readModrm_125 : List (Nat × Option Nat) := [(14, some 6), (14, some 10)]
theorem p_Dec_readModrm_125 {P : Sg → Prop} (hP : WP w_Dec_readModrm_125 P) {σ : Sg} {x4 : Int32} {x5 : Int32} (h : P σ) : P (f_Dec_readModrm_125 σ x4 x5) := by
  unfold f_Dec_readModrm_125
  refine bnd_zz (Z := P) (hP _ _ _ _ (Or.inr (by decide)) h) fun s1 e1 q1 => ?_
  refine ite_z (fun _ => ?_) (fun _ => ?_)
  · refine ite_z (fun _ => ?_) (fun _ => ?_)
    · exact p_Dec_readModrm_164 (wsub hP rfl) q1
    · refine ite_z (fun _ => ?_) (fun _ => ?_)
      · exact p_Dec_readModrm_164 (wsub hP rfl) q1
      · refine ite_z (fun _ => ?_) (fun _ => ?_)
        · exact p_Dec_readModrm_164 (wsub hP rfl) q1
        · exact p_Dec_readModrm_168 (wsub hP rfl) q1
  · exact p_Dec_readModrm_168 (wsub hP rfl) q1
set_option maxRecDepth 100000 in
set_option maxHeartbeats 4000000 in
theorem b_Dec_readModrm_125 {l : Launch} {ad : Nat → Nat} {D : va_G} {cI : ClassId} {K : Option Value → Sg → Prop} {X : Nat → List Value → List Value → Sg → Prop} (hX : Cl l ad D cI mi_Dec_readModrm pt_Dec K X) {σ : Sg} {x4 : Int32} {x5 : Int32} (z_x4 : x4 = 0 ∨ x4 = 1)  (hK : KV K (f_Dec_readModrm_125 σ x4 x5)) : X 125 [.ref 14, .null, .null, .null, .int x4, .int x5, .null] [] σ := by
  unfold f_Dec_readModrm_125 at hK
  refine hX.1 164 I_Dec_readModrm_125 ok_Dec_readModrm_125 _ _ _ ?_
  refine And.intro trivial (SG_g hK fun s1 e1 hK => ?_)
  refine And.intro (fun h2 => ?_) (fun h2 => ?_)
  · have hK := ite_p hK h2
    refine And.intro (fun h3 => ?_) (fun h3 => ?_)
    · have hK := ite_p hK h3
      refine hX.fg [4, 5] ?_
      exact b_Dec_readModrm_164 hX  hK
    · have hK := ite_n hK h3
      refine And.intro (fun h4 => ?_) (fun h4 => ?_)
      · have hK := ite_p hK h4
        refine hX.fg [4, 5] ?_
        exact b_Dec_readModrm_164 hX  hK
      · have hK := ite_n hK h4
        refine And.intro (fun h5 => ?_) (fun h5 => ?_)
        · have hK := ite_p hK h5
          refine hX.fg [4, 5] ?_
          exact b_Dec_readModrm_164 hX  hK
        · have hK := ite_n hK h5
          refine hX.fg [4, 5] ?_
          exact b_Dec_readModrm_168 hX  hK
  · have hK := ite_n hK h2
    refine hX.fg [4, 5] ?_
    exact b_Dec_readModrm_168 hX  hK
def f_Dec_readModrm_91 (σ : Sg) (x3 : Int32) (x4 : Int32) (y0 : Int32) : Sg := (if x3 = (1 : Int32) then (bnd (f_Dec_nextByte σ) fun r2 => (f_Dec_readModrm_125 r2.2 x4 (y0 + (r2.1 : Int32).toInt8.toInt32))) else (if x3 = (2 : Int32) then (bnd (f_Dec_nextWord σ) fun r4 => (f_Dec_readModrm_125 r4.2 x4 (y0 + r4.1))) else (f_Dec_readModrm_125 σ x4 y0)))
abbrev w_Dec_readModrm_91 : List (Nat × Option Nat) := [(3, some 2), (14, some 6), (14, some 10)]
theorem p_Dec_readModrm_91 {P : Sg → Prop} (hP : WP w_Dec_readModrm_91 P) {σ : Sg} {x3 : Int32} {x4 : Int32} {y0 : Int32} (h : P σ) : P (f_Dec_readModrm_91 σ x3 x4 y0) := by
  unfold f_Dec_readModrm_91
  refine ite_z (fun _ => ?_) (fun _ => ?_)
  · refine bnd_zz (Z := PP P) (p_Dec_nextByte (wsub hP rfl) h) fun r2 e2 q2 => ?_
    exact p_Dec_readModrm_125 (wsub hP rfl) q2
  · refine ite_z (fun _ => ?_) (fun _ => ?_)
    · refine bnd_zz (Z := PP P) (p_Dec_nextWord (wsub hP rfl) h) fun r4 e4 q4 => ?_
      exact p_Dec_readModrm_125 (wsub hP rfl) q4
    · exact p_Dec_readModrm_125 (wsub hP rfl) h
set_option maxRecDepth 100000 in
set_option maxHeartbeats 4000000 in
theorem b_Dec_readModrm_91 {l : Launch} {ad : Nat → Nat} {D : va_G} {cI : ClassId} {K : Option Value → Sg → Prop} {X : Nat → List Value → List Value → Sg → Prop} (hX : Cl l ad D cI mi_Dec_readModrm pt_Dec K X) {σ : Sg} {x3 : Int32} {x4 : Int32} {y0 : Int32} (z_x4 : x4 = 0 ∨ x4 = 1)  (hK : KV K (f_Dec_readModrm_91 σ x3 x4 y0)) : X 91 [.ref 14, .null, .null, .int x3, .int x4, .null, .null] [.int y0] σ := by
  unfold f_Dec_readModrm_91 at hK
  refine hX.1 111 I_Dec_readModrm_91 ok_Dec_readModrm_91 _ _ _ ?_
  refine And.intro (fun h1 => ?_) (fun h1 => ?_)
  · have hK := ite_p hK h1
    refine s_Dec_nextByte (bnd_g hK fun r2 e2 hK => ?_)
    refine hX.fg [3] ?_
    exact b_Dec_readModrm_125 hX z_x4 hK
  · have hK := ite_n hK h1
    refine hX.1 125 I_Dec_readModrm_111 ok_Dec_readModrm_111 _ _ _ ?_
    refine And.intro (fun h3 => ?_) (fun h3 => ?_)
    · have hK := ite_p hK h3
      refine s_Dec_nextWord (bnd_g hK fun r4 e4 hK => ?_)
      refine hX.fg [3] ?_
      exact b_Dec_readModrm_125 hX z_x4 hK
    · have hK := ite_n hK h3
      refine hX.fg [3] ?_
      exact b_Dec_readModrm_125 hX z_x4 hK
def f_Dec_readModrm_73 (σ : Sg) (x3 : Int32) (y0 : Int32) : Sg := (if y0 = (0 : Int32) then (bnd (f_Dec_base σ) fun r2 => (f_Dec_readModrm_91 r2.2 x3 y0 r2.1)) else (bnd (f_Dec_nextWord σ) fun r3 => (f_Dec_readModrm_91 r3.2 x3 y0 r3.1)))
abbrev w_Dec_readModrm_73 : List (Nat × Option Nat) := [(3, some 2), (14, some 6), (14, some 10)]
theorem p_Dec_readModrm_73 {P : Sg → Prop} (hP : WP w_Dec_readModrm_73 P) {σ : Sg} {x3 : Int32} {y0 : Int32} (h : P σ) : P (f_Dec_readModrm_73 σ x3 y0) := by
  unfold f_Dec_readModrm_73
  refine ite_z (fun _ => ?_) (fun _ => ?_)
  · refine bnd_zz (Z := PP P) (p_Dec_base (wsub hP rfl) h) fun r2 e2 q2 => ?_
    exact p_Dec_readModrm_91 (wsub hP rfl) q2
  · refine bnd_zz (Z := PP P) (p_Dec_nextWord (wsub hP rfl) h) fun r3 e3 q3 => ?_
    exact p_Dec_readModrm_91 (wsub hP rfl) q3
set_option maxRecDepth 100000 in
set_option maxHeartbeats 4000000 in
theorem b_Dec_readModrm_73 {l : Launch} {ad : Nat → Nat} {D : va_G} {cI : ClassId} {K : Option Value → Sg → Prop} {X : Nat → List Value → List Value → Sg → Prop} (hX : Cl l ad D cI mi_Dec_readModrm pt_Dec K X) {σ : Sg} {x3 : Int32} {y0 : Int32} (z_y0 : y0 = 0 ∨ y0 = 1)  (hK : KV K (f_Dec_readModrm_73 σ x3 y0)) : X 73 [.ref 14, .null, .null, .int x3, .null, .null, .null] [.int y0] σ := by
  unfold f_Dec_readModrm_73 at hK
  refine hX.1 87 I_Dec_readModrm_73 ok_Dec_readModrm_73 _ _ _ ?_
  refine And.intro (fun h1 => ?_) (fun h1 => ?_)
  · have hK := ite_p hK h1
    refine hX.1 91 I_Dec_readModrm_87 ok_Dec_readModrm_87 _ _ _ ?_
    refine s_Dec_base (bnd_g hK fun r2 e2 hK => ?_)
    exact b_Dec_readModrm_91 hX z_y0 hK
  · have hK := ite_n hK h1
    refine s_Dec_nextWord (bnd_g hK fun r3 e3 hK => ?_)
    exact b_Dec_readModrm_91 hX z_y0 hK
def f_Dec_readModrm_72 (σ : Sg) (x3 : Int32) : Sg := (f_Dec_readModrm_73 σ x3 (0 : Int32))
abbrev w_Dec_readModrm_72 : List (Nat × Option Nat) := [(3, some 2), (14, some 6), (14, some 10)]
theorem p_Dec_readModrm_72 {P : Sg → Prop} (hP : WP w_Dec_readModrm_72 P) {σ : Sg} {x3 : Int32} (h : P σ) : P (f_Dec_readModrm_72 σ x3) := by
  unfold f_Dec_readModrm_72
  exact p_Dec_readModrm_73 (wsub hP rfl) h
set_option maxRecDepth 100000 in
set_option maxHeartbeats 4000000 in
theorem b_Dec_readModrm_72 {l : Launch} {ad : Nat → Nat} {D : va_G} {cI : ClassId} {K : Option Value → Sg → Prop} {X : Nat → List Value → List Value → Sg → Prop} (hX : Cl l ad D cI mi_Dec_readModrm pt_Dec K X) {σ : Sg} {x3 : Int32}   (hK : KV K (f_Dec_readModrm_72 σ x3)) : X 72 [.ref 14, .null, .null, .int x3, .null, .null, .null] [] σ := by
  unfold f_Dec_readModrm_72 at hK
  refine hX.1 73 I_Dec_readModrm_72 ok_Dec_readModrm_72 _ _ _ ?_
  exact b_Dec_readModrm_73 hX (Or.inl rfl) hK
def f_Dec_readModrm_44 (σ : Sg) (x3 : Int32) (y0 : Int32) : Sg := (bnd (up2 σ 14 7 y0) fun s1 => (if (s1 14 7) = (0 : Int32) then s1 else (if x3 = (0 : Int32) then (if (s1 14 9) = (6 : Int32) then (f_Dec_readModrm_73 s1 x3 (1 : Int32)) else (f_Dec_readModrm_72 s1 x3)) else (f_Dec_readModrm_72 s1 x3))))
abbrev w_Dec_readModrm_44 : List (Nat × Option Nat) := [(3, some 2), (14, some 6), (14, some 7), (14, some 10)]
theorem p_Dec_readModrm_44 {P : Sg → Prop} (hP : WP w_Dec_readModrm_44 P) {σ : Sg} {x3 : Int32} {y0 : Int32} (h : P σ) : P (f_Dec_readModrm_44 σ x3 y0) := by
  unfold f_Dec_readModrm_44
  refine bnd_zz (Z := P) (hP _ _ _ _ (Or.inr (by decide)) h) fun s1 e1 q1 => ?_
  refine ite_z (fun _ => ?_) (fun _ => ?_)
  · exact q1
  · refine ite_z (fun _ => ?_) (fun _ => ?_)
    · refine ite_z (fun _ => ?_) (fun _ => ?_)
      · exact p_Dec_readModrm_73 (wsub hP rfl) q1
      · exact p_Dec_readModrm_72 (wsub hP rfl) q1
    · exact p_Dec_readModrm_72 (wsub hP rfl) q1
set_option maxRecDepth 100000 in
set_option maxHeartbeats 4000000 in
theorem b_Dec_readModrm_44 {l : Launch} {ad : Nat → Nat} {D : va_G} {cI : ClassId} {K : Option Value → Sg → Prop} {X : Nat → List Value → List Value → Sg → Prop} (hX : Cl l ad D cI mi_Dec_readModrm pt_Dec K X) {σ : Sg} {x3 : Int32} {y0 : Int32} (z_y0 : y0 = 0 ∨ y0 = 1)  (hK : KV K (f_Dec_readModrm_44 σ x3 y0)) : X 44 [.ref 14, .null, .null, .int x3, .null, .null, .null] [.int y0, .ref 14] σ := by
  unfold f_Dec_readModrm_44 at hK
  refine hX.1 55 I_Dec_readModrm_44 ok_Dec_readModrm_44 _ _ _ ?_
  refine And.intro z_y0 (SG_g hK fun s1 e1 hK => ?_)
  refine And.intro (fun h2 => ?_) (fun h2 => ?_)
  · have hK := ite_p hK h2
    exact hK
  · have hK := ite_n hK h2
    refine hX.1 72 I_Dec_readModrm_55 ok_Dec_readModrm_55 _ _ _ ?_
    refine And.intro (fun h3 => ?_) (fun h3 => ?_)
    · have hK := ite_p hK h3
      refine And.intro (fun h4 => ?_) (fun h4 => ?_)
      · have hK := ite_p hK h4
        exact b_Dec_readModrm_73 hX (Or.inr rfl) hK
      · have hK := ite_n hK h4
        exact b_Dec_readModrm_72 hX  hK
    · have hK := ite_n hK h3
      exact b_Dec_readModrm_72 hX  hK
def f_Dec_readModrm (σ : Sg) (a1 : Int32) : Sg := (bnd (f_Dec_nextByte σ) fun r1 => bnd (up2 r1.2 14 5 ((r1.1 >>> ((3 : Int32) &&& 31 : Int32)) &&& (7 : Int32))) fun s2 => bnd (up2 s2 14 9 (r1.1 &&& (7 : Int32))) fun s3 => bnd (up2 s3 14 11 a1) fun s4 => (if (r1.1 >>> ((6 : Int32) &&& 31 : Int32)) = (3 : Int32) then (f_Dec_readModrm_44 s4 (r1.1 >>> ((6 : Int32) &&& 31 : Int32)) (0 : Int32)) else (f_Dec_readModrm_44 s4 (r1.1 >>> ((6 : Int32) &&& 31 : Int32)) (1 : Int32))))
abbrev w_Dec_readModrm : List (Nat × Option Nat) := [(3, some 2), (14, some 5), (14, some 6), (14, some 7), (14, some 9), (14, some 10), (14, some 11)]
theorem p_Dec_readModrm {P : Sg → Prop} (hP : WP w_Dec_readModrm P) {σ : Sg} {a1 : Int32} (h : P σ) : P (f_Dec_readModrm σ a1) := by
  unfold f_Dec_readModrm
  refine bnd_zz (Z := PP P) (p_Dec_nextByte (wsub hP rfl) h) fun r1 e1 q1 => ?_
  refine bnd_zz (Z := P) (hP _ _ _ _ (Or.inr (by decide)) q1) fun s2 e2 q2 => ?_
  refine bnd_zz (Z := P) (hP _ _ _ _ (Or.inr (by decide)) q2) fun s3 e3 q3 => ?_
  refine bnd_zz (Z := P) (hP _ _ _ _ (Or.inr (by decide)) q3) fun s4 e4 q4 => ?_
  refine ite_z (fun _ => ?_) (fun _ => ?_)
  · exact p_Dec_readModrm_44 (wsub hP rfl) q4
  · exact p_Dec_readModrm_44 (wsub hP rfl) q4
set_option maxRecDepth 100000 in
set_option maxHeartbeats 4000000 in
theorem s_Dec_readModrm {l : Launch} {ad : Nat → Nat} {D : va_G} {cI : ClassId} {σ : Sg} {a1 : Int32} {K : Option Value → Sg → Prop} (z_a1 : a1 = 0 ∨ a1 = 1)  (hK : KV K (f_Dec_readModrm σ a1)) : MetJ l ad D cI mi_Dec_readModrm [.ref 14, .int a1] σ K := by
  refine met_of mi_Dec_readModrm pt_Dec pt_Dec_in rfl pl_Dec rfl (Nat.le_of_ble_eq_true rfl) fun X hX => ?_
  have hX : Cl l ad D cI mi_Dec_readModrm pt_Dec K X := hX
  show X 0 [.ref 14, .int a1, .null, .null, .null, .null, .null] [] σ
  unfold f_Dec_readModrm at hK
  refine hX.1 43 I_Dec_readModrm_0 ok_Dec_readModrm_0 _ _ _ ?_
  refine s_Dec_nextByte (bnd_g hK fun r1 e1 hK => ?_)
  refine And.intro trivial (SG_g hK fun s2 e2 hK => ?_)
  refine And.intro trivial (SG_g hK fun s3 e3 hK => ?_)
  refine And.intro z_a1 (SG_g hK fun s4 e4 hK => ?_)
  refine And.intro (fun h5 => ?_) (fun h5 => ?_)
  · have hK := ite_p hK h5
    refine hX.1 44 I_Dec_readModrm_43 ok_Dec_readModrm_43 _ _ _ ?_
    refine hX.fg [1, 2] ?_
    exact b_Dec_readModrm_44 hX (Or.inl rfl) hK
  · have hK := ite_n hK h5
    refine hX.fg [1, 2] ?_
    exact b_Dec_readModrm_44 hX (Or.inr rfl) hK
def I_Dec_value_0 : List IT := [(0, .aload_n 0, 1, 0, 0, []), (1, .getfield 63, 3, 0, 0, []), (4, .ifCond .eq 25, 3, 0, 29, []), (7, .aload_n 0, 1, 0, 0, []), (8, .getfield 7, 3, 0, 0, []), (11, .aload_n 0, 1, 0, 0, []), (12, .getfield 76, 3, 0, 0, []), (15, .aload_n 0, 1, 0, 0, []), (16, .getfield 69, 3, 0, 0, []), (19, .aload_n 0, 1, 0, 0, []), (20, .getfield 59, 3, 0, 0, []), (23, .invokevirtual 43, 3, 0, 0, []), (26, .goto 18, 3, 0, 44, [])]
theorem ok_Dec_value_0 : blkOK b_Dec_value pt_Dec 29 I_Dec_value_0 = true := by decide +kernel
def I_Dec_value_29 : List IT := [(29, .aload_n 0, 1, 0, 0, []), (30, .getfield 13, 3, 0, 0, []), (33, .aload_n 0, 1, 0, 0, []), (34, .getfield 56, 3, 0, 0, []), (37, .aload_n 0, 1, 0, 0, []), (38, .getfield 59, 3, 0, 0, []), (41, .invokevirtual 79, 3, 0, 0, [])]
theorem ok_Dec_value_29 : blkOK b_Dec_value pt_Dec 44 I_Dec_value_29 = true := by decide +kernel
def I_Dec_value_44 : List IT := [(44, .ireturn, 1, 0, 0, [])]
theorem ok_Dec_value_44 : blkOK b_Dec_value pt_Dec 45 I_Dec_value_44 = true := by decide +kernel
def f_Dec_value (σ : Sg)  : Int32 × Sg := (if (σ 14 7) = (0 : Int32) then (bnd (f_Reg_value σ (σ 14 9) (σ 14 11)) fun r2 => (r2.1, r2.2)) else (bnd (f_Mem_fetch σ (σ 14 10) (σ 14 6) (σ 14 11)) fun r3 => (r3.1, r3.2)))
abbrev w_Dec_value : List (Nat × Option Nat) := []
theorem p_Dec_value {P : Sg → Prop} (hP : WP w_Dec_value P) {σ : Sg}  (h : P σ) : PP P (f_Dec_value σ ) := by
  unfold f_Dec_value
  refine ite_z (fun _ => ?_) (fun _ => ?_)
  · refine bnd_zz (Z := PP P) (p_Reg_value (wsub hP rfl) h) fun r2 e2 q2 => ?_
    exact q2
  · refine bnd_zz (Z := PP P) (p_Mem_fetch (wsub hP rfl) h) fun r3 e3 q3 => ?_
    exact q3
set_option maxRecDepth 100000 in
set_option maxHeartbeats 4000000 in
theorem s_Dec_value {l : Launch} {ad : Nat → Nat} {D : va_G} {cI : ClassId} {σ : Sg}  {K : Option Value → Sg → Prop}   (hK : KI K (f_Dec_value σ )) : MetJ l ad D cI mi_Dec_value [.ref 14] σ K := by
  refine met_of mi_Dec_value pt_Dec pt_Dec_in rfl pl_Dec rfl (Nat.le_of_ble_eq_true rfl) fun X hX => ?_
  have hX : Cl l ad D cI mi_Dec_value pt_Dec K X := hX
  show X 0 [.ref 14] [] σ
  unfold f_Dec_value at hK
  refine hX.1 29 I_Dec_value_0 ok_Dec_value_0 _ _ _ ?_
  refine And.intro (fun h1 => ?_) (fun h1 => ?_)
  · have hK := ite_p hK h1
    refine hX.1 44 I_Dec_value_29 ok_Dec_value_29 _ _ _ ?_
    refine s_Reg_value (bnd_g hK fun r2 e2 hK => ?_)
    refine hX.1 45 I_Dec_value_44 ok_Dec_value_44 _ _ _ ?_
    exact hK
  · have hK := ite_n hK h1
    refine s_Mem_fetch (bnd_g hK fun r3 e3 hK => ?_)
    refine hX.1 45 I_Dec_value_44 ok_Dec_value_44 _ _ _ ?_
    exact hK
def I_Dec_change_0 : List IT := [(0, .aload_n 0, 1, 0, 0, []), (1, .getfield 63, 3, 0, 0, []), (4, .ifCond .eq 26, 3, 0, 30, []), (7, .aload_n 0, 1, 0, 0, []), (8, .getfield 7, 3, 0, 0, []), (11, .aload_n 0, 1, 0, 0, []), (12, .getfield 76, 3, 0, 0, []), (15, .aload_n 0, 1, 0, 0, []), (16, .getfield 69, 3, 0, 0, []), (19, .aload_n 0, 1, 0, 0, []), (20, .getfield 59, 3, 0, 0, []), (23, .iload_n 1, 1, 0, 0, []), (24, .invokevirtual 83, 3, 0, 0, []), (27, .goto 19, 3, 0, 46, [])]
theorem ok_Dec_change_0 : blkOK b_Dec_change pt_Dec 30 I_Dec_change_0 = true := by decide +kernel
def I_Dec_change_30 : List IT := [(30, .aload_n 0, 1, 0, 0, []), (31, .getfield 13, 3, 0, 0, []), (34, .aload_n 0, 1, 0, 0, []), (35, .getfield 56, 3, 0, 0, []), (38, .aload_n 0, 1, 0, 0, []), (39, .getfield 59, 3, 0, 0, []), (42, .iload_n 1, 1, 0, 0, []), (43, .invokevirtual 87, 3, 0, 0, [])]
theorem ok_Dec_change_30 : blkOK b_Dec_change pt_Dec 46 I_Dec_change_30 = true := by decide +kernel
def I_Dec_change_46 : List IT := [(46, .return_, 1, 0, 0, [])]
theorem ok_Dec_change_46 : blkOK b_Dec_change pt_Dec 47 I_Dec_change_46 = true := by decide +kernel
def f_Dec_change (σ : Sg) (a1 : Int32) : Sg := (if (σ 14 7) = (0 : Int32) then (bnd (f_Reg_change σ (σ 14 9) (σ 14 11) a1) fun r2 => r2) else (bnd (f_Mem_store σ (σ 14 10) (σ 14 6) (σ 14 11) a1) fun r3 => r3))
abbrev w_Dec_change : List (Nat × Option Nat) := [(2, none), (4, none)]
theorem p_Dec_change {P : Sg → Prop} (hP : WP w_Dec_change P) {σ : Sg} {a1 : Int32} (h : P σ) : P (f_Dec_change σ a1) := by
  unfold f_Dec_change
  refine ite_z (fun _ => ?_) (fun _ => ?_)
  · refine bnd_zz (Z := P) (p_Reg_change (wsub hP rfl) h) fun r2 e2 q2 => ?_
    exact q2
  · refine bnd_zz (Z := P) (p_Mem_store (wsub hP rfl) h) fun r3 e3 q3 => ?_
    exact q3
set_option maxRecDepth 100000 in
set_option maxHeartbeats 4000000 in
theorem s_Dec_change {l : Launch} {ad : Nat → Nat} {D : va_G} {cI : ClassId} {σ : Sg} {a1 : Int32} {K : Option Value → Sg → Prop}   (hK : KV K (f_Dec_change σ a1)) : MetJ l ad D cI mi_Dec_change [.ref 14, .int a1] σ K := by
  refine met_of mi_Dec_change pt_Dec pt_Dec_in rfl pl_Dec rfl (Nat.le_of_ble_eq_true rfl) fun X hX => ?_
  have hX : Cl l ad D cI mi_Dec_change pt_Dec K X := hX
  show X 0 [.ref 14, .int a1] [] σ
  unfold f_Dec_change at hK
  refine hX.1 30 I_Dec_change_0 ok_Dec_change_0 _ _ _ ?_
  refine And.intro (fun h1 => ?_) (fun h1 => ?_)
  · have hK := ite_p hK h1
    refine hX.1 46 I_Dec_change_30 ok_Dec_change_30 _ _ _ ?_
    refine s_Reg_change (bnd_g hK fun r2 e2 hK => ?_)
    refine hX.1 47 I_Dec_change_46 ok_Dec_change_46 _ _ _ ?_
    exact hK
  · have hK := ite_n hK h1
    refine s_Mem_store (bnd_g hK fun r3 e3 hK => ?_)
    refine hX.1 47 I_Dec_change_46 ok_Dec_change_46 _ _ _ ?_
    exact hK
