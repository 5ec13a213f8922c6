def I_Mod_given_0 : List IT := [(0, .iconst (-1), 1, (-1), 0, []), (1, .istore_n 1, 1, 0, 0, []), (2, .bipush 7, 2, 7, 0, []), (4, .istore_n 2, 1, 0, 0, [])]
theorem ok_Mod_given_0 : blkOK b_Mod_given pt_Mod 5 I_Mod_given_0 = true := by decide +kernel
def I_Mod_given_5 : List IT := [(5, .iload_n 2, 1, 0, 0, []), (6, .ifCond .lt 38, 3, 0, 44, []), (9, .aload_n 0, 1, 0, 0, []), (10, .getfield 135, 3, 0, 0, []), (13, .iload_n 2, 1, 0, 0, []), (14, .ishr, 1, 0, 0, []), (15, .iconst 1, 1, 1, 0, []), (16, .iand, 1, 0, 0, []), (17, .iconst 1, 1, 1, 0, []), (18, .if_icmp .ne 18, 3, 0, 36, []), (21, .aload_n 0, 1, 0, 0, []), (22, .getfield 29, 3, 0, 0, []), (25, .iload_n 2, 1, 0, 0, []), (26, .ishr, 1, 0, 0, []), (27, .iconst 1, 1, 1, 0, []), (28, .iand, 1, 0, 0, []), (29, .ifCond .ne 7, 3, 0, 36, []), (32, .iload_n 2, 1, 0, 0, []), (33, .goto 4, 3, 0, 37, [])]
theorem ok_Mod_given_5 : blkOK b_Mod_given pt_Mod 36 I_Mod_given_5 = true := by decide +kernel
def I_Mod_given_36 : List IT := [(36, .iload_n 1, 1, 0, 0, [])]
theorem ok_Mod_given_36 : blkOK b_Mod_given pt_Mod 37 I_Mod_given_36 = true := by decide +kernel
def I_Mod_given_37 : List IT := [(37, .istore_n 1, 1, 0, 0, []), (38, .iinc 2 (-1), 3, (-1), 0, []), (41, .goto (-36), 3, 0, 5, [])]
theorem ok_Mod_given_37 : blkOK b_Mod_given pt_Mod 44 I_Mod_given_37 = true := by decide +kernel
def I_Mod_given_44 : List IT := [(44, .iload_n 1, 1, 0, 0, []), (45, .ifCond .lt 20, 3, 0, 65, []), (48, .aload_n 0, 1, 0, 0, []), (49, .getfield 138, 3, 0, 0, []), (52, .iconst 2, 1, 2, 0, []), (53, .iload_n 1, 1, 0, 0, []), (54, .ishl, 1, 0, 0, []), (55, .iconst 1, 1, 1, 0, []), (56, .isub, 1, 0, 0, []), (57, .iand, 1, 0, 0, []), (58, .ifCond .ne 7, 3, 0, 65, []), (61, .iconst 1, 1, 1, 0, []), (62, .goto 4, 3, 0, 66, [])]
theorem ok_Mod_given_44 : blkOK b_Mod_given pt_Mod 65 I_Mod_given_44 = true := by decide +kernel
def I_Mod_given_65 : List IT := [(65, .iconst 0, 1, 0, 0, [])]
theorem ok_Mod_given_65 : blkOK b_Mod_given pt_Mod 66 I_Mod_given_65 = true := by decide +kernel
def I_Mod_given_66 : List IT := [(66, .istore_n 2, 1, 0, 0, []), (67, .iload_n 2, 1, 0, 0, []), (68, .ifCond .eq 7, 3, 0, 75, []), (71, .iload_n 1, 1, 0, 0, []), (72, .goto 4, 3, 0, 76, [])]
theorem ok_Mod_given_66 : blkOK b_Mod_given pt_Mod 75 I_Mod_given_66 = true := by decide +kernel
def I_Mod_given_75 : List IT := [(75, .iconst (-1), 1, (-1), 0, [])]
theorem ok_Mod_given_75 : blkOK b_Mod_given pt_Mod 76 I_Mod_given_75 = true := by decide +kernel
def I_Mod_given_76 : List IT := [(76, .ireturn, 1, 0, 0, [])]
theorem ok_Mod_given_76 : blkOK b_Mod_given pt_Mod 77 I_Mod_given_76 = true := by decide +kernel
def f_Mod_given_66 (σ : Sg) (x1 : Int32) (y0 : Int32) : Int32 × Sg := (if y0 = (0 : Int32) then ((-1 : Int32), σ) else (x1, σ))
abbrev w_Mod_given_66 : List (Nat × Option Nat) := []
theorem p_Mod_given_66 {P : Sg → Prop} (hP : WP w_Mod_given_66 P) {σ : Sg} {x1 : Int32} {y0 : Int32} (h : P σ) : PP P (f_Mod_given_66 σ x1 y0) := by
  unfold f_Mod_given_66
  refine ite_z (fun _ => ?_) (fun _ => ?_)
  · exact h
  · exact h
set_option maxRecDepth 100000 in
set_option maxHeartbeats 4000000 in
theorem b_Mod_given_66 {l : Launch} {ad : Nat → Nat} {D : va_G} {cI : ClassId} {K : Option Value → Sg → Prop} {X : Nat → List Value → List Value → Sg → Prop} (hX : Cl l ad D cI mi_Mod_given pt_Mod K X) {σ : Sg} {x1 : Int32} {y0 : Int32} (z_y0 : y0 = 0 ∨ y0 = 1)  (hK : KI K (f_Mod_given_66 σ x1 y0)) : X 66 [.null, .int x1, .null] [.int y0] σ := by
  unfold f_Mod_given_66 at hK
  refine hX.1 75 I_Mod_given_66 ok_Mod_given_66 _ _ _ ?_
  refine And.intro (fun h1 => ?_) (fun h1 => ?_)
  · have hK := ite_p hK h1
    refine hX.1 76 I_Mod_given_75 ok_Mod_given_75 _ _ _ ?_
    refine hX.1 77 I_Mod_given_76 ok_Mod_given_76 _ _ _ ?_
    exact hK
  · have hK := ite_n hK h1
    refine hX.1 77 I_Mod_given_76 ok_Mod_given_76 _ _ _ ?_
    exact hK
def f_Mod_given_65 (σ : Sg) (x1 : Int32) : Int32 × Sg := (f_Mod_given_66 σ x1 (0 : Int32))
abbrev w_Mod_given_65 : List (Nat × Option Nat) := []
theorem p_Mod_given_65 {P : Sg → Prop} (hP : WP w_Mod_given_65 P) {σ : Sg} {x1 : Int32} (h : P σ) : PP P (f_Mod_given_65 σ x1) := by
  unfold f_Mod_given_65
  exact p_Mod_given_66 (wsub hP rfl) h
set_option maxRecDepth 100000 in
set_option maxHeartbeats 4000000 in
theorem b_Mod_given_65 {l : Launch} {ad : Nat → Nat} {D : va_G} {cI : ClassId} {K : Option Value → Sg → Prop} {X : Nat → List Value → List Value → Sg → Prop} (hX : Cl l ad D cI mi_Mod_given pt_Mod K X) {σ : Sg} {x1 : Int32}   (hK : KI K (f_Mod_given_65 σ x1)) : X 65 [.null, .int x1, .null] [] σ := by
  unfold f_Mod_given_65 at hK
  refine hX.1 66 I_Mod_given_65 ok_Mod_given_65 _ _ _ ?_
  exact b_Mod_given_66 hX (Or.inl rfl)  hK
def f_Mod_given_5_cm1 (σ : Sg) (x1 : Int32) : Int32 × Sg := (if x1 < (0 : Int32) then (f_Mod_given_65 σ x1) else (if ((σ 15 18) &&& (((2 : Int32) <<< (x1 &&& 31 : Int32)) - (1 : Int32))) = (0 : Int32) then (f_Mod_given_66 σ x1 (1 : Int32)) else (f_Mod_given_65 σ x1)))
abbrev w_Mod_given_5_cm1 : List (Nat × Option Nat) := []
theorem p_Mod_given_5_cm1 {P : Sg → Prop} (hP : WP w_Mod_given_5_cm1 P) {σ : Sg} {x1 : Int32} (h : P σ) : PP P (f_Mod_given_5_cm1 σ x1) := by
  unfold f_Mod_given_5_cm1
  refine ite_z (fun _ => ?_) (fun _ => ?_)
  · exact p_Mod_given_65 (wsub hP rfl) h
  · refine ite_z (fun _ => ?_) (fun _ => ?_)
    · exact p_Mod_given_66 (wsub hP rfl) h
    · exact p_Mod_given_65 (wsub hP rfl) h
set_option maxRecDepth 100000 in
set_option maxHeartbeats 4000000 in
theorem b_Mod_given_5_cm1 {l : Launch} {ad : Nat → Nat} {D : va_G} {cI : ClassId} {K : Option Value → Sg → Prop} {X : Nat → List Value → List Value → Sg → Prop} (hX : Cl l ad D cI mi_Mod_given pt_Mod K X) {σ : Sg} {x1 : Int32}   (hK : KI K (f_Mod_given_5_cm1 σ x1)) : X 5 [.ref 15, .int x1, .int (((((((((7 : Int32) + (-1 : Int32)) + (-1 : Int32)) + (-1 : Int32)) + (-1 : Int32)) + (-1 : Int32)) + (-1 : Int32)) + (-1 : Int32)) + (-1 : Int32))] [] σ := by
  unfold f_Mod_given_5_cm1 at hK
  refine hX.1 36 I_Mod_given_5 ok_Mod_given_5 _ _ _ ?_
  refine And.intro (fun _ => ?_) (fun h => absurd (by decide) h)
  refine hX.1 65 I_Mod_given_44 ok_Mod_given_44 _ _ _ ?_
  refine And.intro (fun h1 => ?_) (fun h1 => ?_)
  · have hK := ite_p hK h1
    refine hX.fg [0, 2] ?_
    exact b_Mod_given_65 hX  hK
  · have hK := ite_n hK h1
    refine And.intro (fun h2 => ?_) (fun h2 => ?_)
    · have hK := ite_p hK h2
      refine hX.fg [0, 2] ?_
      exact b_Mod_given_66 hX (Or.inr rfl)  hK
    · have hK := ite_n hK h2
      refine hX.fg [0, 2] ?_
      exact b_Mod_given_65 hX  hK
def f_Mod_given_37_c0 (σ : Sg) (y0 : Int32) : Int32 × Sg := (f_Mod_given_5_cm1 σ y0)
abbrev w_Mod_given_37_c0 : List (Nat × Option Nat) := []
theorem p_Mod_given_37_c0 {P : Sg → Prop} (hP : WP w_Mod_given_37_c0 P) {σ : Sg} {y0 : Int32} (h : P σ) : PP P (f_Mod_given_37_c0 σ y0) := by
  unfold f_Mod_given_37_c0
  exact p_Mod_given_5_cm1 (wsub hP rfl) h
set_option maxRecDepth 100000 in
set_option maxHeartbeats 4000000 in
theorem b_Mod_given_37_c0 {l : Launch} {ad : Nat → Nat} {D : va_G} {cI : ClassId} {K : Option Value → Sg → Prop} {X : Nat → List Value → List Value → Sg → Prop} (hX : Cl l ad D cI mi_Mod_given pt_Mod K X) {σ : Sg} {y0 : Int32}   (hK : KI K (f_Mod_given_37_c0 σ y0)) : X 37 [.ref 15, .null, .int ((((((((7 : Int32) + (-1 : Int32)) + (-1 : Int32)) + (-1 : Int32)) + (-1 : Int32)) + (-1 : Int32)) + (-1 : Int32)) + (-1 : Int32))] [.int y0] σ := by
  unfold f_Mod_given_37_c0 at hK
  refine hX.1 44 I_Mod_given_37 ok_Mod_given_37 _ _ _ ?_
  exact b_Mod_given_5_cm1 hX  hK
def f_Mod_given_36_c0 (σ : Sg) (x1 : Int32) : Int32 × Sg := (f_Mod_given_37_c0 σ x1)
abbrev w_Mod_given_36_c0 : List (Nat × Option Nat) := []
theorem p_Mod_given_36_c0 {P : Sg → Prop} (hP : WP w_Mod_given_36_c0 P) {σ : Sg} {x1 : Int32} (h : P σ) : PP P (f_Mod_given_36_c0 σ x1) := by
  unfold f_Mod_given_36_c0
  exact p_Mod_given_37_c0 (wsub hP rfl) h
set_option maxRecDepth 100000 in
set_option maxHeartbeats 4000000 in
theorem b_Mod_given_36_c0 {l : Launch} {ad : Nat → Nat} {D : va_G} {cI : ClassId} {K : Option Value → Sg → Prop} {X : Nat → List Value → List Value → Sg → Prop} (hX : Cl l ad D cI mi_Mod_given pt_Mod K X) {σ : Sg} {x1 : Int32}   (hK : KI K (f_Mod_given_36_c0 σ x1)) : X 36 [.ref 15, .int x1, .int ((((((((7 : Int32) + (-1 : Int32)) + (-1 : Int32)) + (-1 : Int32)) + (-1 : Int32)) + (-1 : Int32)) + (-1 : Int32)) + (-1 : Int32))] [] σ := by
  unfold f_Mod_given_36_c0 at hK
  refine hX.1 37 I_Mod_given_36 ok_Mod_given_36 _ _ _ ?_
  refine hX.fg [1] ?_
  exact b_Mod_given_37_c0 hX  hK
def f_Mod_given_5_c0 (σ : Sg) (x1 : Int32) : Int32 × Sg := (if (((σ 15 17) >>> (((((((((7 : Int32) + (-1 : Int32)) + (-1 : Int32)) + (-1 : Int32)) + (-1 : Int32)) + (-1 : Int32)) + (-1 : Int32)) + (-1 : Int32)) &&& 31 : Int32)) &&& (1 : Int32)) = (1 : Int32) then (if (((σ 15 19) >>> (((((((((7 : Int32) + (-1 : Int32)) + (-1 : Int32)) + (-1 : Int32)) + (-1 : Int32)) + (-1 : Int32)) + (-1 : Int32)) + (-1 : Int32)) &&& 31 : Int32)) &&& (1 : Int32)) = (0 : Int32) then (f_Mod_given_37_c0 σ ((((((((7 : Int32) + (-1 : Int32)) + (-1 : Int32)) + (-1 : Int32)) + (-1 : Int32)) + (-1 : Int32)) + (-1 : Int32)) + (-1 : Int32))) else (f_Mod_given_36_c0 σ x1)) else (f_Mod_given_36_c0 σ x1))
abbrev w_Mod_given_5_c0 : List (Nat × Option Nat) := []
theorem p_Mod_given_5_c0 {P : Sg → Prop} (hP : WP w_Mod_given_5_c0 P) {σ : Sg} {x1 : Int32} (h : P σ) : PP P (f_Mod_given_5_c0 σ x1) := by
  unfold f_Mod_given_5_c0
  refine ite_z (fun _ => ?_) (fun _ => ?_)
  · refine ite_z (fun _ => ?_) (fun _ => ?_)
    · exact p_Mod_given_37_c0 (wsub hP rfl) h
    · exact p_Mod_given_36_c0 (wsub hP rfl) h
  · exact p_Mod_given_36_c0 (wsub hP rfl) h
set_option maxRecDepth 100000 in
set_option maxHeartbeats 4000000 in
theorem b_Mod_given_5_c0 {l : Launch} {ad : Nat → Nat} {D : va_G} {cI : ClassId} {K : Option Value → Sg → Prop} {X : Nat → List Value → List Value → Sg → Prop} (hX : Cl l ad D cI mi_Mod_given pt_Mod K X) {σ : Sg} {x1 : Int32}   (hK : KI K (f_Mod_given_5_c0 σ x1)) : X 5 [.ref 15, .int x1, .int ((((((((7 : Int32) + (-1 : Int32)) + (-1 : Int32)) + (-1 : Int32)) + (-1 : Int32)) + (-1 : Int32)) + (-1 : Int32)) + (-1 : Int32))] [] σ := by
  unfold f_Mod_given_5_c0 at hK
  refine hX.1 36 I_Mod_given_5 ok_Mod_given_5 _ _ _ ?_
  refine And.intro (fun h => absurd h (by decide)) (fun _ => ?_)
  refine And.intro (fun h1 => ?_) (fun h1 => ?_)
  · have hK := ite_p hK h1
    refine And.intro (fun h2 => ?_) (fun h2 => ?_)
    · have hK := ite_p hK h2
      refine hX.fg [1] ?_
      exact b_Mod_given_37_c0 hX  hK
    · have hK := ite_n hK h2
      exact b_Mod_given_36_c0 hX  hK
  · have hK := ite_n hK h1
    exact b_Mod_given_36_c0 hX  hK
def f_Mod_given_37_c1 (σ : Sg) (y0 : Int32) : Int32 × Sg := (f_Mod_given_5_c0 σ y0)
abbrev w_Mod_given_37_c1 : List (Nat × Option Nat) := []
theorem p_Mod_given_37_c1 {P : Sg → Prop} (hP : WP w_Mod_given_37_c1 P) {σ : Sg} {y0 : Int32} (h : P σ) : PP P (f_Mod_given_37_c1 σ y0) := by
  unfold f_Mod_given_37_c1
  exact p_Mod_given_5_c0 (wsub hP rfl) h
set_option maxRecDepth 100000 in
set_option maxHeartbeats 4000000 in
theorem b_Mod_given_37_c1 {l : Launch} {ad : Nat → Nat} {D : va_G} {cI : ClassId} {K : Option Value → Sg → Prop} {X : Nat → List Value → List Value → Sg → Prop} (hX : Cl l ad D cI mi_Mod_given pt_Mod K X) {σ : Sg} {y0 : Int32}   (hK : KI K (f_Mod_given_37_c1 σ y0)) : X 37 [.ref 15, .null, .int (((((((7 : Int32) + (-1 : Int32)) + (-1 : Int32)) + (-1 : Int32)) + (-1 : Int32)) + (-1 : Int32)) + (-1 : Int32))] [.int y0] σ := by
  unfold f_Mod_given_37_c1 at hK
  refine hX.1 44 I_Mod_given_37 ok_Mod_given_37 _ _ _ ?_
  exact b_Mod_given_5_c0 hX  hK
def f_Mod_given_36_c1 (σ : Sg) (x1 : Int32) : Int32 × Sg := (f_Mod_given_37_c1 σ x1)
abbrev w_Mod_given_36_c1 : List (Nat × Option Nat) := []
theorem p_Mod_given_36_c1 {P : Sg → Prop} (hP : WP w_Mod_given_36_c1 P) {σ : Sg} {x1 : Int32} (h : P σ) : PP P (f_Mod_given_36_c1 σ x1) := by
  unfold f_Mod_given_36_c1
  exact p_Mod_given_37_c1 (wsub hP rfl) h
set_option maxRecDepth 100000 in
set_option maxHeartbeats 4000000 in
theorem b_Mod_given_36_c1 {l : Launch} {ad : Nat → Nat} {D : va_G} {cI : ClassId} {K : Option Value → Sg → Prop} {X : Nat → List Value → List Value → Sg → Prop} (hX : Cl l ad D cI mi_Mod_given pt_Mod K X) {σ : Sg} {x1 : Int32}   (hK : KI K (f_Mod_given_36_c1 σ x1)) : X 36 [.ref 15, .int x1, .int (((((((7 : Int32) + (-1 : Int32)) + (-1 : Int32)) + (-1 : Int32)) + (-1 : Int32)) + (-1 : Int32)) + (-1 : Int32))] [] σ := by
  unfold f_Mod_given_36_c1 at hK
  refine hX.1 37 I_Mod_given_36 ok_Mod_given_36 _ _ _ ?_
  refine hX.fg [1] ?_
  exact b_Mod_given_37_c1 hX  hK
def f_Mod_given_5_c1 (σ : Sg) (x1 : Int32) : Int32 × Sg := (if (((σ 15 17) >>> ((((((((7 : Int32) + (-1 : Int32)) + (-1 : Int32)) + (-1 : Int32)) + (-1 : Int32)) + (-1 : Int32)) + (-1 : Int32)) &&& 31 : Int32)) &&& (1 : Int32)) = (1 : Int32) then (if (((σ 15 19) >>> ((((((((7 : Int32) + (-1 : Int32)) + (-1 : Int32)) + (-1 : Int32)) + (-1 : Int32)) + (-1 : Int32)) + (-1 : Int32)) &&& 31 : Int32)) &&& (1 : Int32)) = (0 : Int32) then (f_Mod_given_37_c1 σ (((((((7 : Int32) + (-1 : Int32)) + (-1 : Int32)) + (-1 : Int32)) + (-1 : Int32)) + (-1 : Int32)) + (-1 : Int32))) else (f_Mod_given_36_c1 σ x1)) else (f_Mod_given_36_c1 σ x1))
abbrev w_Mod_given_5_c1 : List (Nat × Option Nat) := []
theorem p_Mod_given_5_c1 {P : Sg → Prop} (hP : WP w_Mod_given_5_c1 P) {σ : Sg} {x1 : Int32} (h : P σ) : PP P (f_Mod_given_5_c1 σ x1) := by
  unfold f_Mod_given_5_c1
  refine ite_z (fun _ => ?_) (fun _ => ?_)
  · refine ite_z (fun _ => ?_) (fun _ => ?_)
    · exact p_Mod_given_37_c1 (wsub hP rfl) h
    · exact p_Mod_given_36_c1 (wsub hP rfl) h
  · exact p_Mod_given_36_c1 (wsub hP rfl) h
set_option maxRecDepth 100000 in
set_option maxHeartbeats 4000000 in
theorem b_Mod_given_5_c1 {l : Launch} {ad : Nat → Nat} {D : va_G} {cI : ClassId} {K : Option Value → Sg → Prop} {X : Nat → List Value → List Value → Sg → Prop} (hX : Cl l ad D cI mi_Mod_given pt_Mod K X) {σ : Sg} {x1 : Int32}   (hK : KI K (f_Mod_given_5_c1 σ x1)) : X 5 [.ref 15, .int x1, .int (((((((7 : Int32) + (-1 : Int32)) + (-1 : Int32)) + (-1 : Int32)) + (-1 : Int32)) + (-1 : Int32)) + (-1 : Int32))] [] σ := by
  unfold f_Mod_given_5_c1 at hK
  refine hX.1 36 I_Mod_given_5 ok_Mod_given_5 _ _ _ ?_
  refine And.intro (fun h => absurd h (by decide)) (fun _ => ?_)
  refine And.intro (fun h1 => ?_) (fun h1 => ?_)
  · have hK := ite_p hK h1
    refine And.intro (fun h2 => ?_) (fun h2 => ?_)
    · have hK := ite_p hK h2
      refine hX.fg [1] ?_
      exact b_Mod_given_37_c1 hX  hK
    · have hK := ite_n hK h2
      exact b_Mod_given_36_c1 hX  hK
  · have hK := ite_n hK h1
    exact b_Mod_given_36_c1 hX  hK
def f_Mod_given_37_c2 (σ : Sg) (y0 : Int32) : Int32 × Sg := (f_Mod_given_5_c1 σ y0)
abbrev w_Mod_given_37_c2 : List (Nat × Option Nat) := []
theorem p_Mod_given_37_c2 {P : Sg → Prop} (hP : WP w_Mod_given_37_c2 P) {σ : Sg} {y0 : Int32} (h : P σ) : PP P (f_Mod_given_37_c2 σ y0) := by
  unfold f_Mod_given_37_c2
  exact p_Mod_given_5_c1 (wsub hP rfl) h
set_option maxRecDepth 100000 in
set_option maxHeartbeats 4000000 in
theorem b_Mod_given_37_c2 {l : Launch} {ad : Nat → Nat} {D : va_G} {cI : ClassId} {K : Option Value → Sg → Prop} {X : Nat → List Value → List Value → Sg → Prop} (hX : Cl l ad D cI mi_Mod_given pt_Mod K X) {σ : Sg} {y0 : Int32}   (hK : KI K (f_Mod_given_37_c2 σ y0)) : X 37 [.ref 15, .null, .int ((((((7 : Int32) + (-1 : Int32)) + (-1 : Int32)) + (-1 : Int32)) + (-1 : Int32)) + (-1 : Int32))] [.int y0] σ := by
  unfold f_Mod_given_37_c2 at hK
  refine hX.1 44 I_Mod_given_37 ok_Mod_given_37 _ _ _ ?_
  exact b_Mod_given_5_c1 hX  hK
def f_Mod_given_36_c2 (σ : Sg) (x1 : Int32) : Int32 × Sg := (f_Mod_given_37_c2 σ x1)
abbrev w_Mod_given_36_c2 : List (Nat × Option Nat) := []
theorem p_Mod_given_36_c2 {P : Sg → Prop} (hP : WP w_Mod_given_36_c2 P) {σ : Sg} {x1 : Int32} (h : P σ) : PP P (f_Mod_given_36_c2 σ x1) := by
  unfold f_Mod_given_36_c2
  exact p_Mod_given_37_c2 (wsub hP rfl) h
set_option maxRecDepth 100000 in
set_option maxHeartbeats 4000000 in
theorem b_Mod_given_36_c2 {l : Launch} {ad : Nat → Nat} {D : va_G} {cI : ClassId} {K : Option Value → Sg → Prop} {X : Nat → List Value → List Value → Sg → Prop} (hX : Cl l ad D cI mi_Mod_given pt_Mod K X) {σ : Sg} {x1 : Int32}   (hK : KI K (f_Mod_given_36_c2 σ x1)) : X 36 [.ref 15, .int x1, .int ((((((7 : Int32) + (-1 : Int32)) + (-1 : Int32)) + (-1 : Int32)) + (-1 : Int32)) + (-1 : Int32))] [] σ := by
  unfold f_Mod_given_36_c2 at hK
  refine hX.1 37 I_Mod_given_36 ok_Mod_given_36 _ _ _ ?_
  refine hX.fg [1] ?_
  exact b_Mod_given_37_c2 hX  hK
def f_Mod_given_5_c2 (σ : Sg) (x1 : Int32) : Int32 × Sg := (if (((σ 15 17) >>> (((((((7 : Int32) + (-1 : Int32)) + (-1 : Int32)) + (-1 : Int32)) + (-1 : Int32)) + (-1 : Int32)) &&& 31 : Int32)) &&& (1 : Int32)) = (1 : Int32) then (if (((σ 15 19) >>> (((((((7 : Int32) + (-1 : Int32)) + (-1 : Int32)) + (-1 : Int32)) + (-1 : Int32)) + (-1 : Int32)) &&& 31 : Int32)) &&& (1 : Int32)) = (0 : Int32) then (f_Mod_given_37_c2 σ ((((((7 : Int32) + (-1 : Int32)) + (-1 : Int32)) + (-1 : Int32)) + (-1 : Int32)) + (-1 : Int32))) else (f_Mod_given_36_c2 σ x1)) else (f_Mod_given_36_c2 σ x1))
abbrev w_Mod_given_5_c2 : List (Nat × Option Nat) := []
theorem p_Mod_given_5_c2 {P : Sg → Prop} (hP : WP w_Mod_given_5_c2 P) {σ : Sg} {x1 : Int32} (h : P σ) : PP P (f_Mod_given_5_c2 σ x1) := by
  unfold f_Mod_given_5_c2
  refine ite_z (fun _ => ?_) (fun _ => ?_)
  · refine ite_z (fun _ => ?_) (fun _ => ?_)
    · exact p_Mod_given_37_c2 (wsub hP rfl) h
    · exact p_Mod_given_36_c2 (wsub hP rfl) h
  · exact p_Mod_given_36_c2 (wsub hP rfl) h
set_option maxRecDepth 100000 in
set_option maxHeartbeats 4000000 in
theorem b_Mod_given_5_c2 {l : Launch} {ad : Nat → Nat} {D : va_G} {cI : ClassId} {K : Option Value → Sg → Prop} {X : Nat → List Value → List Value → Sg → Prop} (hX : Cl l ad D cI mi_Mod_given pt_Mod K X) {σ : Sg} {x1 : Int32}   (hK : KI K (f_Mod_given_5_c2 σ x1)) : X 5 [.ref 15, .int x1, .int ((((((7 : Int32) + (-1 : Int32)) + (-1 : Int32)) + (-1 : Int32)) + (-1 : Int32)) + (-1 : Int32))] [] σ := by
  unfold f_Mod_given_5_c2 at hK
  refine hX.1 36 I_Mod_given_5 ok_Mod_given_5 _ _ _ ?_
  refine And.intro (fun h => absurd h (by decide)) (fun _ => ?_)
  refine And.intro (fun h1 => ?_) (fun h1 => ?_)
  · have hK := ite_p hK h1
    refine And.intro (fun h2 => ?_) (fun h2 => ?_)
    · have hK := ite_p hK h2
      refine hX.fg [1] ?_
      exact b_Mod_given_37_c2 hX  hK
    · have hK := ite_n hK h2
      exact b_Mod_given_36_c2 hX  hK
  · have hK := ite_n hK h1
    exact b_Mod_given_36_c2 hX  hK
def f_Mod_given_37_c3 (σ : Sg) (y0 : Int32) : Int32 × Sg := (f_Mod_given_5_c2 σ y0)
abbrev w_Mod_given_37_c3 : List (Nat × Option Nat) := []
theorem p_Mod_given_37_c3 {P : Sg → Prop} (hP : WP w_Mod_given_37_c3 P) {σ : Sg} {y0 : Int32} (h : P σ) : PP P (f_Mod_given_37_c3 σ y0) := by
  unfold f_Mod_given_37_c3
  exact p_Mod_given_5_c2 (wsub hP rfl) h
set_option maxRecDepth 100000 in
set_option maxHeartbeats 4000000 in
theorem b_Mod_given_37_c3 {l : Launch} {ad : Nat → Nat} {D : va_G} {cI : ClassId} {K : Option Value → Sg → Prop} {X : Nat → List Value → List Value → Sg → Prop} (hX : Cl l ad D cI mi_Mod_given pt_Mod K X) {σ : Sg} {y0 : Int32}   (hK : KI K (f_Mod_given_37_c3 σ y0)) : X 37 [.ref 15, .null, .int (((((7 : Int32) + (-1 : Int32)) + (-1 : Int32)) + (-1 : Int32)) + (-1 : Int32))] [.int y0] σ := by
  unfold f_Mod_given_37_c3 at hK
  refine hX.1 44 I_Mod_given_37 ok_Mod_given_37 _ _ _ ?_
  exact b_Mod_given_5_c2 hX  hK
def f_Mod_given_36_c3 (σ : Sg) (x1 : Int32) : Int32 × Sg := (f_Mod_given_37_c3 σ x1)
abbrev w_Mod_given_36_c3 : List (Nat × Option Nat) := []
theorem p_Mod_given_36_c3 {P : Sg → Prop} (hP : WP w_Mod_given_36_c3 P) {σ : Sg} {x1 : Int32} (h : P σ) : PP P (f_Mod_given_36_c3 σ x1) := by
  unfold f_Mod_given_36_c3
  exact p_Mod_given_37_c3 (wsub hP rfl) h
set_option maxRecDepth 100000 in
set_option maxHeartbeats 4000000 in
theorem b_Mod_given_36_c3 {l : Launch} {ad : Nat → Nat} {D : va_G} {cI : ClassId} {K : Option Value → Sg → Prop} {X : Nat → List Value → List Value → Sg → Prop} (hX : Cl l ad D cI mi_Mod_given pt_Mod K X) {σ : Sg} {x1 : Int32}   (hK : KI K (f_Mod_given_36_c3 σ x1)) : X 36 [.ref 15, .int x1, .int (((((7 : Int32) + (-1 : Int32)) + (-1 : Int32)) + (-1 : Int32)) + (-1 : Int32))] [] σ := by
  unfold f_Mod_given_36_c3 at hK
  refine hX.1 37 I_Mod_given_36 ok_Mod_given_36 _ _ _ ?_
  refine hX.fg [1] ?_
  exact b_Mod_given_37_c3 hX  hK
def f_Mod_given_5_c3 (σ : Sg) (x1 : Int32) : Int32 × Sg := (if (((σ 15 17) >>> ((((((7 : Int32) + (-1 : Int32)) + (-1 : Int32)) + (-1 : Int32)) + (-1 : Int32)) &&& 31 : Int32)) &&& (1 : Int32)) = (1 : Int32) then (if (((σ 15 19) >>> ((((((7 : Int32) + (-1 : Int32)) + (-1 : Int32)) + (-1 : Int32)) + (-1 : Int32)) &&& 31 : Int32)) &&& (1 : Int32)) = (0 : Int32) then (f_Mod_given_37_c3 σ (((((7 : Int32) + (-1 : Int32)) + (-1 : Int32)) + (-1 : Int32)) + (-1 : Int32))) else (f_Mod_given_36_c3 σ x1)) else (f_Mod_given_36_c3 σ x1))
abbrev w_Mod_given_5_c3 : List (Nat × Option Nat) := []
theorem p_Mod_given_5_c3 {P : Sg → Prop} (hP : WP w_Mod_given_5_c3 P) {σ : Sg} {x1 : Int32} (h : P σ) : PP P (f_Mod_given_5_c3 σ x1) := by
  unfold f_Mod_given_5_c3
  refine ite_z (fun _ => ?_) (fun _ => ?_)
  · refine ite_z (fun _ => ?_) (fun _ => ?_)
    · exact p_Mod_given_37_c3 (wsub hP rfl) h
    · exact p_Mod_given_36_c3 (wsub hP rfl) h
  · exact p_Mod_given_36_c3 (wsub hP rfl) h
set_option maxRecDepth 100000 in
set_option maxHeartbeats 4000000 in
theorem b_Mod_given_5_c3 {l : Launch} {ad : Nat → Nat} {D : va_G} {cI : ClassId} {K : Option Value → Sg → Prop} {X : Nat → List Value → List Value → Sg → Prop} (hX : Cl l ad D cI mi_Mod_given pt_Mod K X) {σ : Sg} {x1 : Int32}   (hK : KI K (f_Mod_given_5_c3 σ x1)) : X 5 [.ref 15, .int x1, .int (((((7 : Int32) + (-1 : Int32)) + (-1 : Int32)) + (-1 : Int32)) + (-1 : Int32))] [] σ := by
  unfold f_Mod_given_5_c3 at hK
  refine hX.1 36 I_Mod_given_5 ok_Mod_given_5 _ _ _ ?_
  refine And.intro (fun h => absurd h (by decide)) (fun _ => ?_)
  refine And.intro (fun h1 => ?_) (fun h1 => ?_)
  · have hK := ite_p hK h1
    refine And.intro (fun h2 => ?_) (fun h2 => ?_)
    · have hK := ite_p hK h2
      refine hX.fg [1] ?_
      exact b_Mod_given_37_c3 hX  hK
    · have hK := ite_n hK h2
      exact b_Mod_given_36_c3 hX  hK
  · have hK := ite_n hK h1
    exact b_Mod_given_36_c3 hX  hK
def f_Mod_given_37_c4 (σ : Sg) (y0 : Int32) : Int32 × Sg := (f_Mod_given_5_c3 σ y0)
abbrev w_Mod_given_37_c4 : List (Nat × Option Nat) := []
theorem p_Mod_given_37_c4 {P : Sg → Prop} (hP : WP w_Mod_given_37_c4 P) {σ : Sg} {y0 : Int32} (h : P σ) : PP P (f_Mod_given_37_c4 σ y0) := by
  unfold f_Mod_given_37_c4
  exact p_Mod_given_5_c3 (wsub hP rfl) h
set_option maxRecDepth 100000 in
set_option maxHeartbeats 4000000 in
theorem b_Mod_given_37_c4 {l : Launch} {ad : Nat → Nat} {D : va_G} {cI : ClassId} {K : Option Value → Sg → Prop} {X : Nat → List Value → List Value → Sg → Prop} (hX : Cl l ad D cI mi_Mod_given pt_Mod K X) {σ : Sg} {y0 : Int32}   (hK : KI K (f_Mod_given_37_c4 σ y0)) : X 37 [.ref 15, .null, .int ((((7 : Int32) + (-1 : Int32)) + (-1 : Int32)) + (-1 : Int32))] [.int y0] σ := by
  unfold f_Mod_given_37_c4 at hK
  refine hX.1 44 I_Mod_given_37 ok_Mod_given_37 _ _ _ ?_
  exact b_Mod_given_5_c3 hX  hK
def f_Mod_given_36_c4 (σ : Sg) (x1 : Int32) : Int32 × Sg := (f_Mod_given_37_c4 σ x1)
abbrev w_Mod_given_36_c4 : List (Nat × Option Nat) := []
theorem p_Mod_given_36_c4 {P : Sg → Prop} (hP : WP w_Mod_given_36_c4 P) {σ : Sg} {x1 : Int32} (h : P σ) : PP P (f_Mod_given_36_c4 σ x1) := by
  unfold f_Mod_given_36_c4
  exact p_Mod_given_37_c4 (wsub hP rfl) h
set_option maxRecDepth 100000 in
set_option maxHeartbeats 4000000 in
theorem b_Mod_given_36_c4 {l : Launch} {ad : Nat → Nat} {D : va_G} {cI : ClassId} {K : Option Value → Sg → Prop} {X : Nat → List Value → List Value → Sg → Prop} (hX : Cl l ad D cI mi_Mod_given pt_Mod K X) {σ : Sg} {x1 : Int32}   (hK : KI K (f_Mod_given_36_c4 σ x1)) : X 36 [.ref 15, .int x1, .int ((((7 : Int32) + (-1 : Int32)) + (-1 : Int32)) + (-1 : Int32))] [] σ := by
  unfold f_Mod_given_36_c4 at hK
  refine hX.1 37 I_Mod_given_36 ok_Mod_given_36 _ _ _ ?_
  refine hX.fg [1] ?_
  exact b_Mod_given_37_c4 hX  hK
def f_Mod_given_5_c4 (σ : Sg) (x1 : Int32) : Int32 × Sg := (if (((σ 15 17) >>> (((((7 : Int32) + (-1 : Int32)) + (-1 : Int32)) + (-1 : Int32)) &&& 31 : Int32)) &&& (1 : Int32)) = (1 : Int32) then (if (((σ 15 19) >>> (((((7 : Int32) + (-1 : Int32)) + (-1 : Int32)) + (-1 : Int32)) &&& 31 : Int32)) &&& (1 : Int32)) = (0 : Int32) then (f_Mod_given_37_c4 σ ((((7 : Int32) + (-1 : Int32)) + (-1 : Int32)) + (-1 : Int32))) else (f_Mod_given_36_c4 σ x1)) else (f_Mod_given_36_c4 σ x1))
abbrev w_Mod_given_5_c4 : List (Nat × Option Nat) := []
theorem p_Mod_given_5_c4 {P : Sg → Prop} (hP : WP w_Mod_given_5_c4 P) {σ : Sg} {x1 : Int32} (h : P σ) : PP P (f_Mod_given_5_c4 σ x1) := by
  unfold f_Mod_given_5_c4
  refine ite_z (fun _ => ?_) (fun _ => ?_)
  · refine ite_z (fun _ => ?_) (fun _ => ?_)
    · exact p_Mod_given_37_c4 (wsub hP rfl) h
    · exact p_Mod_given_36_c4 (wsub hP rfl) h
  · exact p_Mod_given_36_c4 (wsub hP rfl) h
set_option maxRecDepth 100000 in
set_option maxHeartbeats 4000000 in
theorem b_Mod_given_5_c4 {l : Launch} {ad : Nat → Nat} {D : va_G} {cI : ClassId} {K : Option Value → Sg → Prop} {X : Nat → List Value → List Value → Sg → Prop} (hX : Cl l ad D cI mi_Mod_given pt_Mod K X) {σ : Sg} {x1 : Int32}   (hK : KI K (f_Mod_given_5_c4 σ x1)) : X 5 [.ref 15, .int x1, .int ((((7 : Int32) + (-1 : Int32)) + (-1 : Int32)) + (-1 : Int32))] [] σ := by
  unfold f_Mod_given_5_c4 at hK
  refine hX.1 36 I_Mod_given_5 ok_Mod_given_5 _ _ _ ?_
  refine And.intro (fun h => absurd h (by decide)) (fun _ => ?_)
  refine And.intro (fun h1 => ?_) (fun h1 => ?_)
  · have hK := ite_p hK h1
    refine And.intro (fun h2 => ?_) (fun h2 => ?_)
    · have hK := ite_p hK h2
      refine hX.fg [1] ?_
      exact b_Mod_given_37_c4 hX  hK
    · have hK := ite_n hK h2
      exact b_Mod_given_36_c4 hX  hK
  · have hK := ite_n hK h1
    exact b_Mod_given_36_c4 hX  hK
def f_Mod_given_37_c5 (σ : Sg) (y0 : Int32) : Int32 × Sg := (f_Mod_given_5_c4 σ y0)
abbrev w_Mod_given_37_c5 : List (Nat × Option Nat) := []
theorem p_Mod_given_37_c5 {P : Sg → Prop} (hP : WP w_Mod_given_37_c5 P) {σ : Sg} {y0 : Int32} (h : P σ) : PP P (f_Mod_given_37_c5 σ y0) := by
  unfold f_Mod_given_37_c5
  exact p_Mod_given_5_c4 (wsub hP rfl) h
set_option maxRecDepth 100000 in
set_option maxHeartbeats 4000000 in
theorem b_Mod_given_37_c5 {l : Launch} {ad : Nat → Nat} {D : va_G} {cI : ClassId} {K : Option Value → Sg → Prop} {X : Nat → List Value → List Value → Sg → Prop} (hX : Cl l ad D cI mi_Mod_given pt_Mod K X) {σ : Sg} {y0 : Int32}   (hK : KI K (f_Mod_given_37_c5 σ y0)) : X 37 [.ref 15, .null, .int (((7 : Int32) + (-1 : Int32)) + (-1 : Int32))] [.int y0] σ := by
  unfold f_Mod_given_37_c5 at hK
  refine hX.1 44 I_Mod_given_37 ok_Mod_given_37 _ _ _ ?_
  exact b_Mod_given_5_c4 hX  hK
def f_Mod_given_36_c5 (σ : Sg) (x1 : Int32) : Int32 × Sg := (f_Mod_given_37_c5 σ x1)
abbrev w_Mod_given_36_c5 : List (Nat × Option Nat) := []
theorem p_Mod_given_36_c5 {P : Sg → Prop} (hP : WP w_Mod_given_36_c5 P) {σ : Sg} {x1 : Int32} (h : P σ) : PP P (f_Mod_given_36_c5 σ x1) := by
  unfold f_Mod_given_36_c5
  exact p_Mod_given_37_c5 (wsub hP rfl) h
set_option maxRecDepth 100000 in
set_option maxHeartbeats 4000000 in
theorem b_Mod_given_36_c5 {l : Launch} {ad : Nat → Nat} {D : va_G} {cI : ClassId} {K : Option Value → Sg → Prop} {X : Nat → List Value → List Value → Sg → Prop} (hX : Cl l ad D cI mi_Mod_given pt_Mod K X) {σ : Sg} {x1 : Int32}   (hK : KI K (f_Mod_given_36_c5 σ x1)) : X 36 [.ref 15, .int x1, .int (((7 : Int32) + (-1 : Int32)) + (-1 : Int32))] [] σ := by
  unfold f_Mod_given_36_c5 at hK
  refine hX.1 37 I_Mod_given_36 ok_Mod_given_36 _ _ _ ?_
  refine hX.fg [1] ?_
  exact b_Mod_given_37_c5 hX  hK
def f_Mod_given_5_c5 (σ : Sg) (x1 : Int32) : Int32 × Sg := (if (((σ 15 17) >>> ((((7 : Int32) + (-1 : Int32)) + (-1 : Int32)) &&& 31 : Int32)) &&& (1 : Int32)) = (1 : Int32) then (if (((σ 15 19) >>> ((((7 : Int32) + (-1 : Int32)) + (-1 : Int32)) &&& 31 : Int32)) &&& (1 : Int32)) = (0 : Int32) then (f_Mod_given_37_c5 σ (((7 : Int32) + (-1 : Int32)) + (-1 : Int32))) else (f_Mod_given_36_c5 σ x1)) else (f_Mod_given_36_c5 σ x1))
abbrev w_Mod_given_5_c5 : List (Nat × Option Nat) := []
theorem p_Mod_given_5_c5 {P : Sg → Prop} (hP : WP w_Mod_given_5_c5 P) {σ : Sg} {x1 : Int32} (h : P σ) : PP P (f_Mod_given_5_c5 σ x1) := by
  unfold f_Mod_given_5_c5
  refine ite_z (fun _ => ?_) (fun _ => ?_)
  · refine ite_z (fun _ => ?_) (fun _ => ?_)
    · exact p_Mod_given_37_c5 (wsub hP rfl) h
    · exact p_Mod_given_36_c5 (wsub hP rfl) h
  · exact p_Mod_given_36_c5 (wsub hP rfl) h
set_option maxRecDepth 100000 in
set_option maxHeartbeats 4000000 in
theorem b_Mod_given_5_c5 {l : Launch} {ad : Nat → Nat} {D : va_G} {cI : ClassId} {K : Option Value → Sg → Prop} {X : Nat → List Value → List Value → Sg → Prop} (hX : Cl l ad D cI mi_Mod_given pt_Mod K X) {σ : Sg} {x1 : Int32}   (hK : KI K (f_Mod_given_5_c5 σ x1)) : X 5 [.ref 15, .int x1, .int (((7 : Int32) + (-1 : Int32)) + (-1 : Int32))] [] σ := by
  unfold f_Mod_given_5_c5 at hK
  refine hX.1 36 I_Mod_given_5 ok_Mod_given_5 _ _ _ ?_
  refine And.intro (fun h => absurd h (by decide)) (fun _ => ?_)
  refine And.intro (fun h1 => ?_) (fun h1 => ?_)
  · have hK := ite_p hK h1
    refine And.intro (fun h2 => ?_) (fun h2 => ?_)
    · have hK := ite_p hK h2
      refine hX.fg [1] ?_
      exact b_Mod_given_37_c5 hX  hK
    · have hK := ite_n hK h2
      exact b_Mod_given_36_c5 hX  hK
  · have hK := ite_n hK h1
    exact b_Mod_given_36_c5 hX  hK
def f_Mod_given_37_c6 (σ : Sg) (y0 : Int32) : Int32 × Sg := (f_Mod_given_5_c5 σ y0)
abbrev w_Mod_given_37_c6 : List (Nat × Option Nat) := []
theorem p_Mod_given_37_c6 {P : Sg → Prop} (hP : WP w_Mod_given_37_c6 P) {σ : Sg} {y0 : Int32} (h : P σ) : PP P (f_Mod_given_37_c6 σ y0) := by
  unfold f_Mod_given_37_c6
  exact p_Mod_given_5_c5 (wsub hP rfl) h
set_option maxRecDepth 100000 in
set_option maxHeartbeats 4000000 in
theorem b_Mod_given_37_c6 {l : Launch} {ad : Nat → Nat} {D : va_G} {cI : ClassId} {K : Option Value → Sg → Prop} {X : Nat → List Value → List Value → Sg → Prop} (hX : Cl l ad D cI mi_Mod_given pt_Mod K X) {σ : Sg} {y0 : Int32}   (hK : KI K (f_Mod_given_37_c6 σ y0)) : X 37 [.ref 15, .null, .int ((7 : Int32) + (-1 : Int32))] [.int y0] σ := by
  unfold f_Mod_given_37_c6 at hK
  refine hX.1 44 I_Mod_given_37 ok_Mod_given_37 _ _ _ ?_
  exact b_Mod_given_5_c5 hX  hK
def f_Mod_given_36_c6 (σ : Sg) (x1 : Int32) : Int32 × Sg := (f_Mod_given_37_c6 σ x1)
abbrev w_Mod_given_36_c6 : List (Nat × Option Nat) := []
theorem p_Mod_given_36_c6 {P : Sg → Prop} (hP : WP w_Mod_given_36_c6 P) {σ : Sg} {x1 : Int32} (h : P σ) : PP P (f_Mod_given_36_c6 σ x1) := by
  unfold f_Mod_given_36_c6
  exact p_Mod_given_37_c6 (wsub hP rfl) h
set_option maxRecDepth 100000 in
set_option maxHeartbeats 4000000 in
theorem b_Mod_given_36_c6 {l : Launch} {ad : Nat → Nat} {D : va_G} {cI : ClassId} {K : Option Value → Sg → Prop} {X : Nat → List Value → List Value → Sg → Prop} (hX : Cl l ad D cI mi_Mod_given pt_Mod K X) {σ : Sg} {x1 : Int32}   (hK : KI K (f_Mod_given_36_c6 σ x1)) : X 36 [.ref 15, .int x1, .int ((7 : Int32) + (-1 : Int32))] [] σ := by
  unfold f_Mod_given_36_c6 at hK
  refine hX.1 37 I_Mod_given_36 ok_Mod_given_36 _ _ _ ?_
  refine hX.fg [1] ?_
  exact b_Mod_given_37_c6 hX  hK
def f_Mod_given_5_c6 (σ : Sg) (x1 : Int32) : Int32 × Sg := (if (((σ 15 17) >>> (((7 : Int32) + (-1 : Int32)) &&& 31 : Int32)) &&& (1 : Int32)) = (1 : Int32) then (if (((σ 15 19) >>> (((7 : Int32) + (-1 : Int32)) &&& 31 : Int32)) &&& (1 : Int32)) = (0 : Int32) then (f_Mod_given_37_c6 σ ((7 : Int32) + (-1 : Int32))) else (f_Mod_given_36_c6 σ x1)) else (f_Mod_given_36_c6 σ x1))
abbrev w_Mod_given_5_c6 : List (Nat × Option Nat) := []
theorem p_Mod_given_5_c6 {P : Sg → Prop} (hP : WP w_Mod_given_5_c6 P) {σ : Sg} {x1 : Int32} (h : P σ) : PP P (f_Mod_given_5_c6 σ x1) := by
  unfold f_Mod_given_5_c6
  refine ite_z (fun _ => ?_) (fun _ => ?_)
  · refine ite_z (fun _ => ?_) (fun _ => ?_)
    · exact p_Mod_given_37_c6 (wsub hP rfl) h
    · exact p_Mod_given_36_c6 (wsub hP rfl) h
  · exact p_Mod_given_36_c6 (wsub hP rfl) h
set_option maxRecDepth 100000 in
set_option maxHeartbeats 4000000 in
theorem b_Mod_given_5_c6 {l : Launch} {ad : Nat → Nat} {D : va_G} {cI : ClassId} {K : Option Value → Sg → Prop} {X : Nat → List Value → List Value → Sg → Prop} (hX : Cl l ad D cI mi_Mod_given pt_Mod K X) {σ : Sg} {x1 : Int32}   (hK : KI K (f_Mod_given_5_c6 σ x1)) : X 5 [.ref 15, .int x1, .int ((7 : Int32) + (-1 : Int32))] [] σ := by
  unfold f_Mod_given_5_c6 at hK
  refine hX.1 36 I_Mod_given_5 ok_Mod_given_5 _ _ _ ?_
  refine And.intro (fun h => absurd h (by decide)) (fun _ => ?_)
  refine And.intro (fun h1 => ?_) (fun h1 => ?_)
  · have hK := ite_p hK h1
    refine And.intro (fun h2 => ?_) (fun h2 => ?_)
    · have hK := ite_p hK h2
      refine hX.fg [1] ?_
      exact b_Mod_given_37_c6 hX  hK
    · have hK := ite_n hK h2
      exact b_Mod_given_36_c6 hX  hK
  · have hK := ite_n hK h1
    exact b_Mod_given_36_c6 hX  hK
def f_Mod_given_37_c7 (σ : Sg) (y0 : Int32) : Int32 × Sg := (f_Mod_given_5_c6 σ y0)
abbrev w_Mod_given_37_c7 : List (Nat × Option Nat) := []
theorem p_Mod_given_37_c7 {P : Sg → Prop} (hP : WP w_Mod_given_37_c7 P) {σ : Sg} {y0 : Int32} (h : P σ) : PP P (f_Mod_given_37_c7 σ y0) := by
  unfold f_Mod_given_37_c7
  exact p_Mod_given_5_c6 (wsub hP rfl) h
set_option maxRecDepth 100000 in
set_option maxHeartbeats 4000000 in
theorem b_Mod_given_37_c7 {l : Launch} {ad : Nat → Nat} {D : va_G} {cI : ClassId} {K : Option Value → Sg → Prop} {X : Nat → List Value → List Value → Sg → Prop} (hX : Cl l ad D cI mi_Mod_given pt_Mod K X) {σ : Sg} {y0 : Int32}   (hK : KI K (f_Mod_given_37_c7 σ y0)) : X 37 [.ref 15, .null, .int (7 : Int32)] [.int y0] σ := by
  unfold f_Mod_given_37_c7 at hK
  refine hX.1 44 I_Mod_given_37 ok_Mod_given_37 _ _ _ ?_
  exact b_Mod_given_5_c6 hX  hK
def f_Mod_given_36_c7 (σ : Sg) (x1 : Int32) : Int32 × Sg := (f_Mod_given_37_c7 σ x1)
abbrev w_Mod_given_36_c7 : List (Nat × Option Nat) := []
theorem p_Mod_given_36_c7 {P : Sg → Prop} (hP : WP w_Mod_given_36_c7 P) {σ : Sg} {x1 : Int32} (h : P σ) : PP P (f_Mod_given_36_c7 σ x1) := by
  unfold f_Mod_given_36_c7
  exact p_Mod_given_37_c7 (wsub hP rfl) h
set_option maxRecDepth 100000 in
set_option maxHeartbeats 4000000 in
theorem b_Mod_given_36_c7 {l : Launch} {ad : Nat → Nat} {D : va_G} {cI : ClassId} {K : Option Value → Sg → Prop} {X : Nat → List Value → List Value → Sg → Prop} (hX : Cl l ad D cI mi_Mod_given pt_Mod K X) {σ : Sg} {x1 : Int32}   (hK : KI K (f_Mod_given_36_c7 σ x1)) : X 36 [.ref 15, .int x1, .int (7 : Int32)] [] σ := by
  unfold f_Mod_given_36_c7 at hK
  refine hX.1 37 I_Mod_given_36 ok_Mod_given_36 _ _ _ ?_
  refine hX.fg [1] ?_
  exact b_Mod_given_37_c7 hX  hK
def f_Mod_given_5_c7 (σ : Sg) (x1 : Int32) : Int32 × Sg := (if (((σ 15 17) >>> ((7 : Int32) &&& 31 : Int32)) &&& (1 : Int32)) = (1 : Int32) then (if (((σ 15 19) >>> ((7 : Int32) &&& 31 : Int32)) &&& (1 : Int32)) = (0 : Int32) then (f_Mod_given_37_c7 σ (7 : Int32)) else (f_Mod_given_36_c7 σ x1)) else (f_Mod_given_36_c7 σ x1))
abbrev w_Mod_given_5_c7 : List (Nat × Option Nat) := []
theorem p_Mod_given_5_c7 {P : Sg → Prop} (hP : WP w_Mod_given_5_c7 P) {σ : Sg} {x1 : Int32} (h : P σ) : PP P (f_Mod_given_5_c7 σ x1) := by
  unfold f_Mod_given_5_c7
  refine ite_z (fun _ => ?_) (fun _ => ?_)
  · refine ite_z (fun _ => ?_) (fun _ => ?_)
    · exact p_Mod_given_37_c7 (wsub hP rfl) h
    · exact p_Mod_given_36_c7 (wsub hP rfl) h
  · exact p_Mod_given_36_c7 (wsub hP rfl) h
set_option maxRecDepth 100000 in
set_option maxHeartbeats 4000000 in
theorem b_Mod_given_5_c7 {l : Launch} {ad : Nat → Nat} {D : va_G} {cI : ClassId} {K : Option Value → Sg → Prop} {X : Nat → List Value → List Value → Sg → Prop} (hX : Cl l ad D cI mi_Mod_given pt_Mod K X) {σ : Sg} {x1 : Int32}   (hK : KI K (f_Mod_given_5_c7 σ x1)) : X 5 [.ref 15, .int x1, .int (7 : Int32)] [] σ := by
  unfold f_Mod_given_5_c7 at hK
  refine hX.1 36 I_Mod_given_5 ok_Mod_given_5 _ _ _ ?_
  refine And.intro (fun h => absurd h (by decide)) (fun _ => ?_)
  refine And.intro (fun h1 => ?_) (fun h1 => ?_)
  · have hK := ite_p hK h1
    refine And.intro (fun h2 => ?_) (fun h2 => ?_)
    · have hK := ite_p hK h2
      refine hX.fg [1] ?_
      exact b_Mod_given_37_c7 hX  hK
    · have hK := ite_n hK h2
      exact b_Mod_given_36_c7 hX  hK
  · have hK := ite_n hK h1
    exact b_Mod_given_36_c7 hX  hK
def f_Mod_given (σ : Sg)  : Int32 × Sg := (f_Mod_given_5_c7 σ (-1 : Int32))
abbrev w_Mod_given : List (Nat × Option Nat) := []
theorem p_Mod_given {P : Sg → Prop} (hP : WP w_Mod_given P) {σ : Sg}  (h : P σ) : PP P (f_Mod_given σ ) := by
  unfold f_Mod_given
  exact p_Mod_given_5_c7 (wsub hP rfl) h
set_option maxRecDepth 100000 in
set_option maxHeartbeats 4000000 in
theorem s_Mod_given {l : Launch} {ad : Nat → Nat} {D : va_G} {cI : ClassId} {σ : Sg}  {K : Option Value → Sg → Prop}   (hK : KI K (f_Mod_given σ )) : MetJ l ad D cI mi_Mod_given [.ref 15] σ K := by
  refine met_of mi_Mod_given pt_Mod pt_Mod_in rfl pl_Mod rfl (Nat.le_of_ble_eq_true rfl) fun X hX => ?_
  have hX : Cl l ad D cI mi_Mod_given pt_Mod K X := hX
  show X 0 [.ref 15, .null, .null] [] σ
  unfold f_Mod_given at hK
  refine hX.1 5 I_Mod_given_0 ok_Mod_given_0 _ _ _ ?_
  exact b_Mod_given_5_c7 hX  hK
def I_Mod_combinations_0 : List IT := [(0, .iload_n 1, 1, 0, 0, []), (1, .iconst 3, 1, 3, 0, []), (2, .ishr, 1, 0, 0, []), (3, .istore_n 2, 1, 0, 0, []), (4, .iload_n 1, 1, 0, 0, []), (5, .bipush 7, 2, 7, 0, []), (7, .iand, 1, 0, 0, []), (8, .istore_n 3, 1, 0, 0, []), (9, .iload_n 3, 1, 0, 0, []), (10, .iconst 1, 1, 1, 0, []), (11, .iand, 1, 0, 0, []), (12, .iconst 1, 1, 1, 0, []), (13, .if_icmp .ne 7, 3, 0, 20, []), (16, .iconst 1, 1, 1, 0, []), (17, .goto 4, 3, 0, 21, [])]
theorem ok_Mod_combinations_0 : blkOK b_Mod_combinations pt_Mod 20 I_Mod_combinations_0 = true := by decide +kernel
def I_Mod_combinations_20 : List IT := [(20, .iconst 0, 1, 0, 0, [])]
theorem ok_Mod_combinations_20 : blkOK b_Mod_combinations pt_Mod 21 I_Mod_combinations_20 = true := by decide +kernel
def I_Mod_combinations_21 : List IT := [(21, .istore 4, 2, 0, 0, []), (23, .iload_n 3, 1, 0, 0, []), (24, .iconst 4, 1, 4, 0, []), (25, .if_icmp .lt 39, 3, 0, 64, []), (28, .aload_n 0, 1, 0, 0, []), (29, .iload 4, 2, 0, 0, []), (31, .invokevirtual 141, 3, 0, 0, []), (34, .istore 5, 2, 0, 0, []), (36, .aload_n 0, 1, 0, 0, []), (37, .iload_n 2, 1, 0, 0, []), (38, .aload_n 0, 1, 0, 0, []), (39, .iconst 0, 1, 0, 0, []), (40, .iload 4, 2, 0, 0, []), (42, .invokevirtual 76, 3, 0, 0, []), (45, .iload 5, 2, 0, 0, []), (47, .iload 4, 2, 0, 0, []), (49, .invokevirtual 145, 3, 0, 0, []), (52, .istore 6, 2, 0, 0, []), (54, .aload_n 0, 1, 0, 0, []), (55, .iconst 0, 1, 0, 0, []), (56, .iload 6, 2, 0, 0, []), (58, .iload 4, 2, 0, 0, []), (60, .invokevirtual 84, 3, 0, 0, []), (63, .return_, 1, 0, 0, [])]
theorem ok_Mod_combinations_21 : blkOK b_Mod_combinations pt_Mod 64 I_Mod_combinations_21 = true := by decide +kernel
def I_Mod_combinations_64 : List IT := [(64, .aload_n 0, 1, 0, 0, []), (65, .invokevirtual 148, 3, 0, 0, []), (68, .aload_n 0, 1, 0, 0, []), (69, .iload 4, 2, 0, 0, []), (71, .invokevirtual 151, 3, 0, 0, []), (74, .istore 5, 2, 0, 0, []), (76, .aload_n 0, 1, 0, 0, []), (77, .aload_n 0, 1, 0, 0, []), (78, .getfield 58, 3, 0, 0, []), (81, .iload 4, 2, 0, 0, []), (83, .invokevirtual 76, 3, 0, 0, []), (86, .istore 6, 2, 0, 0, []), (88, .iload_n 3, 1, 0, 0, []), (89, .iconst 2, 1, 2, 0, []), (90, .if_icmp .ge 17, 3, 0, 107, []), (93, .aload_n 0, 1, 0, 0, []), (94, .iload_n 2, 1, 0, 0, []), (95, .iload 5, 2, 0, 0, []), (97, .iload 6, 2, 0, 0, []), (99, .iload 4, 2, 0, 0, []), (101, .invokevirtual 145, 3, 0, 0, []), (104, .goto 14, 3, 0, 118, [])]
theorem ok_Mod_combinations_64 : blkOK b_Mod_combinations pt_Mod 107 I_Mod_combinations_64 = true := by decide +kernel
def I_Mod_combinations_107 : List IT := [(107, .aload_n 0, 1, 0, 0, []), (108, .iload_n 2, 1, 0, 0, []), (109, .iload 6, 2, 0, 0, []), (111, .iload 5, 2, 0, 0, []), (113, .iload 4, 2, 0, 0, []), (115, .invokevirtual 145, 3, 0, 0, [])]
theorem ok_Mod_combinations_107 : blkOK b_Mod_combinations pt_Mod 118 I_Mod_combinations_107 = true := by decide +kernel
def I_Mod_combinations_118 : List IT := [(118, .istore 7, 2, 0, 0, []), (120, .iload_n 2, 1, 0, 0, []), (121, .bipush 7, 2, 7, 0, []), (123, .if_icmp .ne 4, 3, 0, 127, []), (126, .return_, 1, 0, 0, [])]
theorem ok_Mod_combinations_118 : blkOK b_Mod_combinations pt_Mod 127 I_Mod_combinations_118 = true := by decide +kernel
def I_Mod_combinations_127 : List IT := [(127, .iload_n 3, 1, 0, 0, []), (128, .iconst 2, 1, 2, 0, []), (129, .if_icmp .ge 14, 3, 0, 143, []), (132, .aload_n 0, 1, 0, 0, []), (133, .iload 7, 2, 0, 0, []), (135, .iload 4, 2, 0, 0, []), (137, .invokevirtual 154, 3, 0, 0, []), (140, .goto 15, 3, 0, 155, [])]
theorem ok_Mod_combinations_127 : blkOK b_Mod_combinations pt_Mod 143 I_Mod_combinations_127 = true := by decide +kernel
def I_Mod_combinations_143 : List IT := [(143, .aload_n 0, 1, 0, 0, []), (144, .aload_n 0, 1, 0, 0, []), (145, .getfield 58, 3, 0, 0, []), (148, .iload 7, 2, 0, 0, []), (150, .iload 4, 2, 0, 0, []), (152, .invokevirtual 84, 3, 0, 0, [])]
theorem ok_Mod_combinations_143 : blkOK b_Mod_combinations pt_Mod 155 I_Mod_combinations_143 = true := by decide +kernel
def I_Mod_combinations_155 : List IT := [(155, .return_, 1, 0, 0, [])]
theorem ok_Mod_combinations_155 : blkOK b_Mod_combinations pt_Mod 156 I_Mod_combinations_155 = true := by decide +kernel
def f_Mod_combinations_118 (σ : Sg) (x2 : Int32) (x3 : Int32) (x4 : Int32) (y0 : Int32) : Sg := (if x2 = (7 : Int32) then σ else (if (2 : Int32) ≤ x3 then (bnd (f_Mod_setRegister σ (σ 15 12) y0 x4) fun r3 => r3) else (bnd (f_Mod_setE σ y0 x4) fun r4 => r4)))
abbrev w_Mod_combinations_118 : List (Nat × Option Nat) := [(16, none), (17, none)]
theorem p_Mod_combinations_118 {P : Sg → Prop} (hP : WP w_Mod_combinations_118 P) {σ : Sg} {x2 : Int32} {x3 : Int32} {x4 : Int32} {y0 : Int32} (h : P σ) : P (f_Mod_combinations_118 σ x2 x3 x4 y0) := by
  unfold f_Mod_combinations_118
  refine ite_z (fun _ => ?_) (fun _ => ?_)
  · exact h
  · refine ite_z (fun _ => ?_) (fun _ => ?_)
    · refine bnd_zz (Z := P) (p_Mod_setRegister (wsub hP rfl) h) fun r3 e3 q3 => ?_
      exact q3
    · refine bnd_zz (Z := P) (p_Mod_setE (wsub hP rfl) h) fun r4 e4 q4 => ?_
      exact q4
set_option maxRecDepth 100000 in
set_option maxHeartbeats 4000000 in
theorem b_Mod_combinations_118 {l : Launch} {ad : Nat → Nat} {D : va_G} {cI : ClassId} {K : Option Value → Sg → Prop} {X : Nat → List Value → List Value → Sg → Prop} (hX : Cl l ad D cI mi_Mod_combinations pt_Mod K X) {σ : Sg} {x2 : Int32} {x3 : Int32} {x4 : Int32} {y0 : Int32} (z_x4 : x4 = 0 ∨ x4 = 1) (EK0 : EK σ) (MK0 : MK σ) (hK : KV K (f_Mod_combinations_118 σ x2 x3 x4 y0)) : X 118 [.ref 15, .null, .int x2, .int x3, .int x4, .null, .null, .null] [.int y0] σ := by
  unfold f_Mod_combinations_118 at hK
  refine hX.1 127 I_Mod_combinations_118 ok_Mod_combinations_118 _ _ _ ?_
  refine And.intro (fun h1 => ?_) (fun h1 => ?_)
  · have hK := ite_p hK h1
    exact hK
  · have hK := ite_n hK h1
    refine hX.1 143 I_Mod_combinations_127 ok_Mod_combinations_127 _ _ _ ?_
    refine And.intro (fun h2 => ?_) (fun h2 => ?_)
    · have hK := ite_p hK h2
      refine hX.1 155 I_Mod_combinations_143 ok_Mod_combinations_143 _ _ _ ?_
      refine s_Mod_setRegister MK0 (bnd_g hK fun r3 e3 hK => ?_)
      refine hX.1 156 I_Mod_combinations_155 ok_Mod_combinations_155 _ _ _ ?_
      exact hK
    · have hK := ite_n hK h2
      refine s_Mod_setE EK0 (bnd_g hK fun r4 e4 hK => ?_)
      refine hX.1 156 I_Mod_combinations_155 ok_Mod_combinations_155 _ _ _ ?_
      exact hK
def f_Mod_combinations_21 (σ : Sg) (x2 : Int32) (x3 : Int32) (y0 : Int32) : Sg := (if x3 < (4 : Int32) then (bnd (f_Mod_readModrm σ) fun r2 => bnd (f_Mod_getE r2 y0) fun r3 => bnd (f_Mod_getRegister r3.2 (r3.2 15 12) y0) fun r4 => (if (2 : Int32) ≤ x3 then (bnd (f_Mod_combine r4.2 x2 r4.1 r3.1 y0) fun r6 => (f_Mod_combinations_118 r6.2 x2 x3 y0 r6.1)) else (bnd (f_Mod_combine r4.2 x2 r3.1 r4.1 y0) fun r7 => (f_Mod_combinations_118 r7.2 x2 x3 y0 r7.1)))) else (bnd (f_Mod_immediate σ y0) fun r8 => bnd (f_Mod_getRegister r8.2 (0 : Int32) y0) fun r9 => bnd (f_Mod_combine r9.2 x2 r9.1 r8.1 y0) fun r10 => bnd (f_Mod_setRegister r10.2 (0 : Int32) r10.1 y0) fun r11 => r11))
abbrev w_Mod_combinations_21 : List (Nat × Option Nat) := [(15, some 3), (15, some 4), (15, some 12), (15, some 13), (15, some 14), (15, some 15), (16, none), (17, none)]
theorem p_Mod_combinations_21 {P : Sg → Prop} (hP : WP w_Mod_combinations_21 P) {σ : Sg} {x2 : Int32} {x3 : Int32} {y0 : Int32} (h : P σ) : P (f_Mod_combinations_21 σ x2 x3 y0) := by
  unfold f_Mod_combinations_21
  refine ite_z (fun _ => ?_) (fun _ => ?_)
  · refine bnd_zz (Z := P) (p_Mod_readModrm (wsub hP rfl) h) fun r2 e2 q2 => ?_
    refine bnd_zz (Z := PP P) (p_Mod_getE (wsub hP rfl) q2) fun r3 e3 q3 => ?_
    refine bnd_zz (Z := PP P) (p_Mod_getRegister (wsub hP rfl) q3) fun r4 e4 q4 => ?_
    refine ite_z (fun _ => ?_) (fun _ => ?_)
    · refine bnd_zz (Z := PP P) (p_Mod_combine (wsub hP rfl) q4) fun r6 e6 q6 => ?_
      exact p_Mod_combinations_118 (wsub hP rfl) q6
    · refine bnd_zz (Z := PP P) (p_Mod_combine (wsub hP rfl) q4) fun r7 e7 q7 => ?_
      exact p_Mod_combinations_118 (wsub hP rfl) q7
  · refine bnd_zz (Z := PP P) (p_Mod_immediate (wsub hP rfl) h) fun r8 e8 q8 => ?_
    refine bnd_zz (Z := PP P) (p_Mod_getRegister (wsub hP rfl) q8) fun r9 e9 q9 => ?_
    refine bnd_zz (Z := PP P) (p_Mod_combine (wsub hP rfl) q9) fun r10 e10 q10 => ?_
    refine bnd_zz (Z := P) (p_Mod_setRegister (wsub hP rfl) q10) fun r11 e11 q11 => ?_
    exact q11
set_option maxRecDepth 100000 in
set_option maxHeartbeats 4000000 in
theorem b_Mod_combinations_21 {l : Launch} {ad : Nat → Nat} {D : va_G} {cI : ClassId} {K : Option Value → Sg → Prop} {X : Nat → List Value → List Value → Sg → Prop} (hX : Cl l ad D cI mi_Mod_combinations pt_Mod K X) {σ : Sg} {x2 : Int32} {x3 : Int32} {y0 : Int32} (z_y0 : y0 = 0 ∨ y0 = 1) (OV0 : OV σ) (hK : KV K (f_Mod_combinations_21 σ x2 x3 y0)) : X 21 [.ref 15, .null, .int x2, .int x3, .null, .null, .null, .null] [.int y0] σ := by
  unfold f_Mod_combinations_21 at hK
  refine hX.1 64 I_Mod_combinations_21 ok_Mod_combinations_21 _ _ _ ?_
  refine And.intro (fun h1 => ?_) (fun h1 => ?_)
  · have hK := ite_p hK h1
    refine hX.1 107 I_Mod_combinations_64 ok_Mod_combinations_64 _ _ _ ?_
    refine s_Mod_readModrm (bnd_g hK fun r2 e2 hK => ?_)
    have EK2 : EK r2 := by rw [← e2]; exact rm_EK OV0
    have MK2 : MK r2 := by rw [← e2]; exact rm_MK
    refine s_Mod_getE EK2 (bnd_g hK fun r3 e3 hK => ?_)
    have EK3 : EK r3.2 := by rw [← e3]; exact p_Mod_getE (P := EK) (EKw rfl) EK2
    have MK3 : MK r3.2 := by rw [← e3]; exact p_Mod_getE (P := MK) (MKw rfl) MK2
    refine s_Mod_getRegister MK3 (bnd_g hK fun r4 e4 hK => ?_)
    have EK4 : EK r4.2 := by rw [← e4]; exact p_Mod_getRegister (P := EK) (EKw rfl) EK3
    have MK4 : MK r4.2 := by rw [← e4]; exact p_Mod_getRegister (P := MK) (MKw rfl) MK3
    refine And.intro (fun h5 => ?_) (fun h5 => ?_)
    · have hK := ite_p hK h5
      refine hX.1 118 I_Mod_combinations_107 ok_Mod_combinations_107 _ _ _ ?_
      refine s_Mod_combine (bnd_g hK fun r6 e6 hK => ?_)
      have EK6 : EK r6.2 := by rw [← e6]; exact p_Mod_combine (P := EK) (EKw rfl) EK4
      have MK6 : MK r6.2 := by rw [← e6]; exact p_Mod_combine (P := MK) (MKw rfl) MK4
      refine hX.fg [5, 6] ?_
      exact b_Mod_combinations_118 hX z_y0 EK6 MK6 hK
    · have hK := ite_n hK h5
      refine s_Mod_combine (bnd_g hK fun r7 e7 hK => ?_)
      have EK7 : EK r7.2 := by rw [← e7]; exact p_Mod_combine (P := EK) (EKw rfl) EK4
      have MK7 : MK r7.2 := by rw [← e7]; exact p_Mod_combine (P := MK) (MKw rfl) MK4
      refine hX.fg [5, 6] ?_
      exact b_Mod_combinations_118 hX z_y0 EK7 MK7 hK
  · have hK := ite_n hK h1
    refine s_Mod_immediate (bnd_g hK fun r8 e8 hK => ?_)
    refine s_Mod_getRegister (vin (by decide)) (bnd_g hK fun r9 e9 hK => ?_)
    refine s_Mod_combine (bnd_g hK fun r10 e10 hK => ?_)
    refine s_Mod_setRegister (vin (by decide)) (bnd_g hK fun r11 e11 hK => ?_)
    exact hK
def f_Mod_combinations (σ : Sg) (a1 : Int32) : Sg := (if ((a1 &&& (7 : Int32)) &&& (1 : Int32)) = (1 : Int32) then (f_Mod_combinations_21 σ (a1 >>> ((3 : Int32) &&& 31 : Int32)) (a1 &&& (7 : Int32)) (1 : Int32)) else (f_Mod_combinations_21 σ (a1 >>> ((3 : Int32) &&& 31 : Int32)) (a1 &&& (7 : Int32)) (0 : Int32)))
abbrev w_Mod_combinations : List (Nat × Option Nat) := [(15, some 3), (15, some 4), (15, some 12), (15, some 13), (15, some 14), (15, some 15), (16, none), (17, none)]
theorem p_Mod_combinations {P : Sg → Prop} (hP : WP w_Mod_combinations P) {σ : Sg} {a1 : Int32} (h : P σ) : P (f_Mod_combinations σ a1) := by
  unfold f_Mod_combinations
  refine ite_z (fun _ => ?_) (fun _ => ?_)
  · exact p_Mod_combinations_21 (wsub hP rfl) h
  · exact p_Mod_combinations_21 (wsub hP rfl) h
set_option maxRecDepth 100000 in
set_option maxHeartbeats 4000000 in
theorem s_Mod_combinations {l : Launch} {ad : Nat → Nat} {D : va_G} {cI : ClassId} {σ : Sg} {a1 : Int32} {K : Option Value → Sg → Prop}  (OV0 : OV σ) (hK : KV K (f_Mod_combinations σ a1)) : MetJ l ad D cI mi_Mod_combinations [.ref 15, .int a1] σ K := by
  refine met_of mi_Mod_combinations pt_Mod pt_Mod_in rfl pl_Mod rfl (Nat.le_of_ble_eq_true rfl) fun X hX => ?_
  have hX : Cl l ad D cI mi_Mod_combinations pt_Mod K X := hX
  show X 0 [.ref 15, .int a1, .null, .null, .null, .null, .null, .null] [] σ
  unfold f_Mod_combinations at hK
  refine hX.1 20 I_Mod_combinations_0 ok_Mod_combinations_0 _ _ _ ?_
  refine And.intro (fun h1 => ?_) (fun h1 => ?_)
  · have hK := ite_p hK h1
    refine hX.fg [1] ?_
    exact b_Mod_combinations_21 hX (Or.inr rfl) OV0 hK
  · have hK := ite_n hK h1
    refine hX.1 21 I_Mod_combinations_20 ok_Mod_combinations_20 _ _ _ ?_
    refine hX.fg [1] ?_
    exact b_Mod_combinations_21 hX (Or.inl rfl) OV0 hK
def I_Mod_withImmediate_0 : List IT := [(0, .iload_n 1, 1, 0, 0, []), (1, .sipush 128, 3, 128, 0, []), (4, .if_icmp .eq 7, 3, 0, 11, []), (7, .iconst 1, 1, 1, 0, []), (8, .goto 4, 3, 0, 12, [])]
theorem ok_Mod_withImmediate_0 : blkOK b_Mod_withImmediate pt_Mod 11 I_Mod_withImmediate_0 = true := by decide +kernel
def I_Mod_withImmediate_11 : List IT := [(11, .iconst 0, 1, 0, 0, [])]
theorem ok_Mod_withImmediate_11 : blkOK b_Mod_withImmediate pt_Mod 12 I_Mod_withImmediate_11 = true := by decide +kernel
def I_Mod_withImmediate_12 : List IT := [(12, .istore_n 2, 1, 0, 0, []), (13, .aload_n 0, 1, 0, 0, []), (14, .invokevirtual 148, 3, 0, 0, []), (17, .iload_n 1, 1, 0, 0, []), (18, .sipush 131, 3, 131, 0, []), (21, .if_icmp .ne 13, 3, 0, 34, []), (24, .aload_n 0, 1, 0, 0, []), (25, .invokevirtual 64, 3, 0, 0, []), (28, .ldc 32, 2, 65535, 0, []), (30, .iand, 1, 0, 0, []), (31, .goto 8, 3, 0, 39, [])]
theorem ok_Mod_withImmediate_12 : blkOK b_Mod_withImmediate pt_Mod 34 I_Mod_withImmediate_12 = true := by decide +kernel
def I_Mod_withImmediate_34 : List IT := [(34, .aload_n 0, 1, 0, 0, []), (35, .iload_n 2, 1, 0, 0, []), (36, .invokevirtual 141, 3, 0, 0, [])]
theorem ok_Mod_withImmediate_34 : blkOK b_Mod_withImmediate pt_Mod 39 I_Mod_withImmediate_34 = true := by decide +kernel
def I_Mod_withImmediate_39 : List IT := [(39, .istore_n 3, 1, 0, 0, []), (40, .aload_n 0, 1, 0, 0, []), (41, .aload_n 0, 1, 0, 0, []), (42, .getfield 58, 3, 0, 0, []), (45, .aload_n 0, 1, 0, 0, []), (46, .iload_n 2, 1, 0, 0, []), (47, .invokevirtual 151, 3, 0, 0, []), (50, .iload_n 3, 1, 0, 0, []), (51, .iload_n 2, 1, 0, 0, []), (52, .invokevirtual 145, 3, 0, 0, []), (55, .istore 4, 2, 0, 0, []), (57, .aload_n 0, 1, 0, 0, []), (58, .getfield 58, 3, 0, 0, []), (61, .bipush 7, 2, 7, 0, []), (63, .if_icmp .eq 10, 3, 0, 73, []), (66, .aload_n 0, 1, 0, 0, []), (67, .iload 4, 2, 0, 0, []), (69, .iload_n 2, 1, 0, 0, []), (70, .invokevirtual 154, 3, 0, 0, [])]
theorem ok_Mod_withImmediate_39 : blkOK b_Mod_withImmediate pt_Mod 73 I_Mod_withImmediate_39 = true := by decide +kernel
def I_Mod_withImmediate_73 : List IT := [(73, .return_, 1, 0, 0, [])]
theorem ok_Mod_withImmediate_73 : blkOK b_Mod_withImmediate pt_Mod 74 I_Mod_withImmediate_73 = true := by decide +kernel
def f_Mod_withImmediate_39 (σ : Sg) (x2 : Int32) (y0 : Int32) : Sg := (bnd (f_Mod_getE σ x2) fun r1 => bnd (f_Mod_combine r1.2 (σ 15 12) r1.1 y0 x2) fun r2 => (if (r2.2 15 12) = (7 : Int32) then r2.2 else (bnd (f_Mod_setE r2.2 r2.1 x2) fun r4 => r4)))
abbrev w_Mod_withImmediate_39 : List (Nat × Option Nat) := [(15, some 4), (16, none), (17, none)]
theorem p_Mod_withImmediate_39 {P : Sg → Prop} (hP : WP w_Mod_withImmediate_39 P) {σ : Sg} {x2 : Int32} {y0 : Int32} (h : P σ) : P (f_Mod_withImmediate_39 σ x2 y0) := by
  unfold f_Mod_withImmediate_39
  refine bnd_zz (Z := PP P) (p_Mod_getE (wsub hP rfl) h) fun r1 e1 q1 => ?_
  refine bnd_zz (Z := PP P) (p_Mod_combine (wsub hP rfl) q1) fun r2 e2 q2 => ?_
  refine ite_z (fun _ => ?_) (fun _ => ?_)
  · exact q2
  · refine bnd_zz (Z := P) (p_Mod_setE (wsub hP rfl) q2) fun r4 e4 q4 => ?_
    exact q4
set_option maxRecDepth 100000 in
set_option maxHeartbeats 4000000 in
theorem b_Mod_withImmediate_39 {l : Launch} {ad : Nat → Nat} {D : va_G} {cI : ClassId} {K : Option Value → Sg → Prop} {X : Nat → List Value → List Value → Sg → Prop} (hX : Cl l ad D cI mi_Mod_withImmediate pt_Mod K X) {σ : Sg} {x2 : Int32} {y0 : Int32} (z_x2 : x2 = 0 ∨ x2 = 1) (EK0 : EK σ) (hK : KV K (f_Mod_withImmediate_39 σ x2 y0)) : X 39 [.ref 15, .null, .int x2, .null, .null] [.int y0] σ := by
  unfold f_Mod_withImmediate_39 at hK
  refine hX.1 73 I_Mod_withImmediate_39 ok_Mod_withImmediate_39 _ _ _ ?_
  refine s_Mod_getE EK0 (bnd_g hK fun r1 e1 hK => ?_)
  have EK1 : EK r1.2 := by rw [← e1]; exact p_Mod_getE (P := EK) (EKw rfl) EK0
  refine s_Mod_combine (bnd_g hK fun r2 e2 hK => ?_)
  have EK2 : EK r2.2 := by rw [← e2]; exact p_Mod_combine (P := EK) (EKw rfl) EK1
  refine And.intro (fun h3 => ?_) (fun h3 => ?_)
  · have hK := ite_p hK h3
    refine hX.1 74 I_Mod_withImmediate_73 ok_Mod_withImmediate_73 _ _ _ ?_
    exact hK
  · have hK := ite_n hK h3
    refine s_Mod_setE EK2 (bnd_g hK fun r4 e4 hK => ?_)
    refine hX.1 74 I_Mod_withImmediate_73 ok_Mod_withImmediate_73 _ _ _ ?_
    exact hK
def f_Mod_withImmediate_12 (σ : Sg) (x1 : Int32) (y0 : Int32) : Sg := (bnd (f_Mod_readModrm σ) fun r1 => (if x1 = (131 : Int32) then (bnd (f_Mod_nextSigned r1) fun r3 => (f_Mod_withImmediate_39 r3.2 y0 (r3.1 &&& (65535 : Int32)))) else (bnd (f_Mod_immediate r1 y0) fun r4 => (f_Mod_withImmediate_39 r4.2 y0 r4.1))))
abbrev w_Mod_withImmediate_12 : List (Nat × Option Nat) := [(15, some 3), (15, some 4), (15, some 12), (15, some 13), (15, some 14), (15, some 15), (16, none), (17, none)]
theorem p_Mod_withImmediate_12 {P : Sg → Prop} (hP : WP w_Mod_withImmediate_12 P) {σ : Sg} {x1 : Int32} {y0 : Int32} (h : P σ) : P (f_Mod_withImmediate_12 σ x1 y0) := by
  unfold f_Mod_withImmediate_12
  refine bnd_zz (Z := P) (p_Mod_readModrm (wsub hP rfl) h) fun r1 e1 q1 => ?_
  refine ite_z (fun _ => ?_) (fun _ => ?_)
  · refine bnd_zz (Z := PP P) (p_Mod_nextSigned (wsub hP rfl) q1) fun r3 e3 q3 => ?_
    exact p_Mod_withImmediate_39 (wsub hP rfl) q3
  · refine bnd_zz (Z := PP P) (p_Mod_immediate (wsub hP rfl) q1) fun r4 e4 q4 => ?_
    exact p_Mod_withImmediate_39 (wsub hP rfl) q4
set_option maxRecDepth 100000 in
set_option maxHeartbeats 4000000 in
theorem b_Mod_withImmediate_12 {l : Launch} {ad : Nat → Nat} {D : va_G} {cI : ClassId} {K : Option Value → Sg → Prop} {X : Nat → List Value → List Value → Sg → Prop} (hX : Cl l ad D cI mi_Mod_withImmediate pt_Mod K X) {σ : Sg} {x1 : Int32} {y0 : Int32} (z_y0 : y0 = 0 ∨ y0 = 1) (OV0 : OV σ) (hK : KV K (f_Mod_withImmediate_12 σ x1 y0)) : X 12 [.ref 15, .int x1, .null, .null, .null] [.int y0] σ := by
  unfold f_Mod_withImmediate_12 at hK
  refine hX.1 34 I_Mod_withImmediate_12 ok_Mod_withImmediate_12 _ _ _ ?_
  refine s_Mod_readModrm (bnd_g hK fun r1 e1 hK => ?_)
  have EK1 : EK r1 := by rw [← e1]; exact rm_EK OV0
  refine And.intro (fun h2 => ?_) (fun h2 => ?_)
  · have hK := ite_p hK h2
    refine s_Mod_nextSigned (bnd_g hK fun r3 e3 hK => ?_)
    have EK3 : EK r3.2 := by rw [← e3]; exact p_Mod_nextSigned (P := EK) (EKw rfl) EK1
    refine hX.fg [1] ?_
    exact b_Mod_withImmediate_39 hX z_y0 EK3 hK
  · have hK := ite_n hK h2
    refine hX.1 39 I_Mod_withImmediate_34 ok_Mod_withImmediate_34 _ _ _ ?_
    refine s_Mod_immediate (bnd_g hK fun r4 e4 hK => ?_)
    have EK4 : EK r4.2 := by rw [← e4]; exact p_Mod_immediate (P := EK) (EKw rfl) EK1
    refine hX.fg [1] ?_
    exact b_Mod_withImmediate_39 hX z_y0 EK4 hK
def f_Mod_withImmediate (σ : Sg) (a1 : Int32) : Sg := (if a1 = (128 : Int32) then (f_Mod_withImmediate_12 σ a1 (0 : Int32)) else (f_Mod_withImmediate_12 σ a1 (1 : Int32)))
abbrev w_Mod_withImmediate : List (Nat × Option Nat) := [(15, some 3), (15, some 4), (15, some 12), (15, some 13), (15, some 14), (15, some 15), (16, none), (17, none)]
theorem p_Mod_withImmediate {P : Sg → Prop} (hP : WP w_Mod_withImmediate P) {σ : Sg} {a1 : Int32} (h : P σ) : P (f_Mod_withImmediate σ a1) := by
  unfold f_Mod_withImmediate
  refine ite_z (fun _ => ?_) (fun _ => ?_)
  · exact p_Mod_withImmediate_12 (wsub hP rfl) h
  · exact p_Mod_withImmediate_12 (wsub hP rfl) h
set_option maxRecDepth 100000 in
set_option maxHeartbeats 4000000 in
theorem s_Mod_withImmediate {l : Launch} {ad : Nat → Nat} {D : va_G} {cI : ClassId} {σ : Sg} {a1 : Int32} {K : Option Value → Sg → Prop}  (OV0 : OV σ) (hK : KV K (f_Mod_withImmediate σ a1)) : MetJ l ad D cI mi_Mod_withImmediate [.ref 15, .int a1] σ K := by
  refine met_of mi_Mod_withImmediate pt_Mod pt_Mod_in rfl pl_Mod rfl (Nat.le_of_ble_eq_true rfl) fun X hX => ?_
  have hX : Cl l ad D cI mi_Mod_withImmediate pt_Mod K X := hX
  show X 0 [.ref 15, .int a1, .null, .null, .null] [] σ
  unfold f_Mod_withImmediate at hK
  refine hX.1 11 I_Mod_withImmediate_0 ok_Mod_withImmediate_0 _ _ _ ?_
  refine And.intro (fun h1 => ?_) (fun h1 => ?_)
  · have hK := ite_p hK h1
    refine hX.1 12 I_Mod_withImmediate_11 ok_Mod_withImmediate_11 _ _ _ ?_
    exact b_Mod_withImmediate_12 hX (Or.inl rfl) OV0 hK
  · have hK := ite_n hK h1
    exact b_Mod_withImmediate_12 hX (Or.inr rfl) OV0 hK
def I_Mod_holds_0 : List IT := [(0, .aload_n 0, 1, 0, 0, []), (1, .sipush 128, 3, 128, 0, []), (4, .invokevirtual 114, 3, 0, 0, []), (7, .aload_n 0, 1, 0, 0, []), (8, .sipush 2048, 3, 2048, 0, []), (11, .invokevirtual 114, 3, 0, 0, []), (14, .if_icmp .eq 7, 3, 0, 21, []), (17, .iconst 1, 1, 1, 0, []), (18, .goto 4, 3, 0, 22, [])]
theorem ok_Mod_holds_0 : blkOK b_Mod_holds pt_Mod 21 I_Mod_holds_0 = true := by decide +kernel
def I_Mod_holds_21 : List IT := [(21, .iconst 0, 1, 0, 0, [])]
theorem ok_Mod_holds_21 : blkOK b_Mod_holds pt_Mod 22 I_Mod_holds_21 = true := by decide +kernel
def I_Mod_holds_22 : List IT := [(22, .istore_n 2, 1, 0, 0, []), (23, .iload_n 1, 1, 0, 0, []), (24, .iconst 1, 1, 1, 0, []), (25, .ishr, 1, 0, 0, []), (26, .ifCond .ne 13, 3, 0, 39, []), (29, .aload_n 0, 1, 0, 0, []), (30, .sipush 2048, 3, 2048, 0, []), (33, .invokevirtual 114, 3, 0, 0, []), (36, .goto 113, 3, 0, 149, [])]
theorem ok_Mod_holds_22 : blkOK b_Mod_holds pt_Mod 39 I_Mod_holds_22 = true := by decide +kernel
def I_Mod_holds_39 : List IT := [(39, .iload_n 1, 1, 0, 0, []), (40, .iconst 1, 1, 1, 0, []), (41, .ishr, 1, 0, 0, []), (42, .iconst 1, 1, 1, 0, []), (43, .if_icmp .ne 11, 3, 0, 54, []), (46, .aload_n 0, 1, 0, 0, []), (47, .iconst 1, 1, 1, 0, []), (48, .invokevirtual 114, 3, 0, 0, []), (51, .goto 98, 3, 0, 149, [])]
theorem ok_Mod_holds_39 : blkOK b_Mod_holds pt_Mod 54 I_Mod_holds_39 = true := by decide +kernel
def I_Mod_holds_54 : List IT := [(54, .iload_n 1, 1, 0, 0, []), (55, .iconst 1, 1, 1, 0, []), (56, .ishr, 1, 0, 0, []), (57, .iconst 2, 1, 2, 0, []), (58, .if_icmp .ne 12, 3, 0, 70, []), (61, .aload_n 0, 1, 0, 0, []), (62, .bipush 64, 2, 64, 0, []), (64, .invokevirtual 114, 3, 0, 0, []), (67, .goto 82, 3, 0, 149, [])]
theorem ok_Mod_holds_54 : blkOK b_Mod_holds pt_Mod 70 I_Mod_holds_54 = true := by decide +kernel
def I_Mod_holds_70 : List IT := [(70, .iload_n 1, 1, 0, 0, []), (71, .iconst 1, 1, 1, 0, []), (72, .ishr, 1, 0, 0, []), (73, .iconst 3, 1, 3, 0, []), (74, .if_icmp .ne 28, 3, 0, 102, []), (77, .aload_n 0, 1, 0, 0, []), (78, .iconst 1, 1, 1, 0, []), (79, .invokevirtual 114, 3, 0, 0, []), (82, .ifCond .ne 12, 3, 0, 94, []), (85, .aload_n 0, 1, 0, 0, []), (86, .bipush 64, 2, 64, 0, []), (88, .invokevirtual 114, 3, 0, 0, []), (91, .ifCond .eq 7, 3, 0, 98, [])]
theorem ok_Mod_holds_70 : blkOK b_Mod_holds pt_Mod 94 I_Mod_holds_70 = true := by decide +kernel
def I_Mod_holds_94 : List IT := [(94, .iconst 1, 1, 1, 0, []), (95, .goto 54, 3, 0, 149, [])]
theorem ok_Mod_holds_94 : blkOK b_Mod_holds pt_Mod 98 I_Mod_holds_94 = true := by decide +kernel
def I_Mod_holds_98 : List IT := [(98, .iconst 0, 1, 0, 0, []), (99, .goto 50, 3, 0, 149, [])]
theorem ok_Mod_holds_98 : blkOK b_Mod_holds pt_Mod 102 I_Mod_holds_98 = true := by decide +kernel
def I_Mod_holds_102 : List IT := [(102, .iload_n 1, 1, 0, 0, []), (103, .iconst 1, 1, 1, 0, []), (104, .ishr, 1, 0, 0, []), (105, .iconst 4, 1, 4, 0, []), (106, .if_icmp .ne 13, 3, 0, 119, []), (109, .aload_n 0, 1, 0, 0, []), (110, .sipush 128, 3, 128, 0, []), (113, .invokevirtual 114, 3, 0, 0, []), (116, .goto 33, 3, 0, 149, [])]
theorem ok_Mod_holds_102 : blkOK b_Mod_holds pt_Mod 119 I_Mod_holds_102 = true := by decide +kernel
def I_Mod_holds_119 : List IT := [(119, .iload_n 1, 1, 0, 0, []), (120, .iconst 1, 1, 1, 0, []), (121, .ishr, 1, 0, 0, []), (122, .bipush 6, 2, 6, 0, []), (124, .if_icmp .ne 7, 3, 0, 131, []), (127, .iload_n 2, 1, 0, 0, []), (128, .goto 21, 3, 0, 149, [])]
theorem ok_Mod_holds_119 : blkOK b_Mod_holds pt_Mod 131 I_Mod_holds_119 = true := by decide +kernel
def I_Mod_holds_131 : List IT := [(131, .aload_n 0, 1, 0, 0, []), (132, .bipush 64, 2, 64, 0, []), (134, .invokevirtual 114, 3, 0, 0, []), (137, .ifCond .ne 7, 3, 0, 144, []), (140, .iload_n 2, 1, 0, 0, []), (141, .ifCond .eq 7, 3, 0, 148, [])]
theorem ok_Mod_holds_131 : blkOK b_Mod_holds pt_Mod 144 I_Mod_holds_131 = true := by decide +kernel
def I_Mod_holds_144 : List IT := [(144, .iconst 1, 1, 1, 0, []), (145, .goto 4, 3, 0, 149, [])]
theorem ok_Mod_holds_144 : blkOK b_Mod_holds pt_Mod 148 I_Mod_holds_144 = true := by decide +kernel
def I_Mod_holds_148 : List IT := [(148, .iconst 0, 1, 0, 0, [])]
theorem ok_Mod_holds_148 : blkOK b_Mod_holds pt_Mod 149 I_Mod_holds_148 = true := by decide +kernel
def I_Mod_holds_149 : List IT := [(149, .istore_n 3, 1, 0, 0, []), (150, .iload_n 3, 1, 0, 0, []), (151, .iload_n 1, 1, 0, 0, []), (152, .iconst 1, 1, 1, 0, []), (153, .iand, 1, 0, 0, []), (154, .ifCond .ne 7, 3, 0, 161, []), (157, .iconst 1, 1, 1, 0, []), (158, .goto 4, 3, 0, 162, [])]
theorem ok_Mod_holds_149 : blkOK b_Mod_holds pt_Mod 161 I_Mod_holds_149 = true := by decide +kernel
def I_Mod_holds_161 : List IT := [(161, .iconst 0, 1, 0, 0, [])]
theorem ok_Mod_holds_161 : blkOK b_Mod_holds pt_Mod 162 I_Mod_holds_161 = true := by decide +kernel
def I_Mod_holds_162 : List IT := [(162, .if_icmp .ne 7, 3, 0, 169, []), (165, .iconst 1, 1, 1, 0, []), (166, .goto 4, 3, 0, 170, [])]
theorem ok_Mod_holds_162 : blkOK b_Mod_holds pt_Mod 169 I_Mod_holds_162 = true := by decide +kernel
def I_Mod_holds_169 : List IT := [(169, .iconst 0, 1, 0, 0, [])]
theorem ok_Mod_holds_169 : blkOK b_Mod_holds pt_Mod 170 I_Mod_holds_169 = true := by decide +kernel
def I_Mod_holds_170 : List IT := [(170, .ireturn, 1, 0, 0, [])]
theorem ok_Mod_holds_170 : blkOK b_Mod_holds pt_Mod 171 I_Mod_holds_170 = true := by decide +kernel
def f_Mod_holds_162 (σ : Sg) (y0 : Int32) (y1 : Int32) : Int32 × Sg := (if y1 = y0 then ((1 : Int32), σ) else ((0 : Int32), σ))
theorem z_Mod_holds_162 {σ : Sg} {y0 : Int32} {y1 : Int32} (z_y0 : y0 = 0 ∨ y0 = 1) (z_y1 : y1 = 0 ∨ y1 = 1)  : (f_Mod_holds_162 σ y0 y1).1 = 0 ∨ (f_Mod_holds_162 σ y0 y1).1 = 1 := by
  show Zb (f_Mod_holds_162 σ y0 y1)
  unfold f_Mod_holds_162
  refine ite_z (fun h1 => ?_) (fun h1 => ?_)
  · exact (Or.inr rfl)
  · exact (Or.inl rfl)
abbrev w_Mod_holds_162 : List (Nat × Option Nat) := []
theorem p_Mod_holds_162 {P : Sg → Prop} (hP : WP w_Mod_holds_162 P) {σ : Sg} {y0 : Int32} {y1 : Int32} (h : P σ) : PP P (f_Mod_holds_162 σ y0 y1) := by
  unfold f_Mod_holds_162
  refine ite_z (fun _ => ?_) (fun _ => ?_)
  · exact h
  · exact h
set_option maxRecDepth 100000 in
set_option maxHeartbeats 4000000 in
theorem b_Mod_holds_162 {l : Launch} {ad : Nat → Nat} {D : va_G} {cI : ClassId} {K : Option Value → Sg → Prop} {X : Nat → List Value → List Value → Sg → Prop} (hX : Cl l ad D cI mi_Mod_holds pt_Mod K X) {σ : Sg} {y0 : Int32} {y1 : Int32} (z_y0 : y0 = 0 ∨ y0 = 1) (z_y1 : y1 = 0 ∨ y1 = 1)  (hK : KI K (f_Mod_holds_162 σ y0 y1)) : X 162 [.null, .null, .null, .null] [.int y0, .int y1] σ := by
  unfold f_Mod_holds_162 at hK
  refine hX.1 169 I_Mod_holds_162 ok_Mod_holds_162 _ _ _ ?_
  refine And.intro (fun h1 => ?_) (fun h1 => ?_)
  · have hK := ite_p hK h1
    refine hX.1 171 I_Mod_holds_170 ok_Mod_holds_170 _ _ _ ?_
    exact And.intro (Or.inr rfl) hK
  · have hK := ite_n hK h1
    refine hX.1 170 I_Mod_holds_169 ok_Mod_holds_169 _ _ _ ?_
    refine hX.1 171 I_Mod_holds_170 ok_Mod_holds_170 _ _ _ ?_
    exact And.intro (Or.inl rfl) hK
def f_Mod_holds_149 (σ : Sg) (x1 : Int32) (y0 : Int32) : Int32 × Sg := (if (x1 &&& (1 : Int32)) = (0 : Int32) then (f_Mod_holds_162 σ (1 : Int32) y0) else (f_Mod_holds_162 σ (0 : Int32) y0))
theorem z_Mod_holds_149 {σ : Sg} {x1 : Int32} {y0 : Int32} (z_y0 : y0 = 0 ∨ y0 = 1)  : (f_Mod_holds_149 σ x1 y0).1 = 0 ∨ (f_Mod_holds_149 σ x1 y0).1 = 1 := by
  show Zb (f_Mod_holds_149 σ x1 y0)
  unfold f_Mod_holds_149
  refine ite_z (fun h1 => ?_) (fun h1 => ?_)
  · exact z_Mod_holds_162 (Or.inr rfl) z_y0
  · exact z_Mod_holds_162 (Or.inl rfl) z_y0
abbrev w_Mod_holds_149 : List (Nat × Option Nat) := []
theorem p_Mod_holds_149 {P : Sg → Prop} (hP : WP w_Mod_holds_149 P) {σ : Sg} {x1 : Int32} {y0 : Int32} (h : P σ) : PP P (f_Mod_holds_149 σ x1 y0) := by
  unfold f_Mod_holds_149
  refine ite_z (fun _ => ?_) (fun _ => ?_)
  · exact p_Mod_holds_162 (wsub hP rfl) h
  · exact p_Mod_holds_162 (wsub hP rfl) h
set_option maxRecDepth 100000 in
set_option maxHeartbeats 4000000 in
theorem b_Mod_holds_149 {l : Launch} {ad : Nat → Nat} {D : va_G} {cI : ClassId} {K : Option Value → Sg → Prop} {X : Nat → List Value → List Value → Sg → Prop} (hX : Cl l ad D cI mi_Mod_holds pt_Mod K X) {σ : Sg} {x1 : Int32} {y0 : Int32} (z_y0 : y0 = 0 ∨ y0 = 1)  (hK : KI K (f_Mod_holds_149 σ x1 y0)) : X 149 [.null, .int x1, .null, .null] [.int y0] σ := by
  unfold f_Mod_holds_149 at hK
  refine hX.1 161 I_Mod_holds_149 ok_Mod_holds_149 _ _ _ ?_
  refine And.intro (fun h1 => ?_) (fun h1 => ?_)
  · have hK := ite_p hK h1
    refine hX.fg [1, 3] ?_
    exact b_Mod_holds_162 hX (Or.inr rfl) z_y0  hK
  · have hK := ite_n hK h1
    refine hX.1 162 I_Mod_holds_161 ok_Mod_holds_161 _ _ _ ?_
    refine hX.fg [1, 3] ?_
    exact b_Mod_holds_162 hX (Or.inl rfl) z_y0  hK
def f_Mod_holds_94 (σ : Sg) (x1 : Int32) : Int32 × Sg := (f_Mod_holds_149 σ x1 (1 : Int32))
theorem z_Mod_holds_94 {σ : Sg} {x1 : Int32}   : (f_Mod_holds_94 σ x1).1 = 0 ∨ (f_Mod_holds_94 σ x1).1 = 1 := by
  show Zb (f_Mod_holds_94 σ x1)
  unfold f_Mod_holds_94
  exact z_Mod_holds_149 (Or.inr rfl) 
abbrev w_Mod_holds_94 : List (Nat × Option Nat) := []
theorem p_Mod_holds_94 {P : Sg → Prop} (hP : WP w_Mod_holds_94 P) {σ : Sg} {x1 : Int32} (h : P σ) : PP P (f_Mod_holds_94 σ x1) := by
  unfold f_Mod_holds_94
  exact p_Mod_holds_149 (wsub hP rfl) h
set_option maxRecDepth 100000 in
set_option maxHeartbeats 4000000 in
theorem b_Mod_holds_94 {l : Launch} {ad : Nat → Nat} {D : va_G} {cI : ClassId} {K : Option Value → Sg → Prop} {X : Nat → List Value → List Value → Sg → Prop} (hX : Cl l ad D cI mi_Mod_holds pt_Mod K X) {σ : Sg} {x1 : Int32}   (hK : KI K (f_Mod_holds_94 σ x1)) : X 94 [.null, .int x1, .null, .null] [] σ := by
  unfold f_Mod_holds_94 at hK
  refine hX.1 98 I_Mod_holds_94 ok_Mod_holds_94 _ _ _ ?_
  exact b_Mod_holds_149 hX (Or.inr rfl)  hK
def f_Mod_holds_144 (σ : Sg) (x1 : Int32) : Int32 × Sg := (f_Mod_holds_149 σ x1 (1 : Int32))
theorem z_Mod_holds_144 {σ : Sg} {x1 : Int32}   : (f_Mod_holds_144 σ x1).1 = 0 ∨ (f_Mod_holds_144 σ x1).1 = 1 := by
  show Zb (f_Mod_holds_144 σ x1)
  unfold f_Mod_holds_144
  exact z_Mod_holds_149 (Or.inr rfl) 
abbrev w_Mod_holds_144 : List (Nat × Option Nat) := []
theorem p_Mod_holds_144 {P : Sg → Prop} (hP : WP w_Mod_holds_144 P) {σ : Sg} {x1 : Int32} (h : P σ) : PP P (f_Mod_holds_144 σ x1) := by
  unfold f_Mod_holds_144
  exact p_Mod_holds_149 (wsub hP rfl) h
set_option maxRecDepth 100000 in
set_option maxHeartbeats 4000000 in
theorem b_Mod_holds_144 {l : Launch} {ad : Nat → Nat} {D : va_G} {cI : ClassId} {K : Option Value → Sg → Prop} {X : Nat → List Value → List Value → Sg → Prop} (hX : Cl l ad D cI mi_Mod_holds pt_Mod K X) {σ : Sg} {x1 : Int32}   (hK : KI K (f_Mod_holds_144 σ x1)) : X 144 [.null, .int x1, .null, .null] [] σ := by
  unfold f_Mod_holds_144 at hK
  refine hX.1 148 I_Mod_holds_144 ok_Mod_holds_144 _ _ _ ?_
  exact b_Mod_holds_149 hX (Or.inr rfl)  hK
def f_Mod_holds_22 (σ : Sg) (x1 : Int32) (y0 : Int32) : Int32 × Sg := (if (x1 >>> ((1 : Int32) &&& 31 : Int32)) = (0 : Int32) then (bnd (f_Mod_is σ (2048 : Int32)) fun r2 => (f_Mod_holds_149 r2.2 x1 r2.1)) else (if (x1 >>> ((1 : Int32) &&& 31 : Int32)) = (1 : Int32) then (bnd (f_Mod_is σ (1 : Int32)) fun r4 => (f_Mod_holds_149 r4.2 x1 r4.1)) else (if (x1 >>> ((1 : Int32) &&& 31 : Int32)) = (2 : Int32) then (bnd (f_Mod_is σ (64 : Int32)) fun r6 => (f_Mod_holds_149 r6.2 x1 r6.1)) else (if (x1 >>> ((1 : Int32) &&& 31 : Int32)) = (3 : Int32) then (bnd (f_Mod_is σ (1 : Int32)) fun r8 => (if r8.1 = (0 : Int32) then (bnd (f_Mod_is r8.2 (64 : Int32)) fun r10 => (if r10.1 = (0 : Int32) then (f_Mod_holds_149 r10.2 x1 (0 : Int32)) else (f_Mod_holds_94 r10.2 x1))) else (f_Mod_holds_94 r8.2 x1))) else (if (x1 >>> ((1 : Int32) &&& 31 : Int32)) = (4 : Int32) then (bnd (f_Mod_is σ (128 : Int32)) fun r13 => (f_Mod_holds_149 r13.2 x1 r13.1)) else (if (x1 >>> ((1 : Int32) &&& 31 : Int32)) = (6 : Int32) then (f_Mod_holds_149 σ x1 y0) else (bnd (f_Mod_is σ (64 : Int32)) fun r15 => (if r15.1 = (0 : Int32) then (if y0 = (0 : Int32) then (f_Mod_holds_149 r15.2 x1 (0 : Int32)) else (f_Mod_holds_144 r15.2 x1)) else (f_Mod_holds_144 r15.2 x1)))))))))
theorem z_Mod_holds_22 {σ : Sg} {x1 : Int32} {y0 : Int32} (z_y0 : y0 = 0 ∨ y0 = 1)  : (f_Mod_holds_22 σ x1 y0).1 = 0 ∨ (f_Mod_holds_22 σ x1 y0).1 = 1 := by
  show Zb (f_Mod_holds_22 σ x1 y0)
  unfold f_Mod_holds_22
  refine ite_z (fun h1 => ?_) (fun h1 => ?_)
  · refine bnd_zz (Z := Zb) (z_Mod_is) fun r2 e2 z2 => ?_
    exact z_Mod_holds_149 z2 
  · refine ite_z (fun h3 => ?_) (fun h3 => ?_)
    · refine bnd_zz (Z := Zb) (z_Mod_is) fun r4 e4 z4 => ?_
      exact z_Mod_holds_149 z4 
    · refine ite_z (fun h5 => ?_) (fun h5 => ?_)
      · refine bnd_zz (Z := Zb) (z_Mod_is) fun r6 e6 z6 => ?_
        exact z_Mod_holds_149 z6 
      · refine ite_z (fun h7 => ?_) (fun h7 => ?_)
        · refine bnd_zz (Z := Zb) (z_Mod_is) fun r8 e8 z8 => ?_
          refine ite_z (fun h9 => ?_) (fun h9 => ?_)
          · refine bnd_zz (Z := Zb) (z_Mod_is) fun r10 e10 z10 => ?_
            refine ite_z (fun h11 => ?_) (fun h11 => ?_)
            · exact z_Mod_holds_149 (Or.inl rfl)
            · exact z_Mod_holds_94
          · exact z_Mod_holds_94
        · refine ite_z (fun h12 => ?_) (fun h12 => ?_)
          · refine bnd_zz (Z := Zb) (z_Mod_is) fun r13 e13 z13 => ?_
            exact z_Mod_holds_149 z13 
          · refine ite_z (fun h14 => ?_) (fun h14 => ?_)
            · exact z_Mod_holds_149 z_y0
            · refine bnd_zz (Z := Zb) (z_Mod_is) fun r15 e15 z15 => ?_
              refine ite_z (fun h16 => ?_) (fun h16 => ?_)
              · refine ite_z (fun h17 => ?_) (fun h17 => ?_)
                · exact z_Mod_holds_149 (Or.inl rfl)
                · exact z_Mod_holds_144
              · exact z_Mod_holds_144
abbrev w_Mod_holds_22 : List (Nat × Option Nat) := []
theorem p_Mod_holds_22 {P : Sg → Prop} (hP : WP w_Mod_holds_22 P) {σ : Sg} {x1 : Int32} {y0 : Int32} (h : P σ) : PP P (f_Mod_holds_22 σ x1 y0) := by
  unfold f_Mod_holds_22
  refine ite_z (fun _ => ?_) (fun _ => ?_)
  · refine bnd_zz (Z := PP P) (p_Mod_is (wsub hP rfl) h) fun r2 e2 q2 => ?_
    exact p_Mod_holds_149 (wsub hP rfl) q2
  · refine ite_z (fun _ => ?_) (fun _ => ?_)
    · refine bnd_zz (Z := PP P) (p_Mod_is (wsub hP rfl) h) fun r4 e4 q4 => ?_
      exact p_Mod_holds_149 (wsub hP rfl) q4
    · refine ite_z (fun _ => ?_) (fun _ => ?_)
      · refine bnd_zz (Z := PP P) (p_Mod_is (wsub hP rfl) h) fun r6 e6 q6 => ?_
        exact p_Mod_holds_149 (wsub hP rfl) q6
      · refine ite_z (fun _ => ?_) (fun _ => ?_)
        · refine bnd_zz (Z := PP P) (p_Mod_is (wsub hP rfl) h) fun r8 e8 q8 => ?_
          refine ite_z (fun _ => ?_) (fun _ => ?_)
          · refine bnd_zz (Z := PP P) (p_Mod_is (wsub hP rfl) q8) fun r10 e10 q10 => ?_
            refine ite_z (fun _ => ?_) (fun _ => ?_)
            · exact p_Mod_holds_149 (wsub hP rfl) q10
            · exact p_Mod_holds_94 (wsub hP rfl) q10
          · exact p_Mod_holds_94 (wsub hP rfl) q8
        · refine ite_z (fun _ => ?_) (fun _ => ?_)
          · refine bnd_zz (Z := PP P) (p_Mod_is (wsub hP rfl) h) fun r13 e13 q13 => ?_
            exact p_Mod_holds_149 (wsub hP rfl) q13
          · refine ite_z (fun _ => ?_) (fun _ => ?_)
            · exact p_Mod_holds_149 (wsub hP rfl) h
            · refine bnd_zz (Z := PP P) (p_Mod_is (wsub hP rfl) h) fun r15 e15 q15 => ?_
              refine ite_z (fun _ => ?_) (fun _ => ?_)
              · refine ite_z (fun _ => ?_) (fun _ => ?_)
                · exact p_Mod_holds_149 (wsub hP rfl) q15
                · exact p_Mod_holds_144 (wsub hP rfl) q15
              · exact p_Mod_holds_144 (wsub hP rfl) q15
set_option maxRecDepth 100000 in
set_option maxHeartbeats 4000000 in
theorem b_Mod_holds_22 {l : Launch} {ad : Nat → Nat} {D : va_G} {cI : ClassId} {K : Option Value → Sg → Prop} {X : Nat → List Value → List Value → Sg → Prop} (hX : Cl l ad D cI mi_Mod_holds pt_Mod K X) {σ : Sg} {x1 : Int32} {y0 : Int32} (z_y0 : y0 = 0 ∨ y0 = 1)  (hK : KI K (f_Mod_holds_22 σ x1 y0)) : X 22 [.ref 15, .int x1, .null, .null] [.int y0] σ := by
  unfold f_Mod_holds_22 at hK
  refine hX.1 39 I_Mod_holds_22 ok_Mod_holds_22 _ _ _ ?_
  refine And.intro (fun h1 => ?_) (fun h1 => ?_)
  · have hK := ite_p hK h1
    refine s_Mod_is (bnd_g hK fun r2 e2 hK => ?_)
    have z2 : r2.1 = 0 ∨ r2.1 = 1 := by rw [← e2]; exact z_Mod_is
    refine hX.fg [0, 2] ?_
    exact b_Mod_holds_149 hX z2  hK
  · have hK := ite_n hK h1
    refine hX.1 54 I_Mod_holds_39 ok_Mod_holds_39 _ _ _ ?_
    refine And.intro (fun h3 => ?_) (fun h3 => ?_)
    · have hK := ite_p hK h3
      refine s_Mod_is (bnd_g hK fun r4 e4 hK => ?_)
      have z4 : r4.1 = 0 ∨ r4.1 = 1 := by rw [← e4]; exact z_Mod_is
      refine hX.fg [0, 2] ?_
      exact b_Mod_holds_149 hX z4  hK
    · have hK := ite_n hK h3
      refine hX.1 70 I_Mod_holds_54 ok_Mod_holds_54 _ _ _ ?_
      refine And.intro (fun h5 => ?_) (fun h5 => ?_)
      · have hK := ite_p hK h5
        refine s_Mod_is (bnd_g hK fun r6 e6 hK => ?_)
        have z6 : r6.1 = 0 ∨ r6.1 = 1 := by rw [← e6]; exact z_Mod_is
        refine hX.fg [0, 2] ?_
        exact b_Mod_holds_149 hX z6  hK
      · have hK := ite_n hK h5
        refine hX.1 94 I_Mod_holds_70 ok_Mod_holds_70 _ _ _ ?_
        refine And.intro (fun h7 => ?_) (fun h7 => ?_)
        · have hK := ite_p hK h7
          refine s_Mod_is (bnd_g hK fun r8 e8 hK => ?_)
          have z8 : r8.1 = 0 ∨ r8.1 = 1 := by rw [← e8]; exact z_Mod_is
          refine And.intro (fun h9 => ?_) (fun h9 => ?_)
          · have hK := ite_p hK h9
            refine s_Mod_is (bnd_g hK fun r10 e10 hK => ?_)
            have z10 : r10.1 = 0 ∨ r10.1 = 1 := by rw [← e10]; exact z_Mod_is
            refine And.intro (fun h11 => ?_) (fun h11 => ?_)
            · have hK := ite_p hK h11
              refine hX.1 102 I_Mod_holds_98 ok_Mod_holds_98 _ _ _ ?_
              refine hX.fg [0, 2] ?_
              exact b_Mod_holds_149 hX (Or.inl rfl)  hK
            · have hK := ite_n hK h11
              refine hX.fg [0, 2] ?_
              exact b_Mod_holds_94 hX  hK
          · have hK := ite_n hK h9
            refine hX.fg [0, 2] ?_
            exact b_Mod_holds_94 hX  hK
        · have hK := ite_n hK h7
          refine hX.1 119 I_Mod_holds_102 ok_Mod_holds_102 _ _ _ ?_
          refine And.intro (fun h12 => ?_) (fun h12 => ?_)
          · have hK := ite_p hK h12
            refine s_Mod_is (bnd_g hK fun r13 e13 hK => ?_)
            have z13 : r13.1 = 0 ∨ r13.1 = 1 := by rw [← e13]; exact z_Mod_is
            refine hX.fg [0, 2] ?_
            exact b_Mod_holds_149 hX z13  hK
          · have hK := ite_n hK h12
            refine hX.1 131 I_Mod_holds_119 ok_Mod_holds_119 _ _ _ ?_
            refine And.intro (fun h14 => ?_) (fun h14 => ?_)
            · have hK := ite_p hK h14
              refine hX.fg [0, 2] ?_
              exact b_Mod_holds_149 hX z_y0  hK
            · have hK := ite_n hK h14
              refine hX.1 144 I_Mod_holds_131 ok_Mod_holds_131 _ _ _ ?_
              refine s_Mod_is (bnd_g hK fun r15 e15 hK => ?_)
              have z15 : r15.1 = 0 ∨ r15.1 = 1 := by rw [← e15]; exact z_Mod_is
              refine And.intro (fun h16 => ?_) (fun h16 => ?_)
              · have hK := ite_p hK h16
                refine And.intro (fun h17 => ?_) (fun h17 => ?_)
                · have hK := ite_p hK h17
                  refine hX.1 149 I_Mod_holds_148 ok_Mod_holds_148 _ _ _ ?_
                  refine hX.fg [0, 2] ?_
                  exact b_Mod_holds_149 hX (Or.inl rfl)  hK
                · have hK := ite_n hK h17
                  refine hX.fg [0, 2] ?_
                  exact b_Mod_holds_144 hX  hK
              · have hK := ite_n hK h16
                refine hX.fg [0, 2] ?_
                exact b_Mod_holds_144 hX  hK
def f_Mod_holds (σ : Sg) (a1 : Int32) : Int32 × Sg := (bnd (f_Mod_is σ (128 : Int32)) fun r1 => bnd (f_Mod_is r1.2 (2048 : Int32)) fun r2 => (if r1.1 = r2.1 then (f_Mod_holds_22 r2.2 a1 (0 : Int32)) else (f_Mod_holds_22 r2.2 a1 (1 : Int32))))
theorem z_Mod_holds {σ : Sg} {a1 : Int32}   : (f_Mod_holds σ a1).1 = 0 ∨ (f_Mod_holds σ a1).1 = 1 := by
  show Zb (f_Mod_holds σ a1)
  unfold f_Mod_holds
  refine bnd_zz (Z := Zb) (z_Mod_is) fun r1 e1 z1 => ?_
  refine bnd_zz (Z := Zb) (z_Mod_is) fun r2 e2 z2 => ?_
  refine ite_z (fun h3 => ?_) (fun h3 => ?_)
  · exact z_Mod_holds_22 (Or.inl rfl)
  · exact z_Mod_holds_22 (Or.inr rfl)
abbrev w_Mod_holds : List (Nat × Option Nat) := []
theorem p_Mod_holds {P : Sg → Prop} (hP : WP w_Mod_holds P) {σ : Sg} {a1 : Int32} (h : P σ) : PP P (f_Mod_holds σ a1) := by
  unfold f_Mod_holds
  refine bnd_zz (Z := PP P) (p_Mod_is (wsub hP rfl) h) fun r1 e1 q1 => ?_
  refine bnd_zz (Z := PP P) (p_Mod_is (wsub hP rfl) q1) fun r2 e2 q2 => ?_
  refine ite_z (fun _ => ?_) (fun _ => ?_)
  · exact p_Mod_holds_22 (wsub hP rfl) q2
  · exact p_Mod_holds_22 (wsub hP rfl) q2
set_option maxRecDepth 100000 in
set_option maxHeartbeats 4000000 in
theorem s_Mod_holds {l : Launch} {ad : Nat → Nat} {D : va_G} {cI : ClassId} {σ : Sg} {a1 : Int32} {K : Option Value → Sg → Prop}   (hK : KI K (f_Mod_holds σ a1)) : MetJ l ad D cI mi_Mod_holds [.ref 15, .int a1] σ K := by
  refine met_of mi_Mod_holds pt_Mod pt_Mod_in rfl pl_Mod rfl (Nat.le_of_ble_eq_true rfl) fun X hX => ?_
  have hX : Cl l ad D cI mi_Mod_holds pt_Mod K X := hX
  show X 0 [.ref 15, .int a1, .null, .null] [] σ
  unfold f_Mod_holds at hK
  refine hX.1 21 I_Mod_holds_0 ok_Mod_holds_0 _ _ _ ?_
  refine s_Mod_is (bnd_g hK fun r1 e1 hK => ?_)
  have z1 : r1.1 = 0 ∨ r1.1 = 1 := by rw [← e1]; exact z_Mod_is
  refine s_Mod_is (bnd_g hK fun r2 e2 hK => ?_)
  have z2 : r2.1 = 0 ∨ r2.1 = 1 := by rw [← e2]; exact z_Mod_is
  refine And.intro (fun h3 => ?_) (fun h3 => ?_)
  · have hK := ite_p hK h3
    refine hX.1 22 I_Mod_holds_21 ok_Mod_holds_21 _ _ _ ?_
    exact b_Mod_holds_22 hX (Or.inl rfl)  hK
  · have hK := ite_n hK h3
    exact b_Mod_holds_22 hX (Or.inr rfl)  hK
def I_Mod_moves_0 : List IT := [(0, .iload_n 1, 1, 0, 0, []), (1, .iconst 1, 1, 1, 0, []), (2, .iand, 1, 0, 0, []), (3, .iconst 1, 1, 1, 0, []), (4, .if_icmp .ne 7, 3, 0, 11, []), (7, .iconst 1, 1, 1, 0, []), (8, .goto 4, 3, 0, 12, [])]
theorem ok_Mod_moves_0 : blkOK b_Mod_moves pt_Mod 11 I_Mod_moves_0 = true := by decide +kernel
def I_Mod_moves_11 : List IT := [(11, .iconst 0, 1, 0, 0, [])]
theorem ok_Mod_moves_11 : blkOK b_Mod_moves pt_Mod 12 I_Mod_moves_11 = true := by decide +kernel
def I_Mod_moves_12 : List IT := [(12, .istore_n 2, 1, 0, 0, []), (13, .aload_n 0, 1, 0, 0, []), (14, .invokevirtual 148, 3, 0, 0, []), (17, .aload_n 0, 1, 0, 0, []), (18, .getfield 58, 3, 0, 0, []), (21, .iconst 3, 1, 3, 0, []), (22, .iand, 1, 0, 0, []), (23, .istore_n 3, 1, 0, 0, []), (24, .aload_n 0, 1, 0, 0, []), (25, .iload_n 1, 1, 0, 0, []), (26, .sipush 142, 3, 142, 0, []), (29, .if_icmp .ne 8, 3, 0, 37, []), (32, .iload_n 3, 1, 0, 0, []), (33, .iconst 1, 1, 1, 0, []), (34, .if_icmp .eq 17, 3, 0, 51, [])]
theorem ok_Mod_moves_12 : blkOK b_Mod_moves pt_Mod 37 I_Mod_moves_12 = true := by decide +kernel
def I_Mod_moves_37 : List IT := [(37, .iload_n 1, 1, 0, 0, []), (38, .sipush 141, 3, 141, 0, []), (41, .if_icmp .ne 14, 3, 0, 55, []), (44, .aload_n 0, 1, 0, 0, []), (45, .getfield 61, 3, 0, 0, []), (48, .ifCond .lt 7, 3, 0, 55, [])]
theorem ok_Mod_moves_37 : blkOK b_Mod_moves pt_Mod 51 I_Mod_moves_37 = true := by decide +kernel
def I_Mod_moves_51 : List IT := [(51, .iconst 1, 1, 1, 0, []), (52, .goto 4, 3, 0, 56, [])]
theorem ok_Mod_moves_51 : blkOK b_Mod_moves pt_Mod 55 I_Mod_moves_51 = true := by decide +kernel
def I_Mod_moves_55 : List IT := [(55, .iconst 0, 1, 0, 0, [])]
theorem ok_Mod_moves_55 : blkOK b_Mod_moves pt_Mod 56 I_Mod_moves_55 = true := by decide +kernel
def I_Mod_moves_56 : List IT := [(56, .putfield 157, 3, 0, 0, []), (59, .aload_n 0, 1, 0, 0, []), (60, .getfield 157, 3, 0, 0, []), (63, .ifCond .eq 4, 3, 0, 67, []), (66, .return_, 1, 0, 0, [])]
theorem ok_Mod_moves_56 : blkOK b_Mod_moves pt_Mod 67 I_Mod_moves_56 = true := by decide +kernel
def I_Mod_moves_67 : List IT := [(67, .iload_n 1, 1, 0, 0, []), (68, .sipush 138, 3, 138, 0, []), (71, .if_icmp .ge 17, 3, 0, 88, []), (74, .aload_n 0, 1, 0, 0, []), (75, .aload_n 0, 1, 0, 0, []), (76, .aload_n 0, 1, 0, 0, []), (77, .getfield 58, 3, 0, 0, []), (80, .iload_n 2, 1, 0, 0, []), (81, .invokevirtual 76, 3, 0, 0, []), (84, .iload_n 2, 1, 0, 0, []), (85, .invokevirtual 154, 3, 0, 0, [])]
theorem ok_Mod_moves_67 : blkOK b_Mod_moves pt_Mod 88 I_Mod_moves_67 = true := by decide +kernel
def I_Mod_moves_88 : List IT := [(88, .iload_n 1, 1, 0, 0, []), (89, .sipush 138, 3, 138, 0, []), (92, .if_icmp .eq 10, 3, 0, 102, []), (95, .iload_n 1, 1, 0, 0, []), (96, .sipush 139, 3, 139, 0, []), (99, .if_icmp .ne 17, 3, 0, 116, [])]
theorem ok_Mod_moves_88 : blkOK b_Mod_moves pt_Mod 102 I_Mod_moves_88 = true := by decide +kernel
def I_Mod_moves_102 : List IT := [(102, .aload_n 0, 1, 0, 0, []), (103, .aload_n 0, 1, 0, 0, []), (104, .getfield 58, 3, 0, 0, []), (107, .aload_n 0, 1, 0, 0, []), (108, .iload_n 2, 1, 0, 0, []), (109, .invokevirtual 151, 3, 0, 0, []), (112, .iload_n 2, 1, 0, 0, []), (113, .invokevirtual 84, 3, 0, 0, [])]
theorem ok_Mod_moves_102 : blkOK b_Mod_moves pt_Mod 116 I_Mod_moves_102 = true := by decide +kernel
def I_Mod_moves_116 : List IT := [(116, .iload_n 1, 1, 0, 0, []), (117, .sipush 140, 3, 140, 0, []), (120, .if_icmp .ne 14, 3, 0, 134, []), (123, .aload_n 0, 1, 0, 0, []), (124, .aload_n 0, 1, 0, 0, []), (125, .getfield 16, 3, 0, 0, []), (128, .iload_n 3, 1, 0, 0, []), (129, .iaload, 1, 0, 0, []), (130, .iconst 1, 1, 1, 0, []), (131, .invokevirtual 154, 3, 0, 0, [])]
theorem ok_Mod_moves_116 : blkOK b_Mod_moves pt_Mod 134 I_Mod_moves_116 = true := by decide +kernel
def I_Mod_moves_134 : List IT := [(134, .iload_n 1, 1, 0, 0, []), (135, .sipush 141, 3, 141, 0, []), (138, .if_icmp .ne 16, 3, 0, 154, []), (141, .aload_n 0, 1, 0, 0, []), (142, .aload_n 0, 1, 0, 0, []), (143, .getfield 58, 3, 0, 0, []), (146, .aload_n 0, 1, 0, 0, []), (147, .getfield 67, 3, 0, 0, []), (150, .iconst 1, 1, 1, 0, []), (151, .invokevirtual 84, 3, 0, 0, [])]
theorem ok_Mod_moves_134 : blkOK b_Mod_moves pt_Mod 154 I_Mod_moves_134 = true := by decide +kernel
def I_Mod_moves_154 : List IT := [(154, .iload_n 1, 1, 0, 0, []), (155, .sipush 142, 3, 142, 0, []), (158, .if_icmp .ne 28, 3, 0, 186, []), (161, .aload_n 0, 1, 0, 0, []), (162, .getfield 16, 3, 0, 0, []), (165, .iload_n 3, 1, 0, 0, []), (166, .aload_n 0, 1, 0, 0, []), (167, .iconst 1, 1, 1, 0, []), (168, .invokevirtual 151, 3, 0, 0, []), (171, .iastore, 1, 0, 0, []), (172, .aload_n 0, 1, 0, 0, []), (173, .iload_n 3, 1, 0, 0, []), (174, .iconst 2, 1, 2, 0, []), (175, .if_icmp .ne 7, 3, 0, 182, []), (178, .iconst 1, 1, 1, 0, []), (179, .goto 4, 3, 0, 183, [])]
theorem ok_Mod_moves_154 : blkOK b_Mod_moves pt_Mod 182 I_Mod_moves_154 = true := by decide +kernel
def I_Mod_moves_182 : List IT := [(182, .iconst 0, 1, 0, 0, [])]
theorem ok_Mod_moves_182 : blkOK b_Mod_moves pt_Mod 183 I_Mod_moves_182 = true := by decide +kernel
def I_Mod_moves_183 : List IT := [(183, .putfield 161, 3, 0, 0, [])]
theorem ok_Mod_moves_183 : blkOK b_Mod_moves pt_Mod 186 I_Mod_moves_183 = true := by decide +kernel
def I_Mod_moves_186 : List IT := [(186, .return_, 1, 0, 0, [])]
theorem ok_Mod_moves_186 : blkOK b_Mod_moves pt_Mod 187 I_Mod_moves_186 = true := by decide +kernel
def f_Mod_moves_154 (σ : Sg) (x1 : Int32) (x3 : Int32) : Sg := (if x1 = (142 : Int32) then (bnd (f_Mod_getE σ (1 : Int32)) fun r2 => bnd (up2 r2.2 18 (Int32.toNatClampNeg x3) r2.1) fun s3 => (if x3 = (2 : Int32) then (bnd (up2 s3 15 6 (1 : Int32)) fun s5 => s5) else (bnd (up2 s3 15 6 (0 : Int32)) fun s6 => s6))) else σ)
abbrev w_Mod_moves_154 : List (Nat × Option Nat) := [(15, some 6), (18, none)]
theorem p_Mod_moves_154 {P : Sg → Prop} (hP : WP w_Mod_moves_154 P) {σ : Sg} {x1 : Int32} {x3 : Int32} (h : P σ) : P (f_Mod_moves_154 σ x1 x3) := by
  unfold f_Mod_moves_154
  refine ite_z (fun _ => ?_) (fun _ => ?_)
  · refine bnd_zz (Z := PP P) (p_Mod_getE (wsub hP rfl) h) fun r2 e2 q2 => ?_
    refine bnd_zz (Z := P) (hP _ _ _ _ (Or.inl (by decide)) q2) fun s3 e3 q3 => ?_
    refine ite_z (fun _ => ?_) (fun _ => ?_)
    · refine bnd_zz (Z := P) (hP _ _ _ _ (Or.inr (by decide)) q3) fun s5 e5 q5 => ?_
      exact q5
    · refine bnd_zz (Z := P) (hP _ _ _ _ (Or.inr (by decide)) q3) fun s6 e6 q6 => ?_
      exact q6
  · exact h
set_option maxRecDepth 100000 in
set_option maxHeartbeats 4000000 in
theorem b_Mod_moves_154 {l : Launch} {ad : Nat → Nat} {D : va_G} {cI : ClassId} {K : Option Value → Sg → Prop} {X : Nat → List Value → List Value → Sg → Prop} (hX : Cl l ad D cI mi_Mod_moves pt_Mod K X) {σ : Sg} {x1 : Int32} {x3 : Int32} (v4_x3 : vp_in x3 4) (EK0 : EK σ) (hK : KV K (f_Mod_moves_154 σ x1 x3)) : X 154 [.ref 15, .int x1, .null, .int x3] [] σ := by
  unfold f_Mod_moves_154 at hK
  refine hX.1 182 I_Mod_moves_154 ok_Mod_moves_154 _ _ _ ?_
  refine And.intro (fun h1 => ?_) (fun h1 => ?_)
  · have hK := ite_p hK h1
    refine s_Mod_getE EK0 (bnd_g hK fun r2 e2 hK => ?_)
    refine And.intro v4_x3 (SG_g hK fun s3 e3 hK => ?_)
    refine And.intro (fun h4 => ?_) (fun h4 => ?_)
    · have hK := ite_p hK h4
      refine hX.1 186 I_Mod_moves_183 ok_Mod_moves_183 _ _ _ ?_
      refine And.intro (Or.inr rfl) (SG_g hK fun s5 e5 hK => ?_)
      refine hX.1 187 I_Mod_moves_186 ok_Mod_moves_186 _ _ _ ?_
      exact hK
    · have hK := ite_n hK h4
      refine hX.1 183 I_Mod_moves_182 ok_Mod_moves_182 _ _ _ ?_
      refine hX.1 186 I_Mod_moves_183 ok_Mod_moves_183 _ _ _ ?_
      refine And.intro (Or.inl rfl) (SG_g hK fun s6 e6 hK => ?_)
      refine hX.1 187 I_Mod_moves_186 ok_Mod_moves_186 _ _ _ ?_
      exact hK
  · have hK := ite_n hK h1
    refine hX.1 187 I_Mod_moves_186 ok_Mod_moves_186 _ _ _ ?_
    exact hK
def f_Mod_moves_134 (σ : Sg) (x1 : Int32) (x3 : Int32) : Sg := (if x1 = (141 : Int32) then (bnd (f_Mod_setRegister σ (σ 15 12) (σ 15 14) (1 : Int32)) fun r2 => (f_Mod_moves_154 r2 x1 x3)) else (f_Mod_moves_154 σ x1 x3))
abbrev w_Mod_moves_134 : List (Nat × Option Nat) := [(15, some 6), (17, none), (18, none)]
theorem p_Mod_moves_134 {P : Sg → Prop} (hP : WP w_Mod_moves_134 P) {σ : Sg} {x1 : Int32} {x3 : Int32} (h : P σ) : P (f_Mod_moves_134 σ x1 x3) := by
  unfold f_Mod_moves_134
  refine ite_z (fun _ => ?_) (fun _ => ?_)
  · refine bnd_zz (Z := P) (p_Mod_setRegister (wsub hP rfl) h) fun r2 e2 q2 => ?_
    exact p_Mod_moves_154 (wsub hP rfl) q2
  · exact p_Mod_moves_154 (wsub hP rfl) h
set_option maxRecDepth 100000 in
set_option maxHeartbeats 4000000 in
theorem b_Mod_moves_134 {l : Launch} {ad : Nat → Nat} {D : va_G} {cI : ClassId} {K : Option Value → Sg → Prop} {X : Nat → List Value → List Value → Sg → Prop} (hX : Cl l ad D cI mi_Mod_moves pt_Mod K X) {σ : Sg} {x1 : Int32} {x3 : Int32} (v4_x3 : vp_in x3 4) (EK0 : EK σ) (MK0 : MK σ) (hK : KV K (f_Mod_moves_134 σ x1 x3)) : X 134 [.ref 15, .int x1, .null, .int x3] [] σ := by
  unfold f_Mod_moves_134 at hK
  refine hX.1 154 I_Mod_moves_134 ok_Mod_moves_134 _ _ _ ?_
  refine And.intro (fun h1 => ?_) (fun h1 => ?_)
  · have hK := ite_p hK h1
    refine s_Mod_setRegister MK0 (bnd_g hK fun r2 e2 hK => ?_)
    have EK2 : EK r2 := by rw [← e2]; exact p_Mod_setRegister (P := EK) (EKw rfl) EK0
    exact b_Mod_moves_154 hX v4_x3 EK2 hK
  · have hK := ite_n hK h1
    exact b_Mod_moves_154 hX v4_x3 EK0 hK
def f_Mod_moves_116 (σ : Sg) (x1 : Int32) (x3 : Int32) : Sg := (if x1 = (140 : Int32) then (bnd (f_Mod_setE σ (σ 18 (Int32.toNatClampNeg x3)) (1 : Int32)) fun r2 => (f_Mod_moves_134 r2 x1 x3)) else (f_Mod_moves_134 σ x1 x3))
abbrev w_Mod_moves_116 : List (Nat × Option Nat) := [(15, some 6), (16, none), (17, none), (18, none)]
theorem p_Mod_moves_116 {P : Sg → Prop} (hP : WP w_Mod_moves_116 P) {σ : Sg} {x1 : Int32} {x3 : Int32} (h : P σ) : P (f_Mod_moves_116 σ x1 x3) := by
  unfold f_Mod_moves_116
  refine ite_z (fun _ => ?_) (fun _ => ?_)
  · refine bnd_zz (Z := P) (p_Mod_setE (wsub hP rfl) h) fun r2 e2 q2 => ?_
    exact p_Mod_moves_134 (wsub hP rfl) q2
  · exact p_Mod_moves_134 (wsub hP rfl) h
set_option maxRecDepth 100000 in
set_option maxHeartbeats 4000000 in
theorem b_Mod_moves_116 {l : Launch} {ad : Nat → Nat} {D : va_G} {cI : ClassId} {K : Option Value → Sg → Prop} {X : Nat → List Value → List Value → Sg → Prop} (hX : Cl l ad D cI mi_Mod_moves pt_Mod K X) {σ : Sg} {x1 : Int32} {x3 : Int32} (v4_x3 : vp_in x3 4) (EK0 : EK σ) (MK0 : MK σ) (hK : KV K (f_Mod_moves_116 σ x1 x3)) : X 116 [.ref 15, .int x1, .null, .int x3] [] σ := by
  unfold f_Mod_moves_116 at hK
  refine hX.1 134 I_Mod_moves_116 ok_Mod_moves_116 _ _ _ ?_
  refine And.intro (fun h1 => ?_) (fun h1 => ?_)
  · have hK := ite_p hK h1
    refine And.intro v4_x3 ?_
    refine s_Mod_setE EK0 (bnd_g hK fun r2 e2 hK => ?_)
    have MK2 : MK r2 := by rw [← e2]; exact p_Mod_setE (P := MK) (MKw rfl) MK0
    have EK2 : EK r2 := by rw [← e2]; exact p_Mod_setE (P := EK) (EKw rfl) EK0
    exact b_Mod_moves_134 hX v4_x3 EK2 MK2 hK
  · have hK := ite_n hK h1
    exact b_Mod_moves_134 hX v4_x3 EK0 MK0 hK
def f_Mod_moves_102 (σ : Sg) (x1 : Int32) (x2 : Int32) (x3 : Int32) : Sg := (bnd (f_Mod_getE σ x2) fun r1 => bnd (f_Mod_setRegister r1.2 (σ 15 12) r1.1 x2) fun r2 => (f_Mod_moves_116 r2 x1 x3))
abbrev w_Mod_moves_102 : List (Nat × Option Nat) := [(15, some 6), (16, none), (17, none), (18, none)]
theorem p_Mod_moves_102 {P : Sg → Prop} (hP : WP w_Mod_moves_102 P) {σ : Sg} {x1 : Int32} {x2 : Int32} {x3 : Int32} (h : P σ) : P (f_Mod_moves_102 σ x1 x2 x3) := by
  unfold f_Mod_moves_102
  refine bnd_zz (Z := PP P) (p_Mod_getE (wsub hP rfl) h) fun r1 e1 q1 => ?_
  refine bnd_zz (Z := P) (p_Mod_setRegister (wsub hP rfl) q1) fun r2 e2 q2 => ?_
  exact p_Mod_moves_116 (wsub hP rfl) q2
set_option maxRecDepth 100000 in
set_option maxHeartbeats 4000000 in
theorem b_Mod_moves_102 {l : Launch} {ad : Nat → Nat} {D : va_G} {cI : ClassId} {K : Option Value → Sg → Prop} {X : Nat → List Value → List Value → Sg → Prop} (hX : Cl l ad D cI mi_Mod_moves pt_Mod K X) {σ : Sg} {x1 : Int32} {x2 : Int32} {x3 : Int32} (z_x2 : x2 = 0 ∨ x2 = 1) (v4_x2 : vp_in x2 4) (v4_x3 : vp_in x3 4) (EK0 : EK σ) (MK0 : MK σ) (hK : KV K (f_Mod_moves_102 σ x1 x2 x3)) : X 102 [.ref 15, .int x1, .int x2, .int x3] [] σ := by
  unfold f_Mod_moves_102 at hK
  refine hX.1 116 I_Mod_moves_102 ok_Mod_moves_102 _ _ _ ?_
  refine s_Mod_getE EK0 (bnd_g hK fun r1 e1 hK => ?_)
  have MK1 : MK r1.2 := by rw [← e1]; exact p_Mod_getE (P := MK) (MKw rfl) MK0
  have EK1 : EK r1.2 := by rw [← e1]; exact p_Mod_getE (P := EK) (EKw rfl) EK0
  refine s_Mod_setRegister MK0 (bnd_g hK fun r2 e2 hK => ?_)
  have MK2 : MK r2 := by rw [← e2]; exact p_Mod_setRegister (P := MK) (MKw rfl) MK1
  have EK2 : EK r2 := by rw [← e2]; exact p_Mod_setRegister (P := EK) (EKw rfl) EK1
  refine hX.fg [2] ?_
  exact b_Mod_moves_116 hX v4_x3 EK2 MK2 hK
def f_Mod_moves_88 (σ : Sg) (x1 : Int32) (x2 : Int32) (x3 : Int32) : Sg := (if x1 = (138 : Int32) then (f_Mod_moves_102 σ x1 x2 x3) else (if x1 = (139 : Int32) then (f_Mod_moves_102 σ x1 x2 x3) else (f_Mod_moves_116 σ x1 x3)))
abbrev w_Mod_moves_88 : List (Nat × Option Nat) := [(15, some 6), (16, none), (17, none), (18, none)]
theorem p_Mod_moves_88 {P : Sg → Prop} (hP : WP w_Mod_moves_88 P) {σ : Sg} {x1 : Int32} {x2 : Int32} {x3 : Int32} (h : P σ) : P (f_Mod_moves_88 σ x1 x2 x3) := by
  unfold f_Mod_moves_88
  refine ite_z (fun _ => ?_) (fun _ => ?_)
  · exact p_Mod_moves_102 (wsub hP rfl) h
  · refine ite_z (fun _ => ?_) (fun _ => ?_)
    · exact p_Mod_moves_102 (wsub hP rfl) h
    · exact p_Mod_moves_116 (wsub hP rfl) h
set_option maxRecDepth 100000 in
set_option maxHeartbeats 4000000 in
theorem b_Mod_moves_88 {l : Launch} {ad : Nat → Nat} {D : va_G} {cI : ClassId} {K : Option Value → Sg → Prop} {X : Nat → List Value → List Value → Sg → Prop} (hX : Cl l ad D cI mi_Mod_moves pt_Mod K X) {σ : Sg} {x1 : Int32} {x2 : Int32} {x3 : Int32} (z_x2 : x2 = 0 ∨ x2 = 1) (v4_x2 : vp_in x2 4) (v4_x3 : vp_in x3 4) (EK0 : EK σ) (MK0 : MK σ) (hK : KV K (f_Mod_moves_88 σ x1 x2 x3)) : X 88 [.ref 15, .int x1, .int x2, .int x3] [] σ := by
  unfold f_Mod_moves_88 at hK
  refine hX.1 102 I_Mod_moves_88 ok_Mod_moves_88 _ _ _ ?_
  refine And.intro (fun h1 => ?_) (fun h1 => ?_)
  · have hK := ite_p hK h1
    exact b_Mod_moves_102 hX z_x2 v4_x2 v4_x3 EK0 MK0 hK
  · have hK := ite_n hK h1
    refine And.intro (fun h2 => ?_) (fun h2 => ?_)
    · have hK := ite_p hK h2
      exact b_Mod_moves_102 hX z_x2 v4_x2 v4_x3 EK0 MK0 hK
    · have hK := ite_n hK h2
      refine hX.fg [2] ?_
      exact b_Mod_moves_116 hX v4_x3 EK0 MK0 hK
def f_Mod_moves_56 (σ : Sg) (x1 : Int32) (x2 : Int32) (x3 : Int32) (y0 : Int32) : Sg := (bnd (up2 σ 15 16 y0) fun s1 => (if (s1 15 16) = (0 : Int32) then (if (138 : Int32) ≤ x1 then (f_Mod_moves_88 s1 x1 x2 x3) else (bnd (f_Mod_getRegister s1 (s1 15 12) x2) fun r4 => bnd (f_Mod_setE r4.2 r4.1 x2) fun r5 => (f_Mod_moves_88 r5 x1 x2 x3))) else s1))
abbrev w_Mod_moves_56 : List (Nat × Option Nat) := [(15, some 6), (15, some 16), (16, none), (17, none), (18, none)]
theorem p_Mod_moves_56 {P : Sg → Prop} (hP : WP w_Mod_moves_56 P) {σ : Sg} {x1 : Int32} {x2 : Int32} {x3 : Int32} {y0 : Int32} (h : P σ) : P (f_Mod_moves_56 σ x1 x2 x3 y0) := by
  unfold f_Mod_moves_56
  refine bnd_zz (Z := P) (hP _ _ _ _ (Or.inr (by decide)) h) fun s1 e1 q1 => ?_
  refine ite_z (fun _ => ?_) (fun _ => ?_)
  · refine ite_z (fun _ => ?_) (fun _ => ?_)
    · exact p_Mod_moves_88 (wsub hP rfl) q1
    · refine bnd_zz (Z := PP P) (p_Mod_getRegister (wsub hP rfl) q1) fun r4 e4 q4 => ?_
      refine bnd_zz (Z := P) (p_Mod_setE (wsub hP rfl) q4) fun r5 e5 q5 => ?_
      exact p_Mod_moves_88 (wsub hP rfl) q5
  · exact q1
set_option maxRecDepth 100000 in
set_option maxHeartbeats 4000000 in
theorem b_Mod_moves_56 {l : Launch} {ad : Nat → Nat} {D : va_G} {cI : ClassId} {K : Option Value → Sg → Prop} {X : Nat → List Value → List Value → Sg → Prop} (hX : Cl l ad D cI mi_Mod_moves pt_Mod K X) {σ : Sg} {x1 : Int32} {x2 : Int32} {x3 : Int32} {y0 : Int32} (z_x2 : x2 = 0 ∨ x2 = 1) (v4_x2 : vp_in x2 4) (v4_x3 : vp_in x3 4) (z_y0 : y0 = 0 ∨ y0 = 1) (v4_y0 : vp_in y0 4) (EK0 : EK σ) (MK0 : MK σ) (hK : KV K (f_Mod_moves_56 σ x1 x2 x3 y0)) : X 56 [.ref 15, .int x1, .int x2, .int x3] [.int y0, .ref 15] σ := by
  unfold f_Mod_moves_56 at hK
  refine hX.1 67 I_Mod_moves_56 ok_Mod_moves_56 _ _ _ ?_
  refine And.intro z_y0 (SG_g hK fun s1 e1 hK => ?_)
  have MK1 : MK s1 := by rw [← e1]; exact MKw (W := [(15, some 16)]) rfl _ _ _ _ (Or.inr (by decide)) MK0
  have EK1 : EK s1 := by rw [← e1]; exact EKw (W := [(15, some 16)]) rfl _ _ _ _ (Or.inr (by decide)) EK0
  refine And.intro (fun h2 => ?_) (fun h2 => ?_)
  · have hK := ite_p hK h2
    refine hX.1 88 I_Mod_moves_67 ok_Mod_moves_67 _ _ _ ?_
    refine And.intro (fun h3 => ?_) (fun h3 => ?_)
    · have hK := ite_p hK h3
      exact b_Mod_moves_88 hX z_x2 v4_x2 v4_x3 EK1 MK1 hK
    · have hK := ite_n hK h3
      refine s_Mod_getRegister MK1 (bnd_g hK fun r4 e4 hK => ?_)
      have MK4 : MK r4.2 := by rw [← e4]; exact p_Mod_getRegister (P := MK) (MKw rfl) MK1
      have EK4 : EK r4.2 := by rw [← e4]; exact p_Mod_getRegister (P := EK) (EKw rfl) EK1
      refine s_Mod_setE EK4 (bnd_g hK fun r5 e5 hK => ?_)
      have MK5 : MK r5 := by rw [← e5]; exact p_Mod_setE (P := MK) (MKw rfl) MK4
      have EK5 : EK r5 := by rw [← e5]; exact p_Mod_setE (P := EK) (EKw rfl) EK4
      exact b_Mod_moves_88 hX z_x2 v4_x2 v4_x3 EK5 MK5 hK
  · have hK := ite_n hK h2
    exact hK
def f_Mod_moves_51 (σ : Sg) (x1 : Int32) (x2 : Int32) (x3 : Int32) : Sg := (f_Mod_moves_56 σ x1 x2 x3 (1 : Int32))
abbrev w_Mod_moves_51 : List (Nat × Option Nat) := [(15, some 6), (15, some 16), (16, none), (17, none), (18, none)]
theorem p_Mod_moves_51 {P : Sg → Prop} (hP : WP w_Mod_moves_51 P) {σ : Sg} {x1 : Int32} {x2 : Int32} {x3 : Int32} (h : P σ) : P (f_Mod_moves_51 σ x1 x2 x3) := by
  unfold f_Mod_moves_51
  exact p_Mod_moves_56 (wsub hP rfl) h
set_option maxRecDepth 100000 in
set_option maxHeartbeats 4000000 in
theorem b_Mod_moves_51 {l : Launch} {ad : Nat → Nat} {D : va_G} {cI : ClassId} {K : Option Value → Sg → Prop} {X : Nat → List Value → List Value → Sg → Prop} (hX : Cl l ad D cI mi_Mod_moves pt_Mod K X) {σ : Sg} {x1 : Int32} {x2 : Int32} {x3 : Int32} (z_x2 : x2 = 0 ∨ x2 = 1) (v4_x2 : vp_in x2 4) (v4_x3 : vp_in x3 4) (EK0 : EK σ) (MK0 : MK σ) (hK : KV K (f_Mod_moves_51 σ x1 x2 x3)) : X 51 [.ref 15, .int x1, .int x2, .int x3] [.ref 15] σ := by
  unfold f_Mod_moves_51 at hK
  refine hX.1 55 I_Mod_moves_51 ok_Mod_moves_51 _ _ _ ?_
  exact b_Mod_moves_56 hX z_x2 v4_x2 v4_x3 (Or.inr rfl) (vin (by decide)) EK0 MK0 hK
def f_Mod_moves_55 (σ : Sg) (x1 : Int32) (x2 : Int32) (x3 : Int32) : Sg := (f_Mod_moves_56 σ x1 x2 x3 (0 : Int32))
abbrev w_Mod_moves_55 : List (Nat × Option Nat) := [(15, some 6), (15, some 16), (16, none), (17, none), (18, none)]
theorem p_Mod_moves_55 {P : Sg → Prop} (hP : WP w_Mod_moves_55 P) {σ : Sg} {x1 : Int32} {x2 : Int32} {x3 : Int32} (h : P σ) : P (f_Mod_moves_55 σ x1 x2 x3) := by
  unfold f_Mod_moves_55
  exact p_Mod_moves_56 (wsub hP rfl) h
set_option maxRecDepth 100000 in
set_option maxHeartbeats 4000000 in
theorem b_Mod_moves_55 {l : Launch} {ad : Nat → Nat} {D : va_G} {cI : ClassId} {K : Option Value → Sg → Prop} {X : Nat → List Value → List Value → Sg → Prop} (hX : Cl l ad D cI mi_Mod_moves pt_Mod K X) {σ : Sg} {x1 : Int32} {x2 : Int32} {x3 : Int32} (z_x2 : x2 = 0 ∨ x2 = 1) (v4_x2 : vp_in x2 4) (v4_x3 : vp_in x3 4) (EK0 : EK σ) (MK0 : MK σ) (hK : KV K (f_Mod_moves_55 σ x1 x2 x3)) : X 55 [.ref 15, .int x1, .int x2, .int x3] [.ref 15] σ := by
  unfold f_Mod_moves_55 at hK
  refine hX.1 56 I_Mod_moves_55 ok_Mod_moves_55 _ _ _ ?_
  exact b_Mod_moves_56 hX z_x2 v4_x2 v4_x3 (Or.inl rfl) (vin (by decide)) EK0 MK0 hK
def f_Mod_moves_37 (σ : Sg) (x1 : Int32) (x2 : Int32) (x3 : Int32) : Sg := (if x1 = (141 : Int32) then (if (σ 15 13) < (0 : Int32) then (f_Mod_moves_55 σ x1 x2 x3) else (f_Mod_moves_51 σ x1 x2 x3)) else (f_Mod_moves_55 σ x1 x2 x3))
abbrev w_Mod_moves_37 : List (Nat × Option Nat) := [(15, some 6), (15, some 16), (16, none), (17, none), (18, none)]
theorem p_Mod_moves_37 {P : Sg → Prop} (hP : WP w_Mod_moves_37 P) {σ : Sg} {x1 : Int32} {x2 : Int32} {x3 : Int32} (h : P σ) : P (f_Mod_moves_37 σ x1 x2 x3) := by
  unfold f_Mod_moves_37
  refine ite_z (fun _ => ?_) (fun _ => ?_)
  · refine ite_z (fun _ => ?_) (fun _ => ?_)
    · exact p_Mod_moves_55 (wsub hP rfl) h
    · exact p_Mod_moves_51 (wsub hP rfl) h
  · exact p_Mod_moves_55 (wsub hP rfl) h
set_option maxRecDepth 100000 in
set_option maxHeartbeats 4000000 in
theorem b_Mod_moves_37 {l : Launch} {ad : Nat → Nat} {D : va_G} {cI : ClassId} {K : Option Value → Sg → Prop} {X : Nat → List Value → List Value → Sg → Prop} (hX : Cl l ad D cI mi_Mod_moves pt_Mod K X) {σ : Sg} {x1 : Int32} {x2 : Int32} {x3 : Int32} (z_x2 : x2 = 0 ∨ x2 = 1) (v4_x2 : vp_in x2 4) (v4_x3 : vp_in x3 4) (EK0 : EK σ) (MK0 : MK σ) (hK : KV K (f_Mod_moves_37 σ x1 x2 x3)) : X 37 [.ref 15, .int x1, .int x2, .int x3] [.ref 15] σ := by
  unfold f_Mod_moves_37 at hK
  refine hX.1 51 I_Mod_moves_37 ok_Mod_moves_37 _ _ _ ?_
  refine And.intro (fun h1 => ?_) (fun h1 => ?_)
  · have hK := ite_p hK h1
    refine And.intro (fun h2 => ?_) (fun h2 => ?_)
    · have hK := ite_p hK h2
      exact b_Mod_moves_55 hX z_x2 v4_x2 v4_x3 EK0 MK0 hK
    · have hK := ite_n hK h2
      exact b_Mod_moves_51 hX z_x2 v4_x2 v4_x3 EK0 MK0 hK
  · have hK := ite_n hK h1
    exact b_Mod_moves_55 hX z_x2 v4_x2 v4_x3 EK0 MK0 hK
def f_Mod_moves_12 (σ : Sg) (x1 : Int32) (y0 : Int32) : Sg := (bnd (f_Mod_readModrm σ) fun r1 => (if x1 = (142 : Int32) then (if ((r1 15 12) &&& (3 : Int32)) = (1 : Int32) then (f_Mod_moves_51 r1 x1 y0 ((r1 15 12) &&& (3 : Int32))) else (f_Mod_moves_37 r1 x1 y0 ((r1 15 12) &&& (3 : Int32)))) else (f_Mod_moves_37 r1 x1 y0 ((r1 15 12) &&& (3 : Int32)))))
abbrev w_Mod_moves_12 : List (Nat × Option Nat) := [(15, some 3), (15, some 6), (15, some 12), (15, some 13), (15, some 14), (15, some 15), (15, some 16), (16, none), (17, none), (18, none)]
theorem p_Mod_moves_12 {P : Sg → Prop} (hP : WP w_Mod_moves_12 P) {σ : Sg} {x1 : Int32} {y0 : Int32} (h : P σ) : P (f_Mod_moves_12 σ x1 y0) := by
  unfold f_Mod_moves_12
  refine bnd_zz (Z := P) (p_Mod_readModrm (wsub hP rfl) h) fun r1 e1 q1 => ?_
  refine ite_z (fun _ => ?_) (fun _ => ?_)
  · refine ite_z (fun _ => ?_) (fun _ => ?_)
    · exact p_Mod_moves_51 (wsub hP rfl) q1
    · exact p_Mod_moves_37 (wsub hP rfl) q1
  · exact p_Mod_moves_37 (wsub hP rfl) q1
set_option maxRecDepth 100000 in
set_option maxHeartbeats 4000000 in
theorem b_Mod_moves_12 {l : Launch} {ad : Nat → Nat} {D : va_G} {cI : ClassId} {K : Option Value → Sg → Prop} {X : Nat → List Value → List Value → Sg → Prop} (hX : Cl l ad D cI mi_Mod_moves pt_Mod K X) {σ : Sg} {x1 : Int32} {y0 : Int32} (z_y0 : y0 = 0 ∨ y0 = 1) (v4_y0 : vp_in y0 4) (OV0 : OV σ) (hK : KV K (f_Mod_moves_12 σ x1 y0)) : X 12 [.ref 15, .int x1, .null, .null] [.int y0] σ := by
  unfold f_Mod_moves_12 at hK
  refine hX.1 37 I_Mod_moves_12 ok_Mod_moves_12 _ _ _ ?_
  refine s_Mod_readModrm (bnd_g hK fun r1 e1 hK => ?_)
  have EK1 : EK r1 := by rw [← e1]; exact rm_EK OV0
  have MK1 : MK r1 := by rw [← e1]; exact rm_MK
  refine And.intro (fun h2 => ?_) (fun h2 => ?_)
  · have hK := ite_p hK h2
    refine And.intro (fun h3 => ?_) (fun h3 => ?_)
    · have hK := ite_p hK h3
      exact b_Mod_moves_51 hX z_y0 v4_y0 (pk_andIn _ 2 rfl (by decide)) EK1 MK1 hK
    · have hK := ite_n hK h3
      exact b_Mod_moves_37 hX z_y0 v4_y0 (pk_andIn _ 2 rfl (by decide)) EK1 MK1 hK
  · have hK := ite_n hK h2
    exact b_Mod_moves_37 hX z_y0 v4_y0 (pk_andIn _ 2 rfl (by decide)) EK1 MK1 hK
def f_Mod_moves (σ : Sg) (a1 : Int32) : Sg := (if (a1 &&& (1 : Int32)) = (1 : Int32) then (f_Mod_moves_12 σ a1 (1 : Int32)) else (f_Mod_moves_12 σ a1 (0 : Int32)))
abbrev w_Mod_moves : List (Nat × Option Nat) := [(15, some 3), (15, some 6), (15, some 12), (15, some 13), (15, some 14), (15, some 15), (15, some 16), (16, none), (17, none), (18, none)]
theorem p_Mod_moves {P : Sg → Prop} (hP : WP w_Mod_moves P) {σ : Sg} {a1 : Int32} (h : P σ) : P (f_Mod_moves σ a1) := by
  unfold f_Mod_moves
  refine ite_z (fun _ => ?_) (fun _ => ?_)
  · exact p_Mod_moves_12 (wsub hP rfl) h
  · exact p_Mod_moves_12 (wsub hP rfl) h
set_option maxRecDepth 100000 in
set_option maxHeartbeats 4000000 in
theorem s_Mod_moves {l : Launch} {ad : Nat → Nat} {D : va_G} {cI : ClassId} {σ : Sg} {a1 : Int32} {K : Option Value → Sg → Prop}  (OV0 : OV σ) (hK : KV K (f_Mod_moves σ a1)) : MetJ l ad D cI mi_Mod_moves [.ref 15, .int a1] σ K := by
  refine met_of mi_Mod_moves pt_Mod pt_Mod_in rfl pl_Mod rfl (Nat.le_of_ble_eq_true rfl) fun X hX => ?_
  have hX : Cl l ad D cI mi_Mod_moves pt_Mod K X := hX
  show X 0 [.ref 15, .int a1, .null, .null] [] σ
  unfold f_Mod_moves at hK
  refine hX.1 11 I_Mod_moves_0 ok_Mod_moves_0 _ _ _ ?_
  refine And.intro (fun h1 => ?_) (fun h1 => ?_)
  · have hK := ite_p hK h1
    exact b_Mod_moves_12 hX (Or.inr rfl) (vin (by decide)) OV0 hK
  · have hK := ite_n hK h1
    refine hX.1 12 I_Mod_moves_11 ok_Mod_moves_11 _ _ _ ?_
    exact b_Mod_moves_12 hX (Or.inl rfl) (vin (by decide)) OV0 hK
