def I_Ctl_request_0 : List IT := [(0, .aload_n 0, 1, 0, 0, []), (1, .dup, 1, 0, 0, []), (2, .getfield 13, 3, 0, 0, []), (5, .iconst 1, 1, 1, 0, []), (6, .iload_n 1, 1, 0, 0, []), (7, .ishl, 1, 0, 0, []), (8, .ior, 1, 0, 0, []), (9, .putfield 13, 3, 0, 0, []), (12, .return_, 1, 0, 0, [])]
theorem ok_Ctl_request_0 : blkOK b_Ctl_request pt_Ctl 13 I_Ctl_request_0 = true := by decide +kernel
def f_Ctl_request (σ : Sg) (a1 : Int32) : Sg := (bnd (up2 σ 7 0 ((σ 7 0) ||| ((1 : Int32) <<< (a1 &&& 31 : Int32)))) fun s1 => s1)
abbrev w_Ctl_request : List (Nat × Option Nat) := [(7, some 0)]
theorem p_Ctl_request {P : Sg → Prop} (hP : WP w_Ctl_request P) {σ : Sg} {a1 : Int32} (h : P σ) : P (f_Ctl_request σ a1) := by
  unfold f_Ctl_request
  refine bnd_zz (Z := P) (hP _ _ _ _ (Or.inr (by decide)) h) fun s1 e1 q1 => ?_
  exact q1
set_option maxRecDepth 100000 in
set_option maxHeartbeats 4000000 in
theorem s_Ctl_request {l : Launch} {ad : Nat → Nat} {D : va_G} {cI : ClassId} {σ : Sg} {a1 : Int32} {K : Option Value → Sg → Prop}   (hK : KV K (f_Ctl_request σ a1)) : MetJ l ad D cI mi_Ctl_request [.ref 7, .int a1] σ K := by
  refine met_of mi_Ctl_request pt_Ctl pt_Ctl_in rfl pl_Ctl rfl (Nat.le_of_ble_eq_true rfl) fun X hX => ?_
  have hX : Cl l ad D cI mi_Ctl_request pt_Ctl K X := hX
  show X 0 [.ref 7, .int a1] [] σ
  unfold f_Ctl_request at hK
  refine hX.1 13 I_Ctl_request_0 ok_Ctl_request_0 _ _ _ ?_
  refine And.intro trivial (SG_g hK fun s1 e1 hK => ?_)
  exact hK
def I_Ctl_lineToGive_0 : List IT := [(0, .iconst 0, 1, 0, 0, []), (1, .istore_n 1, 1, 0, 0, [])]
theorem ok_Ctl_lineToGive_0 : blkOK b_Ctl_lineToGive pt_Ctl 2 I_Ctl_lineToGive_0 = true := by decide +kernel
def I_Ctl_lineToGive_2 : List IT := [(2, .iload_n 1, 1, 0, 0, []), (3, .bipush 8, 2, 8, 0, []), (5, .if_icmp .ge 42, 3, 0, 47, []), (8, .iconst 1, 1, 1, 0, []), (9, .iload_n 1, 1, 0, 0, []), (10, .ishl, 1, 0, 0, []), (11, .istore_n 2, 1, 0, 0, []), (12, .aload_n 0, 1, 0, 0, []), (13, .getfield 16, 3, 0, 0, []), (16, .iload_n 2, 1, 0, 0, []), (17, .iand, 1, 0, 0, []), (18, .ifCond .eq 5, 3, 0, 23, []), (21, .iconst (-1), 1, (-1), 0, []), (22, .ireturn, 1, 0, 0, [])]
theorem ok_Ctl_lineToGive_2 : blkOK b_Ctl_lineToGive pt_Ctl 23 I_Ctl_lineToGive_2 = true := by decide +kernel
def I_Ctl_lineToGive_23 : List IT := [(23, .aload_n 0, 1, 0, 0, []), (24, .getfield 13, 3, 0, 0, []), (27, .aload_n 0, 1, 0, 0, []), (28, .getfield 7, 3, 0, 0, []), (31, .iconst (-1), 1, (-1), 0, []), (32, .ixor, 1, 0, 0, []), (33, .iand, 1, 0, 0, []), (34, .iload_n 2, 1, 0, 0, []), (35, .iand, 1, 0, 0, []), (36, .ifCond .eq 5, 3, 0, 41, []), (39, .iload_n 1, 1, 0, 0, []), (40, .ireturn, 1, 0, 0, [])]
theorem ok_Ctl_lineToGive_23 : blkOK b_Ctl_lineToGive pt_Ctl 41 I_Ctl_lineToGive_23 = true := by decide +kernel
def I_Ctl_lineToGive_41 : List IT := [(41, .iinc 1 1, 3, 1, 0, []), (44, .goto (-42), 3, 0, 2, [])]
theorem ok_Ctl_lineToGive_41 : blkOK b_Ctl_lineToGive pt_Ctl 47 I_Ctl_lineToGive_41 = true := by decide +kernel
def I_Ctl_lineToGive_47 : List IT := [(47, .iconst (-1), 1, (-1), 0, []), (48, .ireturn, 1, 0, 0, [])]
theorem ok_Ctl_lineToGive_47 : blkOK b_Ctl_lineToGive pt_Ctl 49 I_Ctl_lineToGive_47 = true := by decide +kernel
def f_Ctl_lineToGive_2_c8 (σ : Sg)  : Int32 × Sg := ((-1 : Int32), σ)
abbrev w_Ctl_lineToGive_2_c8 : List (Nat × Option Nat) := []
theorem p_Ctl_lineToGive_2_c8 {P : Sg → Prop} (hP : WP w_Ctl_lineToGive_2_c8 P) {σ : Sg}  (h : P σ) : PP P (f_Ctl_lineToGive_2_c8 σ ) := by
  unfold f_Ctl_lineToGive_2_c8
  exact h
set_option maxRecDepth 100000 in
set_option maxHeartbeats 4000000 in
theorem b_Ctl_lineToGive_2_c8 {l : Launch} {ad : Nat → Nat} {D : va_G} {cI : ClassId} {K : Option Value → Sg → Prop} {X : Nat → List Value → List Value → Sg → Prop} (hX : Cl l ad D cI mi_Ctl_lineToGive pt_Ctl K X) {σ : Sg}    (hK : KI K (f_Ctl_lineToGive_2_c8 σ )) : X 2 [.ref 7, .int (((((((((0 : Int32) + (1 : Int32)) + (1 : Int32)) + (1 : Int32)) + (1 : Int32)) + (1 : Int32)) + (1 : Int32)) + (1 : Int32)) + (1 : Int32)), .null] [] σ := by
  unfold f_Ctl_lineToGive_2_c8 at hK
  refine hX.1 23 I_Ctl_lineToGive_2 ok_Ctl_lineToGive_2 _ _ _ ?_
  refine And.intro (fun _ => ?_) (fun h => absurd (by decide) h)
  refine hX.1 49 I_Ctl_lineToGive_47 ok_Ctl_lineToGive_47 _ _ _ ?_
  exact hK
def f_Ctl_lineToGive_2_c7 (σ : Sg)  : Int32 × Sg := (if ((σ 7 1) &&& ((1 : Int32) <<< (((((((((0 : Int32) + (1 : Int32)) + (1 : Int32)) + (1 : Int32)) + (1 : Int32)) + (1 : Int32)) + (1 : Int32)) + (1 : Int32)) &&& 31 : Int32))) = (0 : Int32) then (if (((σ 7 0) &&& ((σ 7 2) ^^^ (-1 : Int32))) &&& ((1 : Int32) <<< (((((((((0 : Int32) + (1 : Int32)) + (1 : Int32)) + (1 : Int32)) + (1 : Int32)) + (1 : Int32)) + (1 : Int32)) + (1 : Int32)) &&& 31 : Int32))) = (0 : Int32) then (f_Ctl_lineToGive_2_c8 σ) else (((((((((0 : Int32) + (1 : Int32)) + (1 : Int32)) + (1 : Int32)) + (1 : Int32)) + (1 : Int32)) + (1 : Int32)) + (1 : Int32)), σ)) else ((-1 : Int32), σ))
abbrev w_Ctl_lineToGive_2_c7 : List (Nat × Option Nat) := []
theorem p_Ctl_lineToGive_2_c7 {P : Sg → Prop} (hP : WP w_Ctl_lineToGive_2_c7 P) {σ : Sg}  (h : P σ) : PP P (f_Ctl_lineToGive_2_c7 σ ) := by
  unfold f_Ctl_lineToGive_2_c7
  refine ite_z (fun _ => ?_) (fun _ => ?_)
  · refine ite_z (fun _ => ?_) (fun _ => ?_)
    · exact p_Ctl_lineToGive_2_c8 (wsub hP rfl) h
    · exact h
  · exact h
set_option maxRecDepth 100000 in
set_option maxHeartbeats 4000000 in
theorem b_Ctl_lineToGive_2_c7 {l : Launch} {ad : Nat → Nat} {D : va_G} {cI : ClassId} {K : Option Value → Sg → Prop} {X : Nat → List Value → List Value → Sg → Prop} (hX : Cl l ad D cI mi_Ctl_lineToGive pt_Ctl K X) {σ : Sg}    (hK : KI K (f_Ctl_lineToGive_2_c7 σ )) : X 2 [.ref 7, .int ((((((((0 : Int32) + (1 : Int32)) + (1 : Int32)) + (1 : Int32)) + (1 : Int32)) + (1 : Int32)) + (1 : Int32)) + (1 : Int32)), .null] [] σ := by
  unfold f_Ctl_lineToGive_2_c7 at hK
  refine hX.1 23 I_Ctl_lineToGive_2 ok_Ctl_lineToGive_2 _ _ _ ?_
  refine And.intro (fun h => absurd h (by decide)) (fun _ => ?_)
  refine And.intro (fun h1 => ?_) (fun h1 => ?_)
  · have hK := ite_p hK h1
    refine hX.1 41 I_Ctl_lineToGive_23 ok_Ctl_lineToGive_23 _ _ _ ?_
    refine And.intro (fun h2 => ?_) (fun h2 => ?_)
    · have hK := ite_p hK h2
      refine hX.1 47 I_Ctl_lineToGive_41 ok_Ctl_lineToGive_41 _ _ _ ?_
      refine hX.fg [2] ?_
      exact b_Ctl_lineToGive_2_c8 hX  hK
    · have hK := ite_n hK h2
      exact hK
  · have hK := ite_n hK h1
    exact hK
def f_Ctl_lineToGive_2_c6 (σ : Sg)  : Int32 × Sg := (if ((σ 7 1) &&& ((1 : Int32) <<< ((((((((0 : Int32) + (1 : Int32)) + (1 : Int32)) + (1 : Int32)) + (1 : Int32)) + (1 : Int32)) + (1 : Int32)) &&& 31 : Int32))) = (0 : Int32) then (if (((σ 7 0) &&& ((σ 7 2) ^^^ (-1 : Int32))) &&& ((1 : Int32) <<< ((((((((0 : Int32) + (1 : Int32)) + (1 : Int32)) + (1 : Int32)) + (1 : Int32)) + (1 : Int32)) + (1 : Int32)) &&& 31 : Int32))) = (0 : Int32) then (f_Ctl_lineToGive_2_c7 σ) else ((((((((0 : Int32) + (1 : Int32)) + (1 : Int32)) + (1 : Int32)) + (1 : Int32)) + (1 : Int32)) + (1 : Int32)), σ)) else ((-1 : Int32), σ))
abbrev w_Ctl_lineToGive_2_c6 : List (Nat × Option Nat) := []
theorem p_Ctl_lineToGive_2_c6 {P : Sg → Prop} (hP : WP w_Ctl_lineToGive_2_c6 P) {σ : Sg}  (h : P σ) : PP P (f_Ctl_lineToGive_2_c6 σ ) := by
  unfold f_Ctl_lineToGive_2_c6
  refine ite_z (fun _ => ?_) (fun _ => ?_)
  · refine ite_z (fun _ => ?_) (fun _ => ?_)
    · exact p_Ctl_lineToGive_2_c7 (wsub hP rfl) h
    · exact h
  · exact h
set_option maxRecDepth 100000 in
set_option maxHeartbeats 4000000 in
theorem b_Ctl_lineToGive_2_c6 {l : Launch} {ad : Nat → Nat} {D : va_G} {cI : ClassId} {K : Option Value → Sg → Prop} {X : Nat → List Value → List Value → Sg → Prop} (hX : Cl l ad D cI mi_Ctl_lineToGive pt_Ctl K X) {σ : Sg}    (hK : KI K (f_Ctl_lineToGive_2_c6 σ )) : X 2 [.ref 7, .int (((((((0 : Int32) + (1 : Int32)) + (1 : Int32)) + (1 : Int32)) + (1 : Int32)) + (1 : Int32)) + (1 : Int32)), .null] [] σ := by
  unfold f_Ctl_lineToGive_2_c6 at hK
  refine hX.1 23 I_Ctl_lineToGive_2 ok_Ctl_lineToGive_2 _ _ _ ?_
  refine And.intro (fun h => absurd h (by decide)) (fun _ => ?_)
  refine And.intro (fun h1 => ?_) (fun h1 => ?_)
  · have hK := ite_p hK h1
    refine hX.1 41 I_Ctl_lineToGive_23 ok_Ctl_lineToGive_23 _ _ _ ?_
    refine And.intro (fun h2 => ?_) (fun h2 => ?_)
    · have hK := ite_p hK h2
      refine hX.1 47 I_Ctl_lineToGive_41 ok_Ctl_lineToGive_41 _ _ _ ?_
      refine hX.fg [2] ?_
      exact b_Ctl_lineToGive_2_c7 hX  hK
    · have hK := ite_n hK h2
      exact hK
  · have hK := ite_n hK h1
    exact hK
def f_Ctl_lineToGive_2_c5 (σ : Sg)  : Int32 × Sg := (if ((σ 7 1) &&& ((1 : Int32) <<< (((((((0 : Int32) + (1 : Int32)) + (1 : Int32)) + (1 : Int32)) + (1 : Int32)) + (1 : Int32)) &&& 31 : Int32))) = (0 : Int32) then (if (((σ 7 0) &&& ((σ 7 2) ^^^ (-1 : Int32))) &&& ((1 : Int32) <<< (((((((0 : Int32) + (1 : Int32)) + (1 : Int32)) + (1 : Int32)) + (1 : Int32)) + (1 : Int32)) &&& 31 : Int32))) = (0 : Int32) then (f_Ctl_lineToGive_2_c6 σ) else (((((((0 : Int32) + (1 : Int32)) + (1 : Int32)) + (1 : Int32)) + (1 : Int32)) + (1 : Int32)), σ)) else ((-1 : Int32), σ))
abbrev w_Ctl_lineToGive_2_c5 : List (Nat × Option Nat) := []
theorem p_Ctl_lineToGive_2_c5 {P : Sg → Prop} (hP : WP w_Ctl_lineToGive_2_c5 P) {σ : Sg}  (h : P σ) : PP P (f_Ctl_lineToGive_2_c5 σ ) := by
  unfold f_Ctl_lineToGive_2_c5
  refine ite_z (fun _ => ?_) (fun _ => ?_)
  · refine ite_z (fun _ => ?_) (fun _ => ?_)
    · exact p_Ctl_lineToGive_2_c6 (wsub hP rfl) h
    · exact h
  · exact h
set_option maxRecDepth 100000 in
set_option maxHeartbeats 4000000 in
theorem b_Ctl_lineToGive_2_c5 {l : Launch} {ad : Nat → Nat} {D : va_G} {cI : ClassId} {K : Option Value → Sg → Prop} {X : Nat → List Value → List Value → Sg → Prop} (hX : Cl l ad D cI mi_Ctl_lineToGive pt_Ctl K X) {σ : Sg}    (hK : KI K (f_Ctl_lineToGive_2_c5 σ )) : X 2 [.ref 7, .int ((((((0 : Int32) + (1 : Int32)) + (1 : Int32)) + (1 : Int32)) + (1 : Int32)) + (1 : Int32)), .null] [] σ := by
  unfold f_Ctl_lineToGive_2_c5 at hK
  refine hX.1 23 I_Ctl_lineToGive_2 ok_Ctl_lineToGive_2 _ _ _ ?_
  refine And.intro (fun h => absurd h (by decide)) (fun _ => ?_)
  refine And.intro (fun h1 => ?_) (fun h1 => ?_)
  · have hK := ite_p hK h1
    refine hX.1 41 I_Ctl_lineToGive_23 ok_Ctl_lineToGive_23 _ _ _ ?_
    refine And.intro (fun h2 => ?_) (fun h2 => ?_)
    · have hK := ite_p hK h2
      refine hX.1 47 I_Ctl_lineToGive_41 ok_Ctl_lineToGive_41 _ _ _ ?_
      refine hX.fg [2] ?_
      exact b_Ctl_lineToGive_2_c6 hX  hK
    · have hK := ite_n hK h2
      exact hK
  · have hK := ite_n hK h1
    exact hK
def f_Ctl_lineToGive_2_c4 (σ : Sg)  : Int32 × Sg := (if ((σ 7 1) &&& ((1 : Int32) <<< ((((((0 : Int32) + (1 : Int32)) + (1 : Int32)) + (1 : Int32)) + (1 : Int32)) &&& 31 : Int32))) = (0 : Int32) then (if (((σ 7 0) &&& ((σ 7 2) ^^^ (-1 : Int32))) &&& ((1 : Int32) <<< ((((((0 : Int32) + (1 : Int32)) + (1 : Int32)) + (1 : Int32)) + (1 : Int32)) &&& 31 : Int32))) = (0 : Int32) then (f_Ctl_lineToGive_2_c5 σ) else ((((((0 : Int32) + (1 : Int32)) + (1 : Int32)) + (1 : Int32)) + (1 : Int32)), σ)) else ((-1 : Int32), σ))
abbrev w_Ctl_lineToGive_2_c4 : List (Nat × Option Nat) := []
theorem p_Ctl_lineToGive_2_c4 {P : Sg → Prop} (hP : WP w_Ctl_lineToGive_2_c4 P) {σ : Sg}  (h : P σ) : PP P (f_Ctl_lineToGive_2_c4 σ ) := by
  unfold f_Ctl_lineToGive_2_c4
  refine ite_z (fun _ => ?_) (fun _ => ?_)
  · refine ite_z (fun _ => ?_) (fun _ => ?_)
    · exact p_Ctl_lineToGive_2_c5 (wsub hP rfl) h
    · exact h
  · exact h
set_option maxRecDepth 100000 in
set_option maxHeartbeats 4000000 in
theorem b_Ctl_lineToGive_2_c4 {l : Launch} {ad : Nat → Nat} {D : va_G} {cI : ClassId} {K : Option Value → Sg → Prop} {X : Nat → List Value → List Value → Sg → Prop} (hX : Cl l ad D cI mi_Ctl_lineToGive pt_Ctl K X) {σ : Sg}    (hK : KI K (f_Ctl_lineToGive_2_c4 σ )) : X 2 [.ref 7, .int (((((0 : Int32) + (1 : Int32)) + (1 : Int32)) + (1 : Int32)) + (1 : Int32)), .null] [] σ := by
  unfold f_Ctl_lineToGive_2_c4 at hK
  refine hX.1 23 I_Ctl_lineToGive_2 ok_Ctl_lineToGive_2 _ _ _ ?_
  refine And.intro (fun h => absurd h (by decide)) (fun _ => ?_)
  refine And.intro (fun h1 => ?_) (fun h1 => ?_)
  · have hK := ite_p hK h1
    refine hX.1 41 I_Ctl_lineToGive_23 ok_Ctl_lineToGive_23 _ _ _ ?_
    refine And.intro (fun h2 => ?_) (fun h2 => ?_)
    · have hK := ite_p hK h2
      refine hX.1 47 I_Ctl_lineToGive_41 ok_Ctl_lineToGive_41 _ _ _ ?_
      refine hX.fg [2] ?_
      exact b_Ctl_lineToGive_2_c5 hX  hK
    · have hK := ite_n hK h2
      exact hK
  · have hK := ite_n hK h1
    exact hK
def f_Ctl_lineToGive_2_c3 (σ : Sg)  : Int32 × Sg := (if ((σ 7 1) &&& ((1 : Int32) <<< (((((0 : Int32) + (1 : Int32)) + (1 : Int32)) + (1 : Int32)) &&& 31 : Int32))) = (0 : Int32) then (if (((σ 7 0) &&& ((σ 7 2) ^^^ (-1 : Int32))) &&& ((1 : Int32) <<< (((((0 : Int32) + (1 : Int32)) + (1 : Int32)) + (1 : Int32)) &&& 31 : Int32))) = (0 : Int32) then (f_Ctl_lineToGive_2_c4 σ) else (((((0 : Int32) + (1 : Int32)) + (1 : Int32)) + (1 : Int32)), σ)) else ((-1 : Int32), σ))
abbrev w_Ctl_lineToGive_2_c3 : List (Nat × Option Nat) := []
theorem p_Ctl_lineToGive_2_c3 {P : Sg → Prop} (hP : WP w_Ctl_lineToGive_2_c3 P) {σ : Sg}  (h : P σ) : PP P (f_Ctl_lineToGive_2_c3 σ ) := by
  unfold f_Ctl_lineToGive_2_c3
  refine ite_z (fun _ => ?_) (fun _ => ?_)
  · refine ite_z (fun _ => ?_) (fun _ => ?_)
    · exact p_Ctl_lineToGive_2_c4 (wsub hP rfl) h
    · exact h
  · exact h
set_option maxRecDepth 100000 in
set_option maxHeartbeats 4000000 in
theorem b_Ctl_lineToGive_2_c3 {l : Launch} {ad : Nat → Nat} {D : va_G} {cI : ClassId} {K : Option Value → Sg → Prop} {X : Nat → List Value → List Value → Sg → Prop} (hX : Cl l ad D cI mi_Ctl_lineToGive pt_Ctl K X) {σ : Sg}    (hK : KI K (f_Ctl_lineToGive_2_c3 σ )) : X 2 [.ref 7, .int ((((0 : Int32) + (1 : Int32)) + (1 : Int32)) + (1 : Int32)), .null] [] σ := by
  unfold f_Ctl_lineToGive_2_c3 at hK
  refine hX.1 23 I_Ctl_lineToGive_2 ok_Ctl_lineToGive_2 _ _ _ ?_
  refine And.intro (fun h => absurd h (by decide)) (fun _ => ?_)
  refine And.intro (fun h1 => ?_) (fun h1 => ?_)
  · have hK := ite_p hK h1
    refine hX.1 41 I_Ctl_lineToGive_23 ok_Ctl_lineToGive_23 _ _ _ ?_
    refine And.intro (fun h2 => ?_) (fun h2 => ?_)
    · have hK := ite_p hK h2
      refine hX.1 47 I_Ctl_lineToGive_41 ok_Ctl_lineToGive_41 _ _ _ ?_
      refine hX.fg [2] ?_
      exact b_Ctl_lineToGive_2_c4 hX  hK
    · have hK := ite_n hK h2
      exact hK
  · have hK := ite_n hK h1
    exact hK
def f_Ctl_lineToGive_2_c2 (σ : Sg)  : Int32 × Sg := (if ((σ 7 1) &&& ((1 : Int32) <<< ((((0 : Int32) + (1 : Int32)) + (1 : Int32)) &&& 31 : Int32))) = (0 : Int32) then (if (((σ 7 0) &&& ((σ 7 2) ^^^ (-1 : Int32))) &&& ((1 : Int32) <<< ((((0 : Int32) + (1 : Int32)) + (1 : Int32)) &&& 31 : Int32))) = (0 : Int32) then (f_Ctl_lineToGive_2_c3 σ) else ((((0 : Int32) + (1 : Int32)) + (1 : Int32)), σ)) else ((-1 : Int32), σ))
abbrev w_Ctl_lineToGive_2_c2 : List (Nat × Option Nat) := []
theorem p_Ctl_lineToGive_2_c2 {P : Sg → Prop} (hP : WP w_Ctl_lineToGive_2_c2 P) {σ : Sg}  (h : P σ) : PP P (f_Ctl_lineToGive_2_c2 σ ) := by
  unfold f_Ctl_lineToGive_2_c2
  refine ite_z (fun _ => ?_) (fun _ => ?_)
  · refine ite_z (fun _ => ?_) (fun _ => ?_)
    · exact p_Ctl_lineToGive_2_c3 (wsub hP rfl) h
    · exact h
  · exact h
set_option maxRecDepth 100000 in
set_option maxHeartbeats 4000000 in
theorem b_Ctl_lineToGive_2_c2 {l : Launch} {ad : Nat → Nat} {D : va_G} {cI : ClassId} {K : Option Value → Sg → Prop} {X : Nat → List Value → List Value → Sg → Prop} (hX : Cl l ad D cI mi_Ctl_lineToGive pt_Ctl K X) {σ : Sg}    (hK : KI K (f_Ctl_lineToGive_2_c2 σ )) : X 2 [.ref 7, .int (((0 : Int32) + (1 : Int32)) + (1 : Int32)), .null] [] σ := by
  unfold f_Ctl_lineToGive_2_c2 at hK
  refine hX.1 23 I_Ctl_lineToGive_2 ok_Ctl_lineToGive_2 _ _ _ ?_
  refine And.intro (fun h => absurd h (by decide)) (fun _ => ?_)
  refine And.intro (fun h1 => ?_) (fun h1 => ?_)
  · have hK := ite_p hK h1
    refine hX.1 41 I_Ctl_lineToGive_23 ok_Ctl_lineToGive_23 _ _ _ ?_
    refine And.intro (fun h2 => ?_) (fun h2 => ?_)
    · have hK := ite_p hK h2
      refine hX.1 47 I_Ctl_lineToGive_41 ok_Ctl_lineToGive_41 _ _ _ ?_
      refine hX.fg [2] ?_
      exact b_Ctl_lineToGive_2_c3 hX  hK
    · have hK := ite_n hK h2
      exact hK
  · have hK := ite_n hK h1
    exact hK
def f_Ctl_lineToGive_2_c1 (σ : Sg)  : Int32 × Sg := (if ((σ 7 1) &&& ((1 : Int32) <<< (((0 : Int32) + (1 : Int32)) &&& 31 : Int32))) = (0 : Int32) then (if (((σ 7 0) &&& ((σ 7 2) ^^^ (-1 : Int32))) &&& ((1 : Int32) <<< (((0 : Int32) + (1 : Int32)) &&& 31 : Int32))) = (0 : Int32) then (f_Ctl_lineToGive_2_c2 σ) else (((0 : Int32) + (1 : Int32)), σ)) else ((-1 : Int32), σ))
abbrev w_Ctl_lineToGive_2_c1 : List (Nat × Option Nat) := []
theorem p_Ctl_lineToGive_2_c1 {P : Sg → Prop} (hP : WP w_Ctl_lineToGive_2_c1 P) {σ : Sg}  (h : P σ) : PP P (f_Ctl_lineToGive_2_c1 σ ) := by
  unfold f_Ctl_lineToGive_2_c1
  refine ite_z (fun _ => ?_) (fun _ => ?_)
  · refine ite_z (fun _ => ?_) (fun _ => ?_)
    · exact p_Ctl_lineToGive_2_c2 (wsub hP rfl) h
    · exact h
  · exact h
set_option maxRecDepth 100000 in
set_option maxHeartbeats 4000000 in
theorem b_Ctl_lineToGive_2_c1 {l : Launch} {ad : Nat → Nat} {D : va_G} {cI : ClassId} {K : Option Value → Sg → Prop} {X : Nat → List Value → List Value → Sg → Prop} (hX : Cl l ad D cI mi_Ctl_lineToGive pt_Ctl K X) {σ : Sg}    (hK : KI K (f_Ctl_lineToGive_2_c1 σ )) : X 2 [.ref 7, .int ((0 : Int32) + (1 : Int32)), .null] [] σ := by
  unfold f_Ctl_lineToGive_2_c1 at hK
  refine hX.1 23 I_Ctl_lineToGive_2 ok_Ctl_lineToGive_2 _ _ _ ?_
  refine And.intro (fun h => absurd h (by decide)) (fun _ => ?_)
  refine And.intro (fun h1 => ?_) (fun h1 => ?_)
  · have hK := ite_p hK h1
    refine hX.1 41 I_Ctl_lineToGive_23 ok_Ctl_lineToGive_23 _ _ _ ?_
    refine And.intro (fun h2 => ?_) (fun h2 => ?_)
    · have hK := ite_p hK h2
      refine hX.1 47 I_Ctl_lineToGive_41 ok_Ctl_lineToGive_41 _ _ _ ?_
      refine hX.fg [2] ?_
      exact b_Ctl_lineToGive_2_c2 hX  hK
    · have hK := ite_n hK h2
      exact hK
  · have hK := ite_n hK h1
    exact hK
def f_Ctl_lineToGive_2_c0 (σ : Sg)  : Int32 × Sg := (if ((σ 7 1) &&& ((1 : Int32) <<< ((0 : Int32) &&& 31 : Int32))) = (0 : Int32) then (if (((σ 7 0) &&& ((σ 7 2) ^^^ (-1 : Int32))) &&& ((1 : Int32) <<< ((0 : Int32) &&& 31 : Int32))) = (0 : Int32) then (f_Ctl_lineToGive_2_c1 σ) else ((0 : Int32), σ)) else ((-1 : Int32), σ))
abbrev w_Ctl_lineToGive_2_c0 : List (Nat × Option Nat) := []
theorem p_Ctl_lineToGive_2_c0 {P : Sg → Prop} (hP : WP w_Ctl_lineToGive_2_c0 P) {σ : Sg}  (h : P σ) : PP P (f_Ctl_lineToGive_2_c0 σ ) := by
  unfold f_Ctl_lineToGive_2_c0
  refine ite_z (fun _ => ?_) (fun _ => ?_)
  · refine ite_z (fun _ => ?_) (fun _ => ?_)
    · exact p_Ctl_lineToGive_2_c1 (wsub hP rfl) h
    · exact h
  · exact h
set_option maxRecDepth 100000 in
set_option maxHeartbeats 4000000 in
theorem b_Ctl_lineToGive_2_c0 {l : Launch} {ad : Nat → Nat} {D : va_G} {cI : ClassId} {K : Option Value → Sg → Prop} {X : Nat → List Value → List Value → Sg → Prop} (hX : Cl l ad D cI mi_Ctl_lineToGive pt_Ctl K X) {σ : Sg}    (hK : KI K (f_Ctl_lineToGive_2_c0 σ )) : X 2 [.ref 7, .int (0 : Int32), .null] [] σ := by
  unfold f_Ctl_lineToGive_2_c0 at hK
  refine hX.1 23 I_Ctl_lineToGive_2 ok_Ctl_lineToGive_2 _ _ _ ?_
  refine And.intro (fun h => absurd h (by decide)) (fun _ => ?_)
  refine And.intro (fun h1 => ?_) (fun h1 => ?_)
  · have hK := ite_p hK h1
    refine hX.1 41 I_Ctl_lineToGive_23 ok_Ctl_lineToGive_23 _ _ _ ?_
    refine And.intro (fun h2 => ?_) (fun h2 => ?_)
    · have hK := ite_p hK h2
      refine hX.1 47 I_Ctl_lineToGive_41 ok_Ctl_lineToGive_41 _ _ _ ?_
      refine hX.fg [2] ?_
      exact b_Ctl_lineToGive_2_c1 hX  hK
    · have hK := ite_n hK h2
      exact hK
  · have hK := ite_n hK h1
    exact hK
def f_Ctl_lineToGive (σ : Sg)  : Int32 × Sg := (f_Ctl_lineToGive_2_c0 σ)
abbrev w_Ctl_lineToGive : List (Nat × Option Nat) := []
theorem p_Ctl_lineToGive {P : Sg → Prop} (hP : WP w_Ctl_lineToGive P) {σ : Sg}  (h : P σ) : PP P (f_Ctl_lineToGive σ ) := by
  unfold f_Ctl_lineToGive
  exact p_Ctl_lineToGive_2_c0 (wsub hP rfl) h
set_option maxRecDepth 100000 in
set_option maxHeartbeats 4000000 in
theorem s_Ctl_lineToGive {l : Launch} {ad : Nat → Nat} {D : va_G} {cI : ClassId} {σ : Sg}  {K : Option Value → Sg → Prop}   (hK : KI K (f_Ctl_lineToGive σ )) : MetJ l ad D cI mi_Ctl_lineToGive [.ref 7] σ K := by
  refine met_of mi_Ctl_lineToGive pt_Ctl pt_Ctl_in rfl pl_Ctl rfl (Nat.le_of_ble_eq_true rfl) fun X hX => ?_
  have hX : Cl l ad D cI mi_Ctl_lineToGive pt_Ctl K X := hX
  show X 0 [.ref 7, .null, .null] [] σ
  unfold f_Ctl_lineToGive at hK
  refine hX.1 2 I_Ctl_lineToGive_0 ok_Ctl_lineToGive_0 _ _ _ ?_
  exact b_Ctl_lineToGive_2_c0 hX  hK
def I_Ctl_give_0 : List IT := [(0, .aload_n 0, 1, 0, 0, []), (1, .dup, 1, 0, 0, []), (2, .getfield 13, 3, 0, 0, []), (5, .iconst 1, 1, 1, 0, []), (6, .iload_n 1, 1, 0, 0, []), (7, .ishl, 1, 0, 0, []), (8, .iconst (-1), 1, (-1), 0, []), (9, .ixor, 1, 0, 0, []), (10, .iand, 1, 0, 0, []), (11, .putfield 13, 3, 0, 0, []), (14, .aload_n 0, 1, 0, 0, []), (15, .dup, 1, 0, 0, []), (16, .getfield 16, 3, 0, 0, []), (19, .iconst 1, 1, 1, 0, []), (20, .iload_n 1, 1, 0, 0, []), (21, .ishl, 1, 0, 0, []), (22, .ior, 1, 0, 0, []), (23, .putfield 16, 3, 0, 0, []), (26, .return_, 1, 0, 0, [])]
theorem ok_Ctl_give_0 : blkOK b_Ctl_give pt_Ctl 27 I_Ctl_give_0 = true := by decide +kernel
def f_Ctl_give (σ : Sg) (a1 : Int32) : Sg := (bnd (up2 σ 7 0 ((σ 7 0) &&& (((1 : Int32) <<< (a1 &&& 31 : Int32)) ^^^ (-1 : Int32)))) fun s1 => bnd (up2 s1 7 1 ((s1 7 1) ||| ((1 : Int32) <<< (a1 &&& 31 : Int32)))) fun s2 => s2)
abbrev w_Ctl_give : List (Nat × Option Nat) := [(7, some 0), (7, some 1)]
theorem p_Ctl_give {P : Sg → Prop} (hP : WP w_Ctl_give P) {σ : Sg} {a1 : Int32} (h : P σ) : P (f_Ctl_give σ a1) := by
  unfold f_Ctl_give
  refine bnd_zz (Z := P) (hP _ _ _ _ (Or.inr (by decide)) h) fun s1 e1 q1 => ?_
  refine bnd_zz (Z := P) (hP _ _ _ _ (Or.inr (by decide)) q1) fun s2 e2 q2 => ?_
  exact q2
set_option maxRecDepth 100000 in
set_option maxHeartbeats 4000000 in
theorem s_Ctl_give {l : Launch} {ad : Nat → Nat} {D : va_G} {cI : ClassId} {σ : Sg} {a1 : Int32} {K : Option Value → Sg → Prop}   (hK : KV K (f_Ctl_give σ a1)) : MetJ l ad D cI mi_Ctl_give [.ref 7, .int a1] σ K := by
  refine met_of mi_Ctl_give pt_Ctl pt_Ctl_in rfl pl_Ctl rfl (Nat.le_of_ble_eq_true rfl) fun X hX => ?_
  have hX : Cl l ad D cI mi_Ctl_give pt_Ctl K X := hX
  show X 0 [.ref 7, .int a1] [] σ
  unfold f_Ctl_give at hK
  refine hX.1 27 I_Ctl_give_0 ok_Ctl_give_0 _ _ _ ?_
  refine And.intro trivial (SG_g hK fun s1 e1 hK => ?_)
  refine And.intro trivial (SG_g hK fun s2 e2 hK => ?_)
  exact hK
def I_Ctl_command_0 : List IT := [(0, .iload_n 1, 1, 0, 0, []), (1, .bipush 32, 2, 32, 0, []), (3, .if_icmp .ne 21, 3, 0, 24, []), (6, .aload_n 0, 1, 0, 0, []), (7, .dup, 1, 0, 0, []), (8, .getfield 16, 3, 0, 0, []), (11, .aload_n 0, 1, 0, 0, []), (12, .getfield 16, 3, 0, 0, []), (15, .iconst 1, 1, 1, 0, []), (16, .isub, 1, 0, 0, []), (17, .iand, 1, 0, 0, []), (18, .putfield 16, 3, 0, 0, []), (21, .goto 28, 3, 0, 49, [])]
theorem ok_Ctl_command_0 : blkOK b_Ctl_command pt_Ctl 24 I_Ctl_command_0 = true := by decide +kernel
def I_Ctl_command_24 : List IT := [(24, .iload_n 1, 1, 0, 0, []), (25, .bipush 10, 2, 10, 0, []), (27, .if_icmp .ne 11, 3, 0, 38, []), (30, .aload_n 0, 1, 0, 0, []), (31, .iconst 0, 1, 0, 0, []), (32, .putfield 19, 3, 0, 0, []), (35, .goto 14, 3, 0, 49, [])]
theorem ok_Ctl_command_24 : blkOK b_Ctl_command pt_Ctl 38 I_Ctl_command_24 = true := by decide +kernel
def I_Ctl_command_38 : List IT := [(38, .iload_n 1, 1, 0, 0, []), (39, .bipush 11, 2, 11, 0, []), (41, .if_icmp .ne 8, 3, 0, 49, []), (44, .aload_n 0, 1, 0, 0, []), (45, .iconst 1, 1, 1, 0, []), (46, .putfield 19, 3, 0, 0, [])]
theorem ok_Ctl_command_38 : blkOK b_Ctl_command pt_Ctl 49 I_Ctl_command_38 = true := by decide +kernel
def I_Ctl_command_49 : List IT := [(49, .return_, 1, 0, 0, [])]
theorem ok_Ctl_command_49 : blkOK b_Ctl_command pt_Ctl 50 I_Ctl_command_49 = true := by decide +kernel
def f_Ctl_command (σ : Sg) (a1 : Int32) : Sg := (if a1 = (32 : Int32) then (bnd (up2 σ 7 1 ((σ 7 1) &&& ((σ 7 1) - (1 : Int32)))) fun s2 => s2) else (if a1 = (10 : Int32) then (bnd (up2 σ 7 3 (0 : Int32)) fun s4 => s4) else (if a1 = (11 : Int32) then (bnd (up2 σ 7 3 (1 : Int32)) fun s6 => s6) else σ)))
abbrev w_Ctl_command : List (Nat × Option Nat) := [(7, some 1), (7, some 3)]
theorem p_Ctl_command {P : Sg → Prop} (hP : WP w_Ctl_command P) {σ : Sg} {a1 : Int32} (h : P σ) : P (f_Ctl_command σ a1) := by
  unfold f_Ctl_command
  refine ite_z (fun _ => ?_) (fun _ => ?_)
  · refine bnd_zz (Z := P) (hP _ _ _ _ (Or.inr (by decide)) h) fun s2 e2 q2 => ?_
    exact q2
  · refine ite_z (fun _ => ?_) (fun _ => ?_)
    · refine bnd_zz (Z := P) (hP _ _ _ _ (Or.inr (by decide)) h) fun s4 e4 q4 => ?_
      exact q4
    · refine ite_z (fun _ => ?_) (fun _ => ?_)
      · refine bnd_zz (Z := P) (hP _ _ _ _ (Or.inr (by decide)) h) fun s6 e6 q6 => ?_
        exact q6
      · exact h
set_option maxRecDepth 100000 in
set_option maxHeartbeats 4000000 in
theorem s_Ctl_command {l : Launch} {ad : Nat → Nat} {D : va_G} {cI : ClassId} {σ : Sg} {a1 : Int32} {K : Option Value → Sg → Prop}   (hK : KV K (f_Ctl_command σ a1)) : MetJ l ad D cI mi_Ctl_command [.ref 7, .int a1] σ K := by
  refine met_of mi_Ctl_command pt_Ctl pt_Ctl_in rfl pl_Ctl rfl (Nat.le_of_ble_eq_true rfl) fun X hX => ?_
  have hX : Cl l ad D cI mi_Ctl_command pt_Ctl K X := hX
  show X 0 [.ref 7, .int a1] [] σ
  unfold f_Ctl_command at hK
  refine hX.1 24 I_Ctl_command_0 ok_Ctl_command_0 _ _ _ ?_
  refine And.intro (fun h1 => ?_) (fun h1 => ?_)
  · have hK := ite_p hK h1
    refine And.intro trivial (SG_g hK fun s2 e2 hK => ?_)
    refine hX.1 50 I_Ctl_command_49 ok_Ctl_command_49 _ _ _ ?_
    exact hK
  · have hK := ite_n hK h1
    refine hX.1 38 I_Ctl_command_24 ok_Ctl_command_24 _ _ _ ?_
    refine And.intro (fun h3 => ?_) (fun h3 => ?_)
    · have hK := ite_p hK h3
      refine And.intro (Or.inl rfl) (SG_g hK fun s4 e4 hK => ?_)
      refine hX.1 50 I_Ctl_command_49 ok_Ctl_command_49 _ _ _ ?_
      exact hK
    · have hK := ite_n hK h3
      refine hX.1 49 I_Ctl_command_38 ok_Ctl_command_38 _ _ _ ?_
      refine And.intro (fun h5 => ?_) (fun h5 => ?_)
      · have hK := ite_p hK h5
        refine And.intro (Or.inr rfl) (SG_g hK fun s6 e6 hK => ?_)
        refine hX.1 50 I_Ctl_command_49 ok_Ctl_command_49 _ _ _ ?_
        exact hK
      · have hK := ite_n hK h5
        refine hX.1 50 I_Ctl_command_49 ok_Ctl_command_49 _ _ _ ?_
        exact hK
def I_Ctl_shown_0 : List IT := [(0, .aload_n 0, 1, 0, 0, []), (1, .getfield 19, 3, 0, 0, []), (4, .ifCond .eq 10, 3, 0, 14, []), (7, .aload_n 0, 1, 0, 0, []), (8, .getfield 16, 3, 0, 0, []), (11, .goto 7, 3, 0, 18, [])]
theorem ok_Ctl_shown_0 : blkOK b_Ctl_shown pt_Ctl 14 I_Ctl_shown_0 = true := by decide +kernel
def I_Ctl_shown_14 : List IT := [(14, .aload_n 0, 1, 0, 0, []), (15, .getfield 13, 3, 0, 0, [])]
theorem ok_Ctl_shown_14 : blkOK b_Ctl_shown pt_Ctl 18 I_Ctl_shown_14 = true := by decide +kernel
def I_Ctl_shown_18 : List IT := [(18, .ireturn, 1, 0, 0, [])]
theorem ok_Ctl_shown_18 : blkOK b_Ctl_shown pt_Ctl 19 I_Ctl_shown_18 = true := by decide +kernel
def f_Ctl_shown (σ : Sg)  : Int32 × Sg := (if (σ 7 3) = (0 : Int32) then ((σ 7 0), σ) else ((σ 7 1), σ))
abbrev w_Ctl_shown : List (Nat × Option Nat) := []
theorem p_Ctl_shown {P : Sg → Prop} (hP : WP w_Ctl_shown P) {σ : Sg}  (h : P σ) : PP P (f_Ctl_shown σ ) := by
  unfold f_Ctl_shown
  refine ite_z (fun _ => ?_) (fun _ => ?_)
  · exact h
  · exact h
set_option maxRecDepth 100000 in
set_option maxHeartbeats 4000000 in
theorem s_Ctl_shown {l : Launch} {ad : Nat → Nat} {D : va_G} {cI : ClassId} {σ : Sg}  {K : Option Value → Sg → Prop}   (hK : KI K (f_Ctl_shown σ )) : MetJ l ad D cI mi_Ctl_shown [.ref 7] σ K := by
  refine met_of mi_Ctl_shown pt_Ctl pt_Ctl_in rfl pl_Ctl rfl (Nat.le_of_ble_eq_true rfl) fun X hX => ?_
  have hX : Cl l ad D cI mi_Ctl_shown pt_Ctl K X := hX
  show X 0 [.ref 7] [] σ
  unfold f_Ctl_shown at hK
  refine hX.1 14 I_Ctl_shown_0 ok_Ctl_shown_0 _ _ _ ?_
  refine And.intro (fun h1 => ?_) (fun h1 => ?_)
  · have hK := ite_p hK h1
    refine hX.1 18 I_Ctl_shown_14 ok_Ctl_shown_14 _ _ _ ?_
    refine hX.1 19 I_Ctl_shown_18 ok_Ctl_shown_18 _ _ _ ?_
    exact hK
  · have hK := ite_n hK h1
    refine hX.1 19 I_Ctl_shown_18 ok_Ctl_shown_18 _ _ _ ?_
    exact hK
def I_Tim_tick_0 : List IT := [(0, .aload_n 0, 1, 0, 0, []), (1, .getfield 13, 3, 0, 0, []), (4, .ifCond .ne 4, 3, 0, 8, []), (7, .return_, 1, 0, 0, [])]
theorem ok_Tim_tick_0 : blkOK b_Tim_tick pt_Tim 8 I_Tim_tick_0 = true := by decide +kernel
def I_Tim_tick_8 : List IT := [(8, .aload_n 0, 1, 0, 0, []), (9, .dup, 1, 0, 0, []), (10, .getfield 13, 3, 0, 0, []), (13, .iconst 1, 1, 1, 0, []), (14, .isub, 1, 0, 0, []), (15, .putfield 13, 3, 0, 0, []), (18, .aload_n 0, 1, 0, 0, []), (19, .getfield 13, 3, 0, 0, []), (22, .ifCond .ne 19, 3, 0, 41, []), (25, .aload_n 0, 1, 0, 0, []), (26, .aload_n 0, 1, 0, 0, []), (27, .getfield 17, 3, 0, 0, []), (30, .putfield 13, 3, 0, 0, []), (33, .aload_n 0, 1, 0, 0, []), (34, .getfield 7, 3, 0, 0, []), (37, .iconst 0, 1, 0, 0, []), (38, .invokevirtual 20, 3, 0, 0, [])]
theorem ok_Tim_tick_8 : blkOK b_Tim_tick pt_Tim 41 I_Tim_tick_8 = true := by decide +kernel
def I_Tim_tick_41 : List IT := [(41, .return_, 1, 0, 0, [])]
theorem ok_Tim_tick_41 : blkOK b_Tim_tick pt_Tim 42 I_Tim_tick_41 = true := by decide +kernel
def f_Tim_tick (σ : Sg)  : Sg := (if (σ 8 1) = (0 : Int32) then σ else (bnd (up2 σ 8 1 ((σ 8 1) - (1 : Int32))) fun s2 => (if (s2 8 1) = (0 : Int32) then (bnd (up2 s2 8 1 (s2 8 2)) fun s4 => bnd (f_Ctl_request s4 (0 : Int32)) fun r5 => r5) else s2)))
abbrev w_Tim_tick : List (Nat × Option Nat) := [(7, some 0), (8, some 1)]
theorem p_Tim_tick {P : Sg → Prop} (hP : WP w_Tim_tick P) {σ : Sg}  (h : P σ) : P (f_Tim_tick σ ) := by
  unfold f_Tim_tick
  refine ite_z (fun _ => ?_) (fun _ => ?_)
  · exact h
  · refine bnd_zz (Z := P) (hP _ _ _ _ (Or.inr (by decide)) h) fun s2 e2 q2 => ?_
    refine ite_z (fun _ => ?_) (fun _ => ?_)
    · refine bnd_zz (Z := P) (hP _ _ _ _ (Or.inr (by decide)) q2) fun s4 e4 q4 => ?_
      refine bnd_zz (Z := P) (p_Ctl_request (wsub hP rfl) q4) fun r5 e5 q5 => ?_
      exact q5
    · exact q2
set_option maxRecDepth 100000 in
set_option maxHeartbeats 4000000 in
theorem s_Tim_tick {l : Launch} {ad : Nat → Nat} {D : va_G} {cI : ClassId} {σ : Sg}  {K : Option Value → Sg → Prop}   (hK : KV K (f_Tim_tick σ )) : MetJ l ad D cI mi_Tim_tick [.ref 8] σ K := by
  refine met_of mi_Tim_tick pt_Tim pt_Tim_in rfl pl_Tim rfl (Nat.le_of_ble_eq_true rfl) fun X hX => ?_
  have hX : Cl l ad D cI mi_Tim_tick pt_Tim K X := hX
  show X 0 [.ref 8] [] σ
  unfold f_Tim_tick at hK
  refine hX.1 8 I_Tim_tick_0 ok_Tim_tick_0 _ _ _ ?_
  refine And.intro (fun h1 => ?_) (fun h1 => ?_)
  · have hK := ite_p hK h1
    exact hK
  · have hK := ite_n hK h1
    refine hX.1 41 I_Tim_tick_8 ok_Tim_tick_8 _ _ _ ?_
    refine And.intro trivial (SG_g hK fun s2 e2 hK => ?_)
    refine And.intro (fun h3 => ?_) (fun h3 => ?_)
    · have hK := ite_p hK h3
      refine And.intro trivial (SG_g hK fun s4 e4 hK => ?_)
      refine s_Ctl_request (bnd_g hK fun r5 e5 hK => ?_)
      refine hX.1 42 I_Tim_tick_41 ok_Tim_tick_41 _ _ _ ?_
      exact hK
    · have hK := ite_n hK h3
      refine hX.1 42 I_Tim_tick_41 ok_Tim_tick_41 _ _ _ ?_
      exact hK
def I_Tim_get_0 : List IT := [(0, .aload_n 0, 1, 0, 0, []), (1, .getfield 26, 3, 0, 0, []), (4, .ifCond .eq 38, 3, 0, 42, []), (7, .iload_n 1, 1, 0, 0, []), (8, .bipush 8, 2, 8, 0, []), (10, .ishl, 1, 0, 0, []), (11, .aload_n 0, 1, 0, 0, []), (12, .getfield 30, 3, 0, 0, []), (15, .ior, 1, 0, 0, []), (16, .istore_n 2, 1, 0, 0, []), (17, .aload_n 0, 1, 0, 0, []), (18, .iload_n 2, 1, 0, 0, []), (19, .ifCond .ne 8, 3, 0, 27, []), (22, .ldc 33, 2, 65536, 0, []), (24, .goto 4, 3, 0, 28, [])]
theorem ok_Tim_get_0 : blkOK b_Tim_get pt_Tim 27 I_Tim_get_0 = true := by decide +kernel
def I_Tim_get_27 : List IT := [(27, .iload_n 2, 1, 0, 0, [])]
theorem ok_Tim_get_27 : blkOK b_Tim_get pt_Tim 28 I_Tim_get_27 = true := by decide +kernel
def I_Tim_get_28 : List IT := [(28, .putfield 17, 3, 0, 0, []), (31, .aload_n 0, 1, 0, 0, []), (32, .aload_n 0, 1, 0, 0, []), (33, .getfield 17, 3, 0, 0, []), (36, .putfield 13, 3, 0, 0, []), (39, .goto 8, 3, 0, 47, [])]
theorem ok_Tim_get_28 : blkOK b_Tim_get pt_Tim 42 I_Tim_get_28 = true := by decide +kernel
def I_Tim_get_42 : List IT := [(42, .aload_n 0, 1, 0, 0, []), (43, .iload_n 1, 1, 0, 0, []), (44, .putfield 30, 3, 0, 0, [])]
theorem ok_Tim_get_42 : blkOK b_Tim_get pt_Tim 47 I_Tim_get_42 = true := by decide +kernel
def I_Tim_get_47 : List IT := [(47, .aload_n 0, 1, 0, 0, []), (48, .aload_n 0, 1, 0, 0, []), (49, .getfield 26, 3, 0, 0, []), (52, .ifCond .ne 7, 3, 0, 59, []), (55, .iconst 1, 1, 1, 0, []), (56, .goto 4, 3, 0, 60, [])]
theorem ok_Tim_get_47 : blkOK b_Tim_get pt_Tim 59 I_Tim_get_47 = true := by decide +kernel
def I_Tim_get_59 : List IT := [(59, .iconst 0, 1, 0, 0, [])]
theorem ok_Tim_get_59 : blkOK b_Tim_get pt_Tim 60 I_Tim_get_59 = true := by decide +kernel
def I_Tim_get_60 : List IT := [(60, .putfield 26, 3, 0, 0, []), (63, .return_, 1, 0, 0, [])]
theorem ok_Tim_get_60 : blkOK b_Tim_get pt_Tim 64 I_Tim_get_60 = true := by decide +kernel
def f_Tim_get_47 (σ : Sg)  : Sg := (if (σ 8 4) = (0 : Int32) then (bnd (up2 σ 8 4 (1 : Int32)) fun s2 => s2) else (bnd (up2 σ 8 4 (0 : Int32)) fun s3 => s3))
abbrev w_Tim_get_47 : List (Nat × Option Nat) := [(8, some 4)]
theorem p_Tim_get_47 {P : Sg → Prop} (hP : WP w_Tim_get_47 P) {σ : Sg}  (h : P σ) : P (f_Tim_get_47 σ ) := by
  unfold f_Tim_get_47
  refine ite_z (fun _ => ?_) (fun _ => ?_)
  · refine bnd_zz (Z := P) (hP _ _ _ _ (Or.inr (by decide)) h) fun s2 e2 q2 => ?_
    exact q2
  · refine bnd_zz (Z := P) (hP _ _ _ _ (Or.inr (by decide)) h) fun s3 e3 q3 => ?_
    exact q3
set_option maxRecDepth 100000 in
set_option maxHeartbeats 4000000 in
theorem b_Tim_get_47 {l : Launch} {ad : Nat → Nat} {D : va_G} {cI : ClassId} {K : Option Value → Sg → Prop} {X : Nat → List Value → List Value → Sg → Prop} (hX : Cl l ad D cI mi_Tim_get pt_Tim K X) {σ : Sg}    (hK : KV K (f_Tim_get_47 σ )) : X 47 [.ref 8, .null, .null] [] σ := by
  unfold f_Tim_get_47 at hK
  refine hX.1 59 I_Tim_get_47 ok_Tim_get_47 _ _ _ ?_
  refine And.intro (fun h1 => ?_) (fun h1 => ?_)
  · have hK := ite_p hK h1
    refine hX.1 64 I_Tim_get_60 ok_Tim_get_60 _ _ _ ?_
    refine And.intro (Or.inr rfl) (SG_g hK fun s2 e2 hK => ?_)
    exact hK
  · have hK := ite_n hK h1
    refine hX.1 60 I_Tim_get_59 ok_Tim_get_59 _ _ _ ?_
    refine hX.1 64 I_Tim_get_60 ok_Tim_get_60 _ _ _ ?_
    refine And.intro (Or.inl rfl) (SG_g hK fun s3 e3 hK => ?_)
    exact hK
def f_Tim_get_28 (σ : Sg) (y0 : Int32) : Sg := (bnd (up2 σ 8 2 y0) fun s1 => bnd (up2 s1 8 1 (s1 8 2)) fun s2 => (f_Tim_get_47 s2))
abbrev w_Tim_get_28 : List (Nat × Option Nat) := [(8, some 1), (8, some 2), (8, some 4)]
theorem p_Tim_get_28 {P : Sg → Prop} (hP : WP w_Tim_get_28 P) {σ : Sg} {y0 : Int32} (h : P σ) : P (f_Tim_get_28 σ y0) := by
  unfold f_Tim_get_28
  refine bnd_zz (Z := P) (hP _ _ _ _ (Or.inr (by decide)) h) fun s1 e1 q1 => ?_
  refine bnd_zz (Z := P) (hP _ _ _ _ (Or.inr (by decide)) q1) fun s2 e2 q2 => ?_
  exact p_Tim_get_47 (wsub hP rfl) q2
set_option maxRecDepth 100000 in
set_option maxHeartbeats 4000000 in
theorem b_Tim_get_28 {l : Launch} {ad : Nat → Nat} {D : va_G} {cI : ClassId} {K : Option Value → Sg → Prop} {X : Nat → List Value → List Value → Sg → Prop} (hX : Cl l ad D cI mi_Tim_get pt_Tim K X) {σ : Sg} {y0 : Int32}   (hK : KV K (f_Tim_get_28 σ y0)) : X 28 [.ref 8, .null, .null] [.int y0, .ref 8] σ := by
  unfold f_Tim_get_28 at hK
  refine hX.1 42 I_Tim_get_28 ok_Tim_get_28 _ _ _ ?_
  refine And.intro trivial (SG_g hK fun s1 e1 hK => ?_)
  refine And.intro trivial (SG_g hK fun s2 e2 hK => ?_)
  exact b_Tim_get_47 hX  hK
def f_Tim_get (σ : Sg) (a1 : Int32) : Sg := (if (σ 8 4) = (0 : Int32) then (bnd (up2 σ 8 3 a1) fun s2 => (f_Tim_get_47 s2)) else (if ((a1 <<< ((8 : Int32) &&& 31 : Int32)) ||| (σ 8 3)) = (0 : Int32) then (f_Tim_get_28 σ (65536 : Int32)) else (f_Tim_get_28 σ ((a1 <<< ((8 : Int32) &&& 31 : Int32)) ||| (σ 8 3)))))
abbrev w_Tim_get : List (Nat × Option Nat) := [(8, some 1), (8, some 2), (8, some 3), (8, some 4)]
theorem p_Tim_get {P : Sg → Prop} (hP : WP w_Tim_get P) {σ : Sg} {a1 : Int32} (h : P σ) : P (f_Tim_get σ a1) := by
  unfold f_Tim_get
  refine ite_z (fun _ => ?_) (fun _ => ?_)
  · refine bnd_zz (Z := P) (hP _ _ _ _ (Or.inr (by decide)) h) fun s2 e2 q2 => ?_
    exact p_Tim_get_47 (wsub hP rfl) q2
  · refine ite_z (fun _ => ?_) (fun _ => ?_)
    · exact p_Tim_get_28 (wsub hP rfl) h
    · exact p_Tim_get_28 (wsub hP rfl) h
set_option maxRecDepth 100000 in
set_option maxHeartbeats 4000000 in
theorem s_Tim_get {l : Launch} {ad : Nat → Nat} {D : va_G} {cI : ClassId} {σ : Sg} {a1 : Int32} {K : Option Value → Sg → Prop}   (hK : KV K (f_Tim_get σ a1)) : MetJ l ad D cI mi_Tim_get [.ref 8, .int a1] σ K := by
  refine met_of mi_Tim_get pt_Tim pt_Tim_in rfl pl_Tim rfl (Nat.le_of_ble_eq_true rfl) fun X hX => ?_
  have hX : Cl l ad D cI mi_Tim_get pt_Tim K X := hX
  show X 0 [.ref 8, .int a1, .null] [] σ
  unfold f_Tim_get at hK
  refine hX.1 27 I_Tim_get_0 ok_Tim_get_0 _ _ _ ?_
  refine And.intro (fun h1 => ?_) (fun h1 => ?_)
  · have hK := ite_p hK h1
    refine hX.1 47 I_Tim_get_42 ok_Tim_get_42 _ _ _ ?_
    refine And.intro trivial (SG_g hK fun s2 e2 hK => ?_)
    refine hX.fg [1] ?_
    exact b_Tim_get_47 hX  hK
  · have hK := ite_n hK h1
    refine And.intro (fun h3 => ?_) (fun h3 => ?_)
    · have hK := ite_p hK h3
      refine hX.fg [1, 2] ?_
      exact b_Tim_get_28 hX  hK
    · have hK := ite_n hK h3
      refine hX.1 28 I_Tim_get_27 ok_Tim_get_27 _ _ _ ?_
      refine hX.fg [1, 2] ?_
      exact b_Tim_get_28 hX  hK
def I_Tim_answer_0 : List IT := [(0, .aload_n 0, 1, 0, 0, []), (1, .getfield 34, 3, 0, 0, []), (4, .istore_n 1, 1, 0, 0, []), (5, .aload_n 0, 1, 0, 0, []), (6, .iload_n 1, 1, 0, 0, []), (7, .ifCond .ne 7, 3, 0, 14, []), (10, .iconst 1, 1, 1, 0, []), (11, .goto 4, 3, 0, 15, [])]
theorem ok_Tim_answer_0 : blkOK b_Tim_answer pt_Tim 14 I_Tim_answer_0 = true := by decide +kernel
def I_Tim_answer_14 : List IT := [(14, .iconst 0, 1, 0, 0, [])]
theorem ok_Tim_answer_14 : blkOK b_Tim_answer pt_Tim 15 I_Tim_answer_14 = true := by decide +kernel
def I_Tim_answer_15 : List IT := [(15, .putfield 34, 3, 0, 0, []), (18, .iload_n 1, 1, 0, 0, []), (19, .ifCond .eq 11, 3, 0, 30, []), (22, .aload_n 0, 1, 0, 0, []), (23, .getfield 37, 3, 0, 0, []), (26, .bipush 8, 2, 8, 0, []), (28, .ishr, 1, 0, 0, []), (29, .ireturn, 1, 0, 0, [])]
theorem ok_Tim_answer_15 : blkOK b_Tim_answer pt_Tim 30 I_Tim_answer_15 = true := by decide +kernel
def I_Tim_answer_30 : List IT := [(30, .aload_n 0, 1, 0, 0, []), (31, .aload_n 0, 1, 0, 0, []), (32, .getfield 13, 3, 0, 0, []), (35, .ldc 40, 2, 65535, 0, []), (37, .iand, 1, 0, 0, []), (38, .putfield 37, 3, 0, 0, []), (41, .aload_n 0, 1, 0, 0, []), (42, .getfield 37, 3, 0, 0, []), (45, .sipush 255, 3, 255, 0, []), (48, .iand, 1, 0, 0, []), (49, .ireturn, 1, 0, 0, [])]
theorem ok_Tim_answer_30 : blkOK b_Tim_answer pt_Tim 50 I_Tim_answer_30 = true := by decide +kernel
def f_Tim_answer_15 (σ : Sg) (x1 : Int32) (y0 : Int32) : Int32 × Sg := (bnd (up2 σ 8 6 y0) fun s1 => (if x1 = (0 : Int32) then (bnd (up2 s1 8 5 ((s1 8 1) &&& (65535 : Int32))) fun s3 => (((s3 8 5) &&& (255 : Int32)), s3)) else (((s1 8 5) >>> ((8 : Int32) &&& 31 : Int32)), s1)))
abbrev w_Tim_answer_15 : List (Nat × Option Nat) := [(8, some 5), (8, some 6)]
theorem p_Tim_answer_15 {P : Sg → Prop} (hP : WP w_Tim_answer_15 P) {σ : Sg} {x1 : Int32} {y0 : Int32} (h : P σ) : PP P (f_Tim_answer_15 σ x1 y0) := by
  unfold f_Tim_answer_15
  refine bnd_zz (Z := P) (hP _ _ _ _ (Or.inr (by decide)) h) fun s1 e1 q1 => ?_
  refine ite_z (fun _ => ?_) (fun _ => ?_)
  · refine bnd_zz (Z := P) (hP _ _ _ _ (Or.inr (by decide)) q1) fun s3 e3 q3 => ?_
    exact q3
  · exact q1
set_option maxRecDepth 100000 in
set_option maxHeartbeats 4000000 in
theorem b_Tim_answer_15 {l : Launch} {ad : Nat → Nat} {D : va_G} {cI : ClassId} {K : Option Value → Sg → Prop} {X : Nat → List Value → List Value → Sg → Prop} (hX : Cl l ad D cI mi_Tim_answer pt_Tim K X) {σ : Sg} {x1 : Int32} {y0 : Int32} (z_y0 : y0 = 0 ∨ y0 = 1)  (hK : KI K (f_Tim_answer_15 σ x1 y0)) : X 15 [.ref 8, .int x1] [.int y0, .ref 8] σ := by
  unfold f_Tim_answer_15 at hK
  refine hX.1 30 I_Tim_answer_15 ok_Tim_answer_15 _ _ _ ?_
  refine And.intro z_y0 (SG_g hK fun s1 e1 hK => ?_)
  refine And.intro (fun h2 => ?_) (fun h2 => ?_)
  · have hK := ite_p hK h2
    refine hX.1 50 I_Tim_answer_30 ok_Tim_answer_30 _ _ _ ?_
    refine And.intro trivial (SG_g hK fun s3 e3 hK => ?_)
    exact hK
  · have hK := ite_n hK h2
    exact hK
def f_Tim_answer (σ : Sg)  : Int32 × Sg := (if (σ 8 6) = (0 : Int32) then (f_Tim_answer_15 σ (σ 8 6) (1 : Int32)) else (f_Tim_answer_15 σ (σ 8 6) (0 : Int32)))
abbrev w_Tim_answer : List (Nat × Option Nat) := [(8, some 5), (8, some 6)]
theorem p_Tim_answer {P : Sg → Prop} (hP : WP w_Tim_answer P) {σ : Sg}  (h : P σ) : PP P (f_Tim_answer σ ) := by
  unfold f_Tim_answer
  refine ite_z (fun _ => ?_) (fun _ => ?_)
  · exact p_Tim_answer_15 (wsub hP rfl) h
  · exact p_Tim_answer_15 (wsub hP rfl) h
set_option maxRecDepth 100000 in
set_option maxHeartbeats 4000000 in
theorem s_Tim_answer {l : Launch} {ad : Nat → Nat} {D : va_G} {cI : ClassId} {σ : Sg}  {K : Option Value → Sg → Prop}   (hK : KI K (f_Tim_answer σ )) : MetJ l ad D cI mi_Tim_answer [.ref 8] σ K := by
  refine met_of mi_Tim_answer pt_Tim pt_Tim_in rfl pl_Tim rfl (Nat.le_of_ble_eq_true rfl) fun X hX => ?_
  have hX : Cl l ad D cI mi_Tim_answer pt_Tim K X := hX
  show X 0 [.ref 8, .null] [] σ
  unfold f_Tim_answer at hK
  refine hX.1 14 I_Tim_answer_0 ok_Tim_answer_0 _ _ _ ?_
  refine And.intro (fun h1 => ?_) (fun h1 => ?_)
  · have hK := ite_p hK h1
    exact b_Tim_answer_15 hX (Or.inr rfl) hK
  · have hK := ite_n hK h1
    refine hX.1 15 I_Tim_answer_14 ok_Tim_answer_14 _ _ _ ?_
    exact b_Tim_answer_15 hX (Or.inl rfl) hK
def I_Key_come_0 : List IT := [(0, .aload_n 0, 1, 0, 0, []), (1, .getfield 17, 3, 0, 0, []), (4, .iconst 4, 1, 4, 0, []), (5, .if_icmp .lt 5, 3, 0, 10, []), (8, .iconst 0, 1, 0, 0, []), (9, .ireturn, 1, 0, 0, [])]
theorem ok_Key_come_0 : blkOK b_Key_come pt_Key 10 I_Key_come_0 = true := by decide +kernel
def I_Key_come_10 : List IT := [(10, .aload_n 0, 1, 0, 0, []), (11, .getfield 17, 3, 0, 0, []), (14, .ifCond .ne 11, 3, 0, 25, []), (17, .aload_n 0, 1, 0, 0, []), (18, .getfield 13, 3, 0, 0, []), (21, .iconst 1, 1, 1, 0, []), (22, .invokevirtual 21, 3, 0, 0, [])]
theorem ok_Key_come_10 : blkOK b_Key_come pt_Key 25 I_Key_come_10 = true := by decide +kernel
def I_Key_come_25 : List IT := [(25, .aload_n 0, 1, 0, 0, []), (26, .getfield 9, 3, 0, 0, []), (29, .aload_n 0, 1, 0, 0, []), (30, .getfield 17, 3, 0, 0, []), (33, .iload_n 1, 1, 0, 0, []), (34, .iastore, 1, 0, 0, []), (35, .aload_n 0, 1, 0, 0, []), (36, .dup, 1, 0, 0, []), (37, .getfield 17, 3, 0, 0, []), (40, .iconst 1, 1, 1, 0, []), (41, .iadd, 1, 0, 0, []), (42, .putfield 17, 3, 0, 0, []), (45, .iconst 1, 1, 1, 0, []), (46, .ireturn, 1, 0, 0, [])]
theorem ok_Key_come_25 : blkOK b_Key_come pt_Key 47 I_Key_come_25 = true := by decide +kernel
def f_Key_come_25 (σ : Sg) (x1 : Int32) : Int32 × Sg := (bnd (up2 σ 10 (Int32.toNatClampNeg (σ 9 2)) x1) fun s1 => bnd (up2 s1 9 2 ((s1 9 2) + (1 : Int32))) fun s2 => ((1 : Int32), s2))
theorem z_Key_come_25 {σ : Sg} {x1 : Int32}  (hw : vp_in (σ 9 2) 4) : (f_Key_come_25 σ x1).1 = 0 ∨ (f_Key_come_25 σ x1).1 = 1 := by
  show Zb (f_Key_come_25 σ x1)
  unfold f_Key_come_25
  refine bnd_z fun s1 e1 => ?_
  refine bnd_z fun s2 e2 => ?_
  exact (Or.inr rfl)
abbrev w_Key_come_25 : List (Nat × Option Nat) := [(9, some 2), (10, none)]
theorem p_Key_come_25 {P : Sg → Prop} (hP : WP w_Key_come_25 P) {σ : Sg} {x1 : Int32} (h : P σ) : PP P (f_Key_come_25 σ x1) := by
  unfold f_Key_come_25
  refine bnd_zz (Z := P) (hP _ _ _ _ (Or.inl (by decide)) h) fun s1 e1 q1 => ?_
  refine bnd_zz (Z := P) (hP _ _ _ _ (Or.inr (by decide)) q1) fun s2 e2 q2 => ?_
  exact q2
set_option maxRecDepth 100000 in
set_option maxHeartbeats 4000000 in
theorem b_Key_come_25 {l : Launch} {ad : Nat → Nat} {D : va_G} {cI : ClassId} {K : Option Value → Sg → Prop} {X : Nat → List Value → List Value → Sg → Prop} (hX : Cl l ad D cI mi_Key_come pt_Key K X) {σ : Sg} {x1 : Int32}  (hw : vp_in (σ 9 2) 4) (hK : KI K (f_Key_come_25 σ x1)) : X 25 [.ref 9, .int x1] [] σ := by
  unfold f_Key_come_25 at hK
  refine hX.1 47 I_Key_come_25 ok_Key_come_25 _ _ _ ?_
  refine And.intro hw (SG_g hK fun s1 e1 hK => ?_)
  refine And.intro trivial (SG_g hK fun s2 e2 hK => ?_)
  exact And.intro (Or.inr rfl) hK
def f_Key_come (σ : Sg) (a1 : Int32) : Int32 × Sg := (if (σ 9 2) < (4 : Int32) then (if (σ 9 2) = (0 : Int32) then (bnd (f_Ctl_request σ (1 : Int32)) fun r3 => (f_Key_come_25 r3 a1)) else (f_Key_come_25 σ a1)) else ((0 : Int32), σ))
theorem z_Key_come {σ : Sg} {a1 : Int32}  (hw : ¬ σ 9 2 < 0) : (f_Key_come σ a1).1 = 0 ∨ (f_Key_come σ a1).1 = 1 := by
  show Zb (f_Key_come σ a1)
  unfold f_Key_come
  refine ite_z (fun h1 => ?_) (fun h1 => ?_)
  · refine ite_z (fun h2 => ?_) (fun h2 => ?_)
    · refine bnd_z fun r3 e3 => ?_
      exact z_Key_come_25  (by subst_vars; exact vin_lt (m := 4) rfl hw (by assumption))
    · exact z_Key_come_25  (by subst_vars; exact vin_lt (m := 4) rfl hw (by assumption))
  · exact (Or.inl rfl)
abbrev w_Key_come : List (Nat × Option Nat) := [(7, some 0), (9, some 2), (10, none)]
theorem p_Key_come {P : Sg → Prop} (hP : WP w_Key_come P) {σ : Sg} {a1 : Int32} (h : P σ) : PP P (f_Key_come σ a1) := by
  unfold f_Key_come
  refine ite_z (fun _ => ?_) (fun _ => ?_)
  · refine ite_z (fun _ => ?_) (fun _ => ?_)
    · refine bnd_zz (Z := P) (p_Ctl_request (wsub hP rfl) h) fun r3 e3 q3 => ?_
      exact p_Key_come_25 (wsub hP rfl) q3
    · exact p_Key_come_25 (wsub hP rfl) h
  · exact h
set_option maxRecDepth 100000 in
set_option maxHeartbeats 4000000 in
theorem s_Key_come {l : Launch} {ad : Nat → Nat} {D : va_G} {cI : ClassId} {σ : Sg} {a1 : Int32} {K : Option Value → Sg → Prop}  (hw : ¬ σ 9 2 < 0) (hK : KI K (f_Key_come σ a1)) : MetJ l ad D cI mi_Key_come [.ref 9, .int a1] σ K := by
  refine met_of mi_Key_come pt_Key pt_Key_in rfl pl_Key rfl (Nat.le_of_ble_eq_true rfl) fun X hX => ?_
  have hX : Cl l ad D cI mi_Key_come pt_Key K X := hX
  show X 0 [.ref 9, .int a1] [] σ
  unfold f_Key_come at hK
  refine hX.1 10 I_Key_come_0 ok_Key_come_0 _ _ _ ?_
  refine And.intro (fun h1 => ?_) (fun h1 => ?_)
  · have hK := ite_p hK h1
    refine hX.1 25 I_Key_come_10 ok_Key_come_10 _ _ _ ?_
    refine And.intro (fun h2 => ?_) (fun h2 => ?_)
    · have hK := ite_p hK h2
      refine s_Ctl_request (bnd_g hK fun r3 e3 hK => ?_)
      exact b_Key_come_25 hX (by subst_vars; exact vin_lt (m := 4) rfl hw (by assumption)) hK
    · have hK := ite_n hK h2
      exact b_Key_come_25 hX (by subst_vars; exact vin_lt (m := 4) rfl hw (by assumption)) hK
  · have hK := ite_n hK h1
    exact And.intro (Or.inl rfl) hK
def I_Key_take_0 : List IT := [(0, .aload_n 0, 1, 0, 0, []), (1, .getfield 17, 3, 0, 0, []), (4, .ifCond .ne 5, 3, 0, 9, []), (7, .iconst 0, 1, 0, 0, []), (8, .ireturn, 1, 0, 0, [])]
theorem ok_Key_take_0 : blkOK b_Key_take pt_Key 9 I_Key_take_0 = true := by decide +kernel
def I_Key_take_9 : List IT := [(9, .aload_n 0, 1, 0, 0, []), (10, .getfield 9, 3, 0, 0, []), (13, .iconst 0, 1, 0, 0, []), (14, .iaload, 1, 0, 0, []), (15, .istore_n 1, 1, 0, 0, []), (16, .iconst 1, 1, 1, 0, []), (17, .istore_n 2, 1, 0, 0, [])]
theorem ok_Key_take_9 : blkOK b_Key_take pt_Key 18 I_Key_take_9 = true := by decide +kernel
def I_Key_take_18 : List IT := [(18, .iload_n 2, 1, 0, 0, []), (19, .iconst 4, 1, 4, 0, []), (20, .if_icmp .ge 23, 3, 0, 43, []), (23, .aload_n 0, 1, 0, 0, []), (24, .getfield 9, 3, 0, 0, []), (27, .iload_n 2, 1, 0, 0, []), (28, .iconst 1, 1, 1, 0, []), (29, .isub, 1, 0, 0, []), (30, .aload_n 0, 1, 0, 0, []), (31, .getfield 9, 3, 0, 0, []), (34, .iload_n 2, 1, 0, 0, []), (35, .iaload, 1, 0, 0, []), (36, .iastore, 1, 0, 0, []), (37, .iinc 2 1, 3, 1, 0, []), (40, .goto (-22), 3, 0, 18, [])]
theorem ok_Key_take_18 : blkOK b_Key_take pt_Key 43 I_Key_take_18 = true := by decide +kernel
def I_Key_take_43 : List IT := [(43, .aload_n 0, 1, 0, 0, []), (44, .dup, 1, 0, 0, []), (45, .getfield 17, 3, 0, 0, []), (48, .iconst 1, 1, 1, 0, []), (49, .isub, 1, 0, 0, []), (50, .putfield 17, 3, 0, 0, []), (53, .aload_n 0, 1, 0, 0, []), (54, .getfield 17, 3, 0, 0, []), (57, .ifCond .le 11, 3, 0, 68, []), (60, .aload_n 0, 1, 0, 0, []), (61, .getfield 13, 3, 0, 0, []), (64, .iconst 1, 1, 1, 0, []), (65, .invokevirtual 21, 3, 0, 0, [])]
theorem ok_Key_take_43 : blkOK b_Key_take pt_Key 68 I_Key_take_43 = true := by decide +kernel
def I_Key_take_68 : List IT := [(68, .iload_n 1, 1, 0, 0, []), (69, .ireturn, 1, 0, 0, [])]
theorem ok_Key_take_68 : blkOK b_Key_take pt_Key 70 I_Key_take_68 = true := by decide +kernel
def f_Key_take_18_c4 (σ : Sg) (x1 : Int32) : Int32 × Sg := (bnd (up2 σ 9 2 ((σ 9 2) - (1 : Int32))) fun s1 => (if (s1 9 2) ≤ (0 : Int32) then (x1, s1) else (bnd (f_Ctl_request s1 (1 : Int32)) fun r3 => (x1, r3))))
abbrev w_Key_take_18_c4 : List (Nat × Option Nat) := [(7, some 0), (9, some 2)]
theorem p_Key_take_18_c4 {P : Sg → Prop} (hP : WP w_Key_take_18_c4 P) {σ : Sg} {x1 : Int32} (h : P σ) : PP P (f_Key_take_18_c4 σ x1) := by
  unfold f_Key_take_18_c4
  refine bnd_zz (Z := P) (hP _ _ _ _ (Or.inr (by decide)) h) fun s1 e1 q1 => ?_
  refine ite_z (fun _ => ?_) (fun _ => ?_)
  · exact q1
  · refine bnd_zz (Z := P) (p_Ctl_request (wsub hP rfl) q1) fun r3 e3 q3 => ?_
    exact q3
set_option maxRecDepth 100000 in
set_option maxHeartbeats 4000000 in
theorem b_Key_take_18_c4 {l : Launch} {ad : Nat → Nat} {D : va_G} {cI : ClassId} {K : Option Value → Sg → Prop} {X : Nat → List Value → List Value → Sg → Prop} (hX : Cl l ad D cI mi_Key_take pt_Key K X) {σ : Sg} {x1 : Int32}   (hK : KI K (f_Key_take_18_c4 σ x1)) : X 18 [.ref 9, .int x1, .int ((((1 : Int32) + (1 : Int32)) + (1 : Int32)) + (1 : Int32))] [] σ := by
  unfold f_Key_take_18_c4 at hK
  refine hX.1 43 I_Key_take_18 ok_Key_take_18 _ _ _ ?_
  refine And.intro (fun _ => ?_) (fun h => absurd (by decide) h)
  refine hX.1 68 I_Key_take_43 ok_Key_take_43 _ _ _ ?_
  refine And.intro trivial (SG_g hK fun s1 e1 hK => ?_)
  refine And.intro (fun h2 => ?_) (fun h2 => ?_)
  · have hK := ite_p hK h2
    refine hX.1 70 I_Key_take_68 ok_Key_take_68 _ _ _ ?_
    exact hK
  · have hK := ite_n hK h2
    refine s_Ctl_request (bnd_g hK fun r3 e3 hK => ?_)
    refine hX.1 70 I_Key_take_68 ok_Key_take_68 _ _ _ ?_
    exact hK
def f_Key_take_18_c3 (σ : Sg) (x1 : Int32) : Int32 × Sg := (bnd (up2 σ 10 (Int32.toNatClampNeg ((((1 : Int32) + (1 : Int32)) + (1 : Int32)) - (1 : Int32))) (σ 10 (Int32.toNatClampNeg (((1 : Int32) + (1 : Int32)) + (1 : Int32))))) fun s1 => (f_Key_take_18_c4 s1 x1))
abbrev w_Key_take_18_c3 : List (Nat × Option Nat) := [(7, some 0), (9, some 2), (10, none)]
theorem p_Key_take_18_c3 {P : Sg → Prop} (hP : WP w_Key_take_18_c3 P) {σ : Sg} {x1 : Int32} (h : P σ) : PP P (f_Key_take_18_c3 σ x1) := by
  unfold f_Key_take_18_c3
  refine bnd_zz (Z := P) (hP _ _ _ _ (Or.inl (by decide)) h) fun s1 e1 q1 => ?_
  exact p_Key_take_18_c4 (wsub hP rfl) q1
set_option maxRecDepth 100000 in
set_option maxHeartbeats 4000000 in
theorem b_Key_take_18_c3 {l : Launch} {ad : Nat → Nat} {D : va_G} {cI : ClassId} {K : Option Value → Sg → Prop} {X : Nat → List Value → List Value → Sg → Prop} (hX : Cl l ad D cI mi_Key_take pt_Key K X) {σ : Sg} {x1 : Int32}   (hK : KI K (f_Key_take_18_c3 σ x1)) : X 18 [.ref 9, .int x1, .int (((1 : Int32) + (1 : Int32)) + (1 : Int32))] [] σ := by
  unfold f_Key_take_18_c3 at hK
  refine hX.1 43 I_Key_take_18 ok_Key_take_18 _ _ _ ?_
  refine And.intro (fun h => absurd h (by decide)) (fun _ => ?_)
  refine And.intro (vin (by decide)) ?_
  refine And.intro (vin (by decide)) (SG_g hK fun s1 e1 hK => ?_)
  exact b_Key_take_18_c4 hX  hK
def f_Key_take_18_c2 (σ : Sg) (x1 : Int32) : Int32 × Sg := (bnd (up2 σ 10 (Int32.toNatClampNeg (((1 : Int32) + (1 : Int32)) - (1 : Int32))) (σ 10 (Int32.toNatClampNeg ((1 : Int32) + (1 : Int32))))) fun s1 => (f_Key_take_18_c3 s1 x1))
abbrev w_Key_take_18_c2 : List (Nat × Option Nat) := [(7, some 0), (9, some 2), (10, none)]
theorem p_Key_take_18_c2 {P : Sg → Prop} (hP : WP w_Key_take_18_c2 P) {σ : Sg} {x1 : Int32} (h : P σ) : PP P (f_Key_take_18_c2 σ x1) := by
  unfold f_Key_take_18_c2
  refine bnd_zz (Z := P) (hP _ _ _ _ (Or.inl (by decide)) h) fun s1 e1 q1 => ?_
  exact p_Key_take_18_c3 (wsub hP rfl) q1
set_option maxRecDepth 100000 in
set_option maxHeartbeats 4000000 in
theorem b_Key_take_18_c2 {l : Launch} {ad : Nat → Nat} {D : va_G} {cI : ClassId} {K : Option Value → Sg → Prop} {X : Nat → List Value → List Value → Sg → Prop} (hX : Cl l ad D cI mi_Key_take pt_Key K X) {σ : Sg} {x1 : Int32}   (hK : KI K (f_Key_take_18_c2 σ x1)) : X 18 [.ref 9, .int x1, .int ((1 : Int32) + (1 : Int32))] [] σ := by
  unfold f_Key_take_18_c2 at hK
  refine hX.1 43 I_Key_take_18 ok_Key_take_18 _ _ _ ?_
  refine And.intro (fun h => absurd h (by decide)) (fun _ => ?_)
  refine And.intro (vin (by decide)) ?_
  refine And.intro (vin (by decide)) (SG_g hK fun s1 e1 hK => ?_)
  exact b_Key_take_18_c3 hX  hK
def f_Key_take_18_c1 (σ : Sg) (x1 : Int32) : Int32 × Sg := (bnd (up2 σ 10 (Int32.toNatClampNeg ((1 : Int32) - (1 : Int32))) (σ 10 (Int32.toNatClampNeg (1 : Int32)))) fun s1 => (f_Key_take_18_c2 s1 x1))
abbrev w_Key_take_18_c1 : List (Nat × Option Nat) := [(7, some 0), (9, some 2), (10, none)]
theorem p_Key_take_18_c1 {P : Sg → Prop} (hP : WP w_Key_take_18_c1 P) {σ : Sg} {x1 : Int32} (h : P σ) : PP P (f_Key_take_18_c1 σ x1) := by
  unfold f_Key_take_18_c1
  refine bnd_zz (Z := P) (hP _ _ _ _ (Or.inl (by decide)) h) fun s1 e1 q1 => ?_
  exact p_Key_take_18_c2 (wsub hP rfl) q1
set_option maxRecDepth 100000 in
set_option maxHeartbeats 4000000 in
theorem b_Key_take_18_c1 {l : Launch} {ad : Nat → Nat} {D : va_G} {cI : ClassId} {K : Option Value → Sg → Prop} {X : Nat → List Value → List Value → Sg → Prop} (hX : Cl l ad D cI mi_Key_take pt_Key K X) {σ : Sg} {x1 : Int32}   (hK : KI K (f_Key_take_18_c1 σ x1)) : X 18 [.ref 9, .int x1, .int (1 : Int32)] [] σ := by
  unfold f_Key_take_18_c1 at hK
  refine hX.1 43 I_Key_take_18 ok_Key_take_18 _ _ _ ?_
  refine And.intro (fun h => absurd h (by decide)) (fun _ => ?_)
  refine And.intro (vin (by decide)) ?_
  refine And.intro (vin (by decide)) (SG_g hK fun s1 e1 hK => ?_)
  exact b_Key_take_18_c2 hX  hK
def f_Key_take (σ : Sg)  : Int32 × Sg := (if (σ 9 2) = (0 : Int32) then ((0 : Int32), σ) else (f_Key_take_18_c1 σ (σ 10 (Int32.toNatClampNeg (0 : Int32)))))
abbrev w_Key_take : List (Nat × Option Nat) := [(7, some 0), (9, some 2), (10, none)]
theorem p_Key_take {P : Sg → Prop} (hP : WP w_Key_take P) {σ : Sg}  (h : P σ) : PP P (f_Key_take σ ) := by
  unfold f_Key_take
  refine ite_z (fun _ => ?_) (fun _ => ?_)
  · exact h
  · exact p_Key_take_18_c1 (wsub hP rfl) h
set_option maxRecDepth 100000 in
set_option maxHeartbeats 4000000 in
theorem s_Key_take {l : Launch} {ad : Nat → Nat} {D : va_G} {cI : ClassId} {σ : Sg}  {K : Option Value → Sg → Prop}   (hK : KI K (f_Key_take σ )) : MetJ l ad D cI mi_Key_take [.ref 9] σ K := by
  refine met_of mi_Key_take pt_Key pt_Key_in rfl pl_Key rfl (Nat.le_of_ble_eq_true rfl) fun X hX => ?_
  have hX : Cl l ad D cI mi_Key_take pt_Key K X := hX
  show X 0 [.ref 9, .null, .null] [] σ
  unfold f_Key_take at hK
  refine hX.1 9 I_Key_take_0 ok_Key_take_0 _ _ _ ?_
  refine And.intro (fun h1 => ?_) (fun h1 => ?_)
  · have hK := ite_p hK h1
    exact hK
  · have hK := ite_n hK h1
    refine hX.1 18 I_Key_take_9 ok_Key_take_9 _ _ _ ?_
    refine And.intro (vin (by decide)) ?_
    exact b_Key_take_18_c1 hX  hK
def I_Key_answerWaiting_0 : List IT := [(0, .aload_n 0, 1, 0, 0, []), (1, .getfield 17, 3, 0, 0, []), (4, .ifCond .le 7, 3, 0, 11, []), (7, .iconst 1, 1, 1, 0, []), (8, .goto 4, 3, 0, 12, [])]
theorem ok_Key_answerWaiting_0 : blkOK b_Key_answerWaiting pt_Key 11 I_Key_answerWaiting_0 = true := by decide +kernel
def I_Key_answerWaiting_11 : List IT := [(11, .iconst 0, 1, 0, 0, [])]
theorem ok_Key_answerWaiting_11 : blkOK b_Key_answerWaiting pt_Key 12 I_Key_answerWaiting_11 = true := by decide +kernel
def I_Key_answerWaiting_12 : List IT := [(12, .ireturn, 1, 0, 0, [])]
theorem ok_Key_answerWaiting_12 : blkOK b_Key_answerWaiting pt_Key 13 I_Key_answerWaiting_12 = true := by decide +kernel
def f_Key_answerWaiting (σ : Sg)  : Int32 × Sg := (if (σ 9 2) ≤ (0 : Int32) then ((0 : Int32), σ) else ((1 : Int32), σ))
abbrev w_Key_answerWaiting : List (Nat × Option Nat) := []
theorem p_Key_answerWaiting {P : Sg → Prop} (hP : WP w_Key_answerWaiting P) {σ : Sg}  (h : P σ) : PP P (f_Key_answerWaiting σ ) := by
  unfold f_Key_answerWaiting
  refine ite_z (fun _ => ?_) (fun _ => ?_)
  · exact h
  · exact h
set_option maxRecDepth 100000 in
set_option maxHeartbeats 4000000 in
theorem s_Key_answerWaiting {l : Launch} {ad : Nat → Nat} {D : va_G} {cI : ClassId} {σ : Sg}  {K : Option Value → Sg → Prop}   (hK : KI K (f_Key_answerWaiting σ )) : MetJ l ad D cI mi_Key_answerWaiting [.ref 9] σ K := by
  refine met_of mi_Key_answerWaiting pt_Key pt_Key_in rfl pl_Key rfl (Nat.le_of_ble_eq_true rfl) fun X hX => ?_
  have hX : Cl l ad D cI mi_Key_answerWaiting pt_Key K X := hX
  show X 0 [.ref 9] [] σ
  unfold f_Key_answerWaiting at hK
  refine hX.1 11 I_Key_answerWaiting_0 ok_Key_answerWaiting_0 _ _ _ ?_
  refine And.intro (fun h1 => ?_) (fun h1 => ?_)
  · have hK := ite_p hK h1
    refine hX.1 12 I_Key_answerWaiting_11 ok_Key_answerWaiting_11 _ _ _ ?_
    refine hX.1 13 I_Key_answerWaiting_12 ok_Key_answerWaiting_12 _ _ _ ?_
    exact hK
  · have hK := ite_n hK h1
    refine hX.1 13 I_Key_answerWaiting_12 ok_Key_answerWaiting_12 _ _ _ ?_
    exact hK
def I_Cha_getPlace_0 : List IT := [(0, .aload_n 0, 1, 0, 0, []), (1, .getfield 17, 3, 0, 0, []), (4, .ifCond .ne 8, 3, 0, 12, []), (7, .aload_n 0, 1, 0, 0, []), (8, .iload_n 1, 1, 0, 0, []), (9, .putfield 21, 3, 0, 0, [])]
theorem ok_Cha_getPlace_0 : blkOK b_Cha_getPlace pt_Cha 12 I_Cha_getPlace_0 = true := by decide +kernel
def I_Cha_getPlace_12 : List IT := [(12, .aload_n 0, 1, 0, 0, []), (13, .aload_n 0, 1, 0, 0, []), (14, .getfield 17, 3, 0, 0, []), (17, .ifCond .ne 7, 3, 0, 24, []), (20, .iconst 1, 1, 1, 0, []), (21, .goto 4, 3, 0, 25, [])]
theorem ok_Cha_getPlace_12 : blkOK b_Cha_getPlace pt_Cha 24 I_Cha_getPlace_12 = true := by decide +kernel
def I_Cha_getPlace_24 : List IT := [(24, .iconst 0, 1, 0, 0, [])]
theorem ok_Cha_getPlace_24 : blkOK b_Cha_getPlace pt_Cha 25 I_Cha_getPlace_24 = true := by decide +kernel
def I_Cha_getPlace_25 : List IT := [(25, .putfield 17, 3, 0, 0, []), (28, .return_, 1, 0, 0, [])]
theorem ok_Cha_getPlace_25 : blkOK b_Cha_getPlace pt_Cha 29 I_Cha_getPlace_25 = true := by decide +kernel
def f_Cha_getPlace_12 (σ : Sg)  : Sg := (if (σ 11 7) = (0 : Int32) then (bnd (up2 σ 11 7 (1 : Int32)) fun s2 => s2) else (bnd (up2 σ 11 7 (0 : Int32)) fun s3 => s3))
abbrev w_Cha_getPlace_12 : List (Nat × Option Nat) := [(11, some 7)]
theorem p_Cha_getPlace_12 {P : Sg → Prop} (hP : WP w_Cha_getPlace_12 P) {σ : Sg}  (h : P σ) : P (f_Cha_getPlace_12 σ ) := by
  unfold f_Cha_getPlace_12
  refine ite_z (fun _ => ?_) (fun _ => ?_)
  · refine bnd_zz (Z := P) (hP _ _ _ _ (Or.inr (by decide)) h) fun s2 e2 q2 => ?_
    exact q2
  · refine bnd_zz (Z := P) (hP _ _ _ _ (Or.inr (by decide)) h) fun s3 e3 q3 => ?_
    exact q3
set_option maxRecDepth 100000 in
set_option maxHeartbeats 4000000 in
theorem b_Cha_getPlace_12 {l : Launch} {ad : Nat → Nat} {D : va_G} {cI : ClassId} {K : Option Value → Sg → Prop} {X : Nat → List Value → List Value → Sg → Prop} (hX : Cl l ad D cI mi_Cha_getPlace pt_Cha K X) {σ : Sg}    (hK : KV K (f_Cha_getPlace_12 σ )) : X 12 [.ref 11, .null] [] σ := by
  unfold f_Cha_getPlace_12 at hK
  refine hX.1 24 I_Cha_getPlace_12 ok_Cha_getPlace_12 _ _ _ ?_
  refine And.intro (fun h1 => ?_) (fun h1 => ?_)
  · have hK := ite_p hK h1
    refine hX.1 29 I_Cha_getPlace_25 ok_Cha_getPlace_25 _ _ _ ?_
    refine And.intro (Or.inr rfl) (SG_g hK fun s2 e2 hK => ?_)
    exact hK
  · have hK := ite_n hK h1
    refine hX.1 25 I_Cha_getPlace_24 ok_Cha_getPlace_24 _ _ _ ?_
    refine hX.1 29 I_Cha_getPlace_25 ok_Cha_getPlace_25 _ _ _ ?_
    refine And.intro (Or.inl rfl) (SG_g hK fun s3 e3 hK => ?_)
    exact hK
def f_Cha_getPlace (σ : Sg) (a1 : Int32) : Sg := (if (σ 11 7) = (0 : Int32) then (bnd (up2 σ 11 2 a1) fun s2 => (f_Cha_getPlace_12 s2)) else (f_Cha_getPlace_12 σ))
abbrev w_Cha_getPlace : List (Nat × Option Nat) := [(11, some 2), (11, some 7)]
theorem p_Cha_getPlace {P : Sg → Prop} (hP : WP w_Cha_getPlace P) {σ : Sg} {a1 : Int32} (h : P σ) : P (f_Cha_getPlace σ a1) := by
  unfold f_Cha_getPlace
  refine ite_z (fun _ => ?_) (fun _ => ?_)
  · refine bnd_zz (Z := P) (hP _ _ _ _ (Or.inr (by decide)) h) fun s2 e2 q2 => ?_
    exact p_Cha_getPlace_12 (wsub hP rfl) q2
  · exact p_Cha_getPlace_12 (wsub hP rfl) h
set_option maxRecDepth 100000 in
set_option maxHeartbeats 4000000 in
theorem s_Cha_getPlace {l : Launch} {ad : Nat → Nat} {D : va_G} {cI : ClassId} {σ : Sg} {a1 : Int32} {K : Option Value → Sg → Prop}   (hK : KV K (f_Cha_getPlace σ a1)) : MetJ l ad D cI mi_Cha_getPlace [.ref 11, .int a1] σ K := by
  refine met_of mi_Cha_getPlace pt_Cha pt_Cha_in rfl pl_Cha rfl (Nat.le_of_ble_eq_true rfl) fun X hX => ?_
  have hX : Cl l ad D cI mi_Cha_getPlace pt_Cha K X := hX
  show X 0 [.ref 11, .int a1] [] σ
  unfold f_Cha_getPlace at hK
  refine hX.1 12 I_Cha_getPlace_0 ok_Cha_getPlace_0 _ _ _ ?_
  refine And.intro (fun h1 => ?_) (fun h1 => ?_)
  · have hK := ite_p hK h1
    refine And.intro trivial (SG_g hK fun s2 e2 hK => ?_)
    refine hX.fg [1] ?_
    exact b_Cha_getPlace_12 hX  hK
  · have hK := ite_n hK h1
    refine hX.fg [1] ?_
    exact b_Cha_getPlace_12 hX  hK
def I_Cha_getLeft_0 : List IT := [(0, .aload_n 0, 1, 0, 0, []), (1, .aload_n 0, 1, 0, 0, []), (2, .getfield 17, 3, 0, 0, []), (5, .ifCond .eq 19, 3, 0, 24, []), (8, .aload_n 0, 1, 0, 0, []), (9, .getfield 25, 3, 0, 0, []), (12, .sipush 255, 3, 255, 0, []), (15, .iand, 1, 0, 0, []), (16, .iload_n 1, 1, 0, 0, []), (17, .bipush 8, 2, 8, 0, []), (19, .ishl, 1, 0, 0, []), (20, .ior, 1, 0, 0, []), (21, .goto 12, 3, 0, 33, [])]
theorem ok_Cha_getLeft_0 : blkOK b_Cha_getLeft pt_Cha 24 I_Cha_getLeft_0 = true := by decide +kernel
def I_Cha_getLeft_24 : List IT := [(24, .aload_n 0, 1, 0, 0, []), (25, .getfield 25, 3, 0, 0, []), (28, .ldc 28, 2, 65280, 0, []), (30, .iand, 1, 0, 0, []), (31, .iload_n 1, 1, 0, 0, []), (32, .ior, 1, 0, 0, [])]
theorem ok_Cha_getLeft_24 : blkOK b_Cha_getLeft pt_Cha 33 I_Cha_getLeft_24 = true := by decide +kernel
def I_Cha_getLeft_33 : List IT := [(33, .putfield 25, 3, 0, 0, []), (36, .aload_n 0, 1, 0, 0, []), (37, .aload_n 0, 1, 0, 0, []), (38, .getfield 17, 3, 0, 0, []), (41, .ifCond .ne 7, 3, 0, 48, []), (44, .iconst 1, 1, 1, 0, []), (45, .goto 4, 3, 0, 49, [])]
theorem ok_Cha_getLeft_33 : blkOK b_Cha_getLeft pt_Cha 48 I_Cha_getLeft_33 = true := by decide +kernel
def I_Cha_getLeft_48 : List IT := [(48, .iconst 0, 1, 0, 0, [])]
theorem ok_Cha_getLeft_48 : blkOK b_Cha_getLeft pt_Cha 49 I_Cha_getLeft_48 = true := by decide +kernel
def I_Cha_getLeft_49 : List IT := [(49, .putfield 17, 3, 0, 0, []), (52, .return_, 1, 0, 0, [])]
theorem ok_Cha_getLeft_49 : blkOK b_Cha_getLeft pt_Cha 53 I_Cha_getLeft_49 = true := by decide +kernel
def f_Cha_getLeft_33 (σ : Sg) (y0 : Int32) : Sg := (bnd (up2 σ 11 3 y0) fun s1 => (if (s1 11 7) = (0 : Int32) then (bnd (up2 s1 11 7 (1 : Int32)) fun s3 => s3) else (bnd (up2 s1 11 7 (0 : Int32)) fun s4 => s4)))
abbrev w_Cha_getLeft_33 : List (Nat × Option Nat) := [(11, some 3), (11, some 7)]
theorem p_Cha_getLeft_33 {P : Sg → Prop} (hP : WP w_Cha_getLeft_33 P) {σ : Sg} {y0 : Int32} (h : P σ) : P (f_Cha_getLeft_33 σ y0) := by
  unfold f_Cha_getLeft_33
  refine bnd_zz (Z := P) (hP _ _ _ _ (Or.inr (by decide)) h) fun s1 e1 q1 => ?_
  refine ite_z (fun _ => ?_) (fun _ => ?_)
  · refine bnd_zz (Z := P) (hP _ _ _ _ (Or.inr (by decide)) q1) fun s3 e3 q3 => ?_
    exact q3
  · refine bnd_zz (Z := P) (hP _ _ _ _ (Or.inr (by decide)) q1) fun s4 e4 q4 => ?_
    exact q4
set_option maxRecDepth 100000 in
set_option maxHeartbeats 4000000 in
theorem b_Cha_getLeft_33 {l : Launch} {ad : Nat → Nat} {D : va_G} {cI : ClassId} {K : Option Value → Sg → Prop} {X : Nat → List Value → List Value → Sg → Prop} (hX : Cl l ad D cI mi_Cha_getLeft pt_Cha K X) {σ : Sg} {y0 : Int32}   (hK : KV K (f_Cha_getLeft_33 σ y0)) : X 33 [.ref 11, .null] [.int y0, .ref 11] σ := by
  unfold f_Cha_getLeft_33 at hK
  refine hX.1 48 I_Cha_getLeft_33 ok_Cha_getLeft_33 _ _ _ ?_
  refine And.intro trivial (SG_g hK fun s1 e1 hK => ?_)
  refine And.intro (fun h2 => ?_) (fun h2 => ?_)
  · have hK := ite_p hK h2
    refine hX.1 53 I_Cha_getLeft_49 ok_Cha_getLeft_49 _ _ _ ?_
    refine And.intro (Or.inr rfl) (SG_g hK fun s3 e3 hK => ?_)
    exact hK
  · have hK := ite_n hK h2
    refine hX.1 49 I_Cha_getLeft_48 ok_Cha_getLeft_48 _ _ _ ?_
    refine hX.1 53 I_Cha_getLeft_49 ok_Cha_getLeft_49 _ _ _ ?_
    refine And.intro (Or.inl rfl) (SG_g hK fun s4 e4 hK => ?_)
    exact hK
def f_Cha_getLeft (σ : Sg) (a1 : Int32) : Sg := (if (σ 11 7) = (0 : Int32) then (f_Cha_getLeft_33 σ (((σ 11 3) &&& (65280 : Int32)) ||| a1)) else (f_Cha_getLeft_33 σ (((σ 11 3) &&& (255 : Int32)) ||| (a1 <<< ((8 : Int32) &&& 31 : Int32)))))
abbrev w_Cha_getLeft : List (Nat × Option Nat) := [(11, some 3), (11, some 7)]
theorem p_Cha_getLeft {P : Sg → Prop} (hP : WP w_Cha_getLeft P) {σ : Sg} {a1 : Int32} (h : P σ) : P (f_Cha_getLeft σ a1) := by
  unfold f_Cha_getLeft
  refine ite_z (fun _ => ?_) (fun _ => ?_)
  · exact p_Cha_getLeft_33 (wsub hP rfl) h
  · exact p_Cha_getLeft_33 (wsub hP rfl) h
set_option maxRecDepth 100000 in
set_option maxHeartbeats 4000000 in
theorem s_Cha_getLeft {l : Launch} {ad : Nat → Nat} {D : va_G} {cI : ClassId} {σ : Sg} {a1 : Int32} {K : Option Value → Sg → Prop}   (hK : KV K (f_Cha_getLeft σ a1)) : MetJ l ad D cI mi_Cha_getLeft [.ref 11, .int a1] σ K := by
  refine met_of mi_Cha_getLeft pt_Cha pt_Cha_in rfl pl_Cha rfl (Nat.le_of_ble_eq_true rfl) fun X hX => ?_
  have hX : Cl l ad D cI mi_Cha_getLeft pt_Cha K X := hX
  show X 0 [.ref 11, .int a1] [] σ
  unfold f_Cha_getLeft at hK
  refine hX.1 24 I_Cha_getLeft_0 ok_Cha_getLeft_0 _ _ _ ?_
  refine And.intro (fun h1 => ?_) (fun h1 => ?_)
  · have hK := ite_p hK h1
    refine hX.1 33 I_Cha_getLeft_24 ok_Cha_getLeft_24 _ _ _ ?_
    refine hX.fg [1] ?_
    exact b_Cha_getLeft_33 hX  hK
  · have hK := ite_n hK h1
    refine hX.fg [1] ?_
    exact b_Cha_getLeft_33 hX  hK
def I_Cha_beginTurn_0 : List IT := [(0, .aload_n 0, 1, 0, 0, []), (1, .iconst 0, 1, 0, 0, []), (2, .putfield 17, 3, 0, 0, []), (5, .return_, 1, 0, 0, [])]
theorem ok_Cha_beginTurn_0 : blkOK b_Cha_beginTurn pt_Cha 6 I_Cha_beginTurn_0 = true := by decide +kernel
def f_Cha_beginTurn (σ : Sg)  : Sg := (bnd (up2 σ 11 7 (0 : Int32)) fun s1 => s1)
abbrev w_Cha_beginTurn : List (Nat × Option Nat) := [(11, some 7)]
theorem p_Cha_beginTurn {P : Sg → Prop} (hP : WP w_Cha_beginTurn P) {σ : Sg}  (h : P σ) : P (f_Cha_beginTurn σ ) := by
  unfold f_Cha_beginTurn
  refine bnd_zz (Z := P) (hP _ _ _ _ (Or.inr (by decide)) h) fun s1 e1 q1 => ?_
  exact q1
set_option maxRecDepth 100000 in
set_option maxHeartbeats 4000000 in
theorem s_Cha_beginTurn {l : Launch} {ad : Nat → Nat} {D : va_G} {cI : ClassId} {σ : Sg}  {K : Option Value → Sg → Prop}   (hK : KV K (f_Cha_beginTurn σ )) : MetJ l ad D cI mi_Cha_beginTurn [.ref 11] σ K := by
  refine met_of mi_Cha_beginTurn pt_Cha pt_Cha_in rfl pl_Cha rfl (Nat.le_of_ble_eq_true rfl) fun X hX => ?_
  have hX : Cl l ad D cI mi_Cha_beginTurn pt_Cha K X := hX
  show X 0 [.ref 11] [] σ
  unfold f_Cha_beginTurn at hK
  refine hX.1 6 I_Cha_beginTurn_0 ok_Cha_beginTurn_0 _ _ _ ?_
  refine And.intro (Or.inl rfl) (SG_g hK fun s1 e1 hK => ?_)
  exact hK
def I_Cha_getPage_0 : List IT := [(0, .aload_n 0, 1, 0, 0, []), (1, .iload_n 1, 1, 0, 0, []), (2, .iconst 3, 1, 3, 0, []), (3, .iand, 1, 0, 0, []), (4, .putfield 29, 3, 0, 0, []), (7, .return_, 1, 0, 0, [])]
theorem ok_Cha_getPage_0 : blkOK b_Cha_getPage pt_Cha 8 I_Cha_getPage_0 = true := by decide +kernel
def f_Cha_getPage (σ : Sg) (a1 : Int32) : Sg := (bnd (up2 σ 11 4 (a1 &&& (3 : Int32))) fun s1 => s1)
abbrev w_Cha_getPage : List (Nat × Option Nat) := [(11, some 4)]
theorem p_Cha_getPage {P : Sg → Prop} (hP : WP w_Cha_getPage P) {σ : Sg} {a1 : Int32} (h : P σ) : P (f_Cha_getPage σ a1) := by
  unfold f_Cha_getPage
  refine bnd_zz (Z := P) (hP _ _ _ _ (Or.inr (by decide)) h) fun s1 e1 q1 => ?_
  exact q1
set_option maxRecDepth 100000 in
set_option maxHeartbeats 4000000 in
theorem s_Cha_getPage {l : Launch} {ad : Nat → Nat} {D : va_G} {cI : ClassId} {σ : Sg} {a1 : Int32} {K : Option Value → Sg → Prop}   (hK : KV K (f_Cha_getPage σ a1)) : MetJ l ad D cI mi_Cha_getPage [.ref 11, .int a1] σ K := by
  refine met_of mi_Cha_getPage pt_Cha pt_Cha_in rfl pl_Cha rfl (Nat.le_of_ble_eq_true rfl) fun X hX => ?_
  have hX : Cl l ad D cI mi_Cha_getPage pt_Cha K X := hX
  show X 0 [.ref 11, .int a1] [] σ
  unfold f_Cha_getPage at hK
  refine hX.1 8 I_Cha_getPage_0 ok_Cha_getPage_0 _ _ _ ?_
  refine And.intro trivial (SG_g hK fun s1 e1 hK => ?_)
  exact hK
def I_Cha_getMask_0 : List IT := [(0, .aload_n 0, 1, 0, 0, []), (1, .iload_n 1, 1, 0, 0, []), (2, .iconst 4, 1, 4, 0, []), (3, .iand, 1, 0, 0, []), (4, .ifCond .ne 7, 3, 0, 11, []), (7, .iconst 1, 1, 1, 0, []), (8, .goto 4, 3, 0, 12, [])]
theorem ok_Cha_getMask_0 : blkOK b_Cha_getMask pt_Cha 11 I_Cha_getMask_0 = true := by decide +kernel
def I_Cha_getMask_11 : List IT := [(11, .iconst 0, 1, 0, 0, [])]
theorem ok_Cha_getMask_11 : blkOK b_Cha_getMask pt_Cha 12 I_Cha_getMask_11 = true := by decide +kernel
def I_Cha_getMask_12 : List IT := [(12, .putfield 32, 3, 0, 0, []), (15, .return_, 1, 0, 0, [])]
theorem ok_Cha_getMask_12 : blkOK b_Cha_getMask pt_Cha 16 I_Cha_getMask_12 = true := by decide +kernel
def f_Cha_getMask (σ : Sg) (a1 : Int32) : Sg := (if (a1 &&& (4 : Int32)) = (0 : Int32) then (bnd (up2 σ 11 5 (1 : Int32)) fun s2 => s2) else (bnd (up2 σ 11 5 (0 : Int32)) fun s3 => s3))
abbrev w_Cha_getMask : List (Nat × Option Nat) := [(11, some 5)]
theorem p_Cha_getMask {P : Sg → Prop} (hP : WP w_Cha_getMask P) {σ : Sg} {a1 : Int32} (h : P σ) : P (f_Cha_getMask σ a1) := by
  unfold f_Cha_getMask
  refine ite_z (fun _ => ?_) (fun _ => ?_)
  · refine bnd_zz (Z := P) (hP _ _ _ _ (Or.inr (by decide)) h) fun s2 e2 q2 => ?_
    exact q2
  · refine bnd_zz (Z := P) (hP _ _ _ _ (Or.inr (by decide)) h) fun s3 e3 q3 => ?_
    exact q3
set_option maxRecDepth 100000 in
set_option maxHeartbeats 4000000 in
theorem s_Cha_getMask {l : Launch} {ad : Nat → Nat} {D : va_G} {cI : ClassId} {σ : Sg} {a1 : Int32} {K : Option Value → Sg → Prop}   (hK : KV K (f_Cha_getMask σ a1)) : MetJ l ad D cI mi_Cha_getMask [.ref 11, .int a1] σ K := by
  refine met_of mi_Cha_getMask pt_Cha pt_Cha_in rfl pl_Cha rfl (Nat.le_of_ble_eq_true rfl) fun X hX => ?_
  have hX : Cl l ad D cI mi_Cha_getMask pt_Cha K X := hX
  show X 0 [.ref 11, .int a1] [] σ
  unfold f_Cha_getMask at hK
  refine hX.1 11 I_Cha_getMask_0 ok_Cha_getMask_0 _ _ _ ?_
  refine And.intro (fun h1 => ?_) (fun h1 => ?_)
  · have hK := ite_p hK h1
    refine hX.1 16 I_Cha_getMask_12 ok_Cha_getMask_12 _ _ _ ?_
    refine And.intro (Or.inr rfl) (SG_g hK fun s2 e2 hK => ?_)
    exact hK
  · have hK := ite_n hK h1
    refine hX.1 12 I_Cha_getMask_11 ok_Cha_getMask_11 _ _ _ ?_
    refine hX.1 16 I_Cha_getMask_12 ok_Cha_getMask_12 _ _ _ ?_
    refine And.intro (Or.inl rfl) (SG_g hK fun s3 e3 hK => ?_)
    exact hK
def I_Cha_come_0 : List IT := [(0, .aload_n 0, 1, 0, 0, []), (1, .getfield 32, 3, 0, 0, []), (4, .ifCond .ne 5, 3, 0, 9, []), (7, .iconst 0, 1, 0, 0, []), (8, .ireturn, 1, 0, 0, [])]
theorem ok_Cha_come_0 : blkOK b_Cha_come pt_Cha 9 I_Cha_come_0 = true := by decide +kernel
def I_Cha_come_9 : List IT := [(9, .aload_n 0, 1, 0, 0, []), (10, .getfield 13, 3, 0, 0, []), (13, .sipush 256, 3, 256, 0, []), (16, .aload_n 0, 1, 0, 0, []), (17, .getfield 29, 3, 0, 0, []), (20, .imul, 1, 0, 0, []), (21, .aload_n 0, 1, 0, 0, []), (22, .getfield 21, 3, 0, 0, []), (25, .iadd, 1, 0, 0, []), (26, .iload_n 1, 1, 0, 0, []), (27, .invokevirtual 35, 3, 0, 0, []), (30, .aload_n 0, 1, 0, 0, []), (31, .aload_n 0, 1, 0, 0, []), (32, .getfield 21, 3, 0, 0, []), (35, .iconst 1, 1, 1, 0, []), (36, .iadd, 1, 0, 0, []), (37, .sipush 255, 3, 255, 0, []), (40, .iand, 1, 0, 0, []), (41, .putfield 21, 3, 0, 0, []), (44, .aload_n 0, 1, 0, 0, []), (45, .getfield 25, 3, 0, 0, []), (48, .ifCond .ne 24, 3, 0, 72, []), (51, .aload_n 0, 1, 0, 0, []), (52, .iconst 0, 1, 0, 0, []), (53, .putfield 32, 3, 0, 0, []), (56, .aload_n 0, 1, 0, 0, []), (57, .iconst 1, 1, 1, 0, []), (58, .putfield 41, 3, 0, 0, []), (61, .aload_n 0, 1, 0, 0, []), (62, .getfield 7, 3, 0, 0, []), (65, .iconst 2, 1, 2, 0, []), (66, .invokevirtual 44, 3, 0, 0, []), (69, .goto 13, 3, 0, 82, [])]
theorem ok_Cha_come_9 : blkOK b_Cha_come pt_Cha 72 I_Cha_come_9 = true := by decide +kernel
def I_Cha_come_72 : List IT := [(72, .aload_n 0, 1, 0, 0, []), (73, .dup, 1, 0, 0, []), (74, .getfield 25, 3, 0, 0, []), (77, .iconst 1, 1, 1, 0, []), (78, .isub, 1, 0, 0, []), (79, .putfield 25, 3, 0, 0, [])]
theorem ok_Cha_come_72 : blkOK b_Cha_come pt_Cha 82 I_Cha_come_72 = true := by decide +kernel
def I_Cha_come_82 : List IT := [(82, .iconst 1, 1, 1, 0, []), (83, .ireturn, 1, 0, 0, [])]
theorem ok_Cha_come_82 : blkOK b_Cha_come pt_Cha 84 I_Cha_come_82 = true := by decide +kernel
def f_Cha_come (σ : Sg) (a1 : Int32) : Int32 × Sg := (if (σ 11 5) = (0 : Int32) then ((0 : Int32), σ) else (bnd (f_Mem_setByteAt σ (((256 : Int32) * (σ 11 4)) + (σ 11 2)) a1) fun r2 => bnd (up2 r2 11 2 (((r2 11 2) + (1 : Int32)) &&& (255 : Int32))) fun s3 => (if (s3 11 3) = (0 : Int32) then (bnd (up2 s3 11 5 (0 : Int32)) fun s5 => bnd (up2 s5 11 6 (1 : Int32)) fun s6 => bnd (f_Ctl_request s6 (2 : Int32)) fun r7 => ((1 : Int32), r7)) else (bnd (up2 s3 11 3 ((s3 11 3) - (1 : Int32))) fun s8 => ((1 : Int32), s8)))))
theorem z_Cha_come {σ : Sg} {a1 : Int32}   : (f_Cha_come σ a1).1 = 0 ∨ (f_Cha_come σ a1).1 = 1 := by
  show Zb (f_Cha_come σ a1)
  unfold f_Cha_come
  refine ite_z (fun h1 => ?_) (fun h1 => ?_)
  · exact (Or.inl rfl)
  · refine bnd_z fun r2 e2 => ?_
    refine bnd_z fun s3 e3 => ?_
    refine ite_z (fun h4 => ?_) (fun h4 => ?_)
    · refine bnd_z fun s5 e5 => ?_
      refine bnd_z fun s6 e6 => ?_
      refine bnd_z fun r7 e7 => ?_
      exact (Or.inr rfl)
    · refine bnd_z fun s8 e8 => ?_
      exact (Or.inr rfl)
abbrev w_Cha_come : List (Nat × Option Nat) := [(2, none), (7, some 0), (11, some 2), (11, some 3), (11, some 5), (11, some 6)]
theorem p_Cha_come {P : Sg → Prop} (hP : WP w_Cha_come P) {σ : Sg} {a1 : Int32} (h : P σ) : PP P (f_Cha_come σ a1) := by
  unfold f_Cha_come
  refine ite_z (fun _ => ?_) (fun _ => ?_)
  · exact h
  · refine bnd_zz (Z := P) (p_Mem_setByteAt (wsub hP rfl) h) fun r2 e2 q2 => ?_
    refine bnd_zz (Z := P) (hP _ _ _ _ (Or.inr (by decide)) q2) fun s3 e3 q3 => ?_
    refine ite_z (fun _ => ?_) (fun _ => ?_)
    · refine bnd_zz (Z := P) (hP _ _ _ _ (Or.inr (by decide)) q3) fun s5 e5 q5 => ?_
      refine bnd_zz (Z := P) (hP _ _ _ _ (Or.inr (by decide)) q5) fun s6 e6 q6 => ?_
      refine bnd_zz (Z := P) (p_Ctl_request (wsub hP rfl) q6) fun r7 e7 q7 => ?_
      exact q7
    · refine bnd_zz (Z := P) (hP _ _ _ _ (Or.inr (by decide)) q3) fun s8 e8 q8 => ?_
      exact q8
set_option maxRecDepth 100000 in
set_option maxHeartbeats 4000000 in
theorem s_Cha_come {l : Launch} {ad : Nat → Nat} {D : va_G} {cI : ClassId} {σ : Sg} {a1 : Int32} {K : Option Value → Sg → Prop}   (hK : KI K (f_Cha_come σ a1)) : MetJ l ad D cI mi_Cha_come [.ref 11, .int a1] σ K := by
  refine met_of mi_Cha_come pt_Cha pt_Cha_in rfl pl_Cha rfl (Nat.le_of_ble_eq_true rfl) fun X hX => ?_
  have hX : Cl l ad D cI mi_Cha_come pt_Cha K X := hX
  show X 0 [.ref 11, .int a1] [] σ
  unfold f_Cha_come at hK
  refine hX.1 9 I_Cha_come_0 ok_Cha_come_0 _ _ _ ?_
  refine And.intro (fun h1 => ?_) (fun h1 => ?_)
  · have hK := ite_p hK h1
    exact And.intro (Or.inl rfl) hK
  · have hK := ite_n hK h1
    refine hX.1 72 I_Cha_come_9 ok_Cha_come_9 _ _ _ ?_
    refine s_Mem_setByteAt (bnd_g hK fun r2 e2 hK => ?_)
    refine And.intro trivial (SG_g hK fun s3 e3 hK => ?_)
    refine And.intro (fun h4 => ?_) (fun h4 => ?_)
    · have hK := ite_p hK h4
      refine And.intro (Or.inl rfl) (SG_g hK fun s5 e5 hK => ?_)
      refine And.intro (Or.inr rfl) (SG_g hK fun s6 e6 hK => ?_)
      refine s_Ctl_request (bnd_g hK fun r7 e7 hK => ?_)
      refine hX.1 84 I_Cha_come_82 ok_Cha_come_82 _ _ _ ?_
      exact And.intro (Or.inr rfl) hK
    · have hK := ite_n hK h4
      refine hX.1 82 I_Cha_come_72 ok_Cha_come_72 _ _ _ ?_
      refine And.intro trivial (SG_g hK fun s8 e8 hK => ?_)
      refine hX.1 84 I_Cha_come_82 ok_Cha_come_82 _ _ _ ?_
      exact And.intro (Or.inr rfl) hK
def I_Cha_answerDone_0 : List IT := [(0, .aload_n 0, 1, 0, 0, []), (1, .getfield 41, 3, 0, 0, []), (4, .ifCond .eq 7, 3, 0, 11, []), (7, .iconst 2, 1, 2, 0, []), (8, .goto 4, 3, 0, 12, [])]
theorem ok_Cha_answerDone_0 : blkOK b_Cha_answerDone pt_Cha 11 I_Cha_answerDone_0 = true := by decide +kernel
def I_Cha_answerDone_11 : List IT := [(11, .iconst 0, 1, 0, 0, [])]
theorem ok_Cha_answerDone_11 : blkOK b_Cha_answerDone pt_Cha 12 I_Cha_answerDone_11 = true := by decide +kernel
def I_Cha_answerDone_12 : List IT := [(12, .istore_n 1, 1, 0, 0, []), (13, .aload_n 0, 1, 0, 0, []), (14, .iconst 0, 1, 0, 0, []), (15, .putfield 41, 3, 0, 0, []), (18, .iload_n 1, 1, 0, 0, []), (19, .ireturn, 1, 0, 0, [])]
theorem ok_Cha_answerDone_12 : blkOK b_Cha_answerDone pt_Cha 20 I_Cha_answerDone_12 = true := by decide +kernel
def f_Cha_answerDone (σ : Sg)  : Int32 × Sg := (if (σ 11 6) = (0 : Int32) then (bnd (up2 σ 11 6 (0 : Int32)) fun s2 => ((0 : Int32), s2)) else (bnd (up2 σ 11 6 (0 : Int32)) fun s3 => ((2 : Int32), s3)))
abbrev w_Cha_answerDone : List (Nat × Option Nat) := [(11, some 6)]
theorem p_Cha_answerDone {P : Sg → Prop} (hP : WP w_Cha_answerDone P) {σ : Sg}  (h : P σ) : PP P (f_Cha_answerDone σ ) := by
  unfold f_Cha_answerDone
  refine ite_z (fun _ => ?_) (fun _ => ?_)
  · refine bnd_zz (Z := P) (hP _ _ _ _ (Or.inr (by decide)) h) fun s2 e2 q2 => ?_
    exact q2
  · refine bnd_zz (Z := P) (hP _ _ _ _ (Or.inr (by decide)) h) fun s3 e3 q3 => ?_
    exact q3
set_option maxRecDepth 100000 in
set_option maxHeartbeats 4000000 in
theorem s_Cha_answerDone {l : Launch} {ad : Nat → Nat} {D : va_G} {cI : ClassId} {σ : Sg}  {K : Option Value → Sg → Prop}   (hK : KI K (f_Cha_answerDone σ )) : MetJ l ad D cI mi_Cha_answerDone [.ref 11] σ K := by
  refine met_of mi_Cha_answerDone pt_Cha pt_Cha_in rfl pl_Cha rfl (Nat.le_of_ble_eq_true rfl) fun X hX => ?_
  have hX : Cl l ad D cI mi_Cha_answerDone pt_Cha K X := hX
  show X 0 [.ref 11, .null] [] σ
  unfold f_Cha_answerDone at hK
  refine hX.1 11 I_Cha_answerDone_0 ok_Cha_answerDone_0 _ _ _ ?_
  refine And.intro (fun h1 => ?_) (fun h1 => ?_)
  · have hK := ite_p hK h1
    refine hX.1 12 I_Cha_answerDone_11 ok_Cha_answerDone_11 _ _ _ ?_
    refine hX.1 20 I_Cha_answerDone_12 ok_Cha_answerDone_12 _ _ _ ?_
    refine And.intro (Or.inl rfl) (SG_g hK fun s2 e2 hK => ?_)
    exact hK
  · have hK := ite_n hK h1
    refine hX.1 20 I_Cha_answerDone_12 ok_Cha_answerDone_12 _ _ _ ?_
    refine And.intro (Or.inl rfl) (SG_g hK fun s3 e3 hK => ?_)
    exact hK
def I_Por_answer_0 : List IT := [(0, .iload_n 1, 1, 0, 0, []), (1, .lookupswitch 107 #[(8, 59), (32, 67), (33, 75), (64, 83), (96, 91), (100, 99)], 59, 0, 108, [(8, 60), (32, 68), (33, 76), (64, 84), (96, 92), (100, 100)])]
theorem ok_Por_answer_0 : blkOK b_Por_answer pt_Por 60 I_Por_answer_0 = true := by decide +kernel
def I_Por_answer_60 : List IT := [(60, .aload_n 0, 1, 0, 0, []), (61, .getfield 21, 3, 0, 0, []), (64, .invokevirtual 25, 3, 0, 0, []), (67, .ireturn, 1, 0, 0, [])]
theorem ok_Por_answer_60 : blkOK b_Por_answer pt_Por 68 I_Por_answer_60 = true := by decide +kernel
def I_Por_answer_68 : List IT := [(68, .aload_n 0, 1, 0, 0, []), (69, .getfield 7, 3, 0, 0, []), (72, .invokevirtual 31, 3, 0, 0, []), (75, .ireturn, 1, 0, 0, [])]
theorem ok_Por_answer_68 : blkOK b_Por_answer pt_Por 76 I_Por_answer_68 = true := by decide +kernel
def I_Por_answer_76 : List IT := [(76, .aload_n 0, 1, 0, 0, []), (77, .getfield 7, 3, 0, 0, []), (80, .getfield 36, 3, 0, 0, []), (83, .ireturn, 1, 0, 0, [])]
theorem ok_Por_answer_76 : blkOK b_Por_answer pt_Por 84 I_Por_answer_76 = true := by decide +kernel
def I_Por_answer_84 : List IT := [(84, .aload_n 0, 1, 0, 0, []), (85, .getfield 13, 3, 0, 0, []), (88, .invokevirtual 40, 3, 0, 0, []), (91, .ireturn, 1, 0, 0, [])]
theorem ok_Por_answer_84 : blkOK b_Por_answer pt_Por 92 I_Por_answer_84 = true := by decide +kernel
def I_Por_answer_92 : List IT := [(92, .aload_n 0, 1, 0, 0, []), (93, .getfield 17, 3, 0, 0, []), (96, .invokevirtual 45, 3, 0, 0, []), (99, .ireturn, 1, 0, 0, [])]
theorem ok_Por_answer_92 : blkOK b_Por_answer pt_Por 100 I_Por_answer_92 = true := by decide +kernel
def I_Por_answer_100 : List IT := [(100, .aload_n 0, 1, 0, 0, []), (101, .getfield 17, 3, 0, 0, []), (104, .invokevirtual 50, 3, 0, 0, []), (107, .ireturn, 1, 0, 0, [])]
theorem ok_Por_answer_100 : blkOK b_Por_answer pt_Por 108 I_Por_answer_100 = true := by decide +kernel
def I_Por_answer_108 : List IT := [(108, .sipush 255, 3, 255, 0, []), (111, .ireturn, 1, 0, 0, [])]
theorem ok_Por_answer_108 : blkOK b_Por_answer pt_Por 112 I_Por_answer_108 = true := by decide +kernel
def f_Por_answer (σ : Sg) (a1 : Int32) : Int32 × Sg := (if a1 = (8 : Int32) then (bnd (f_Cha_answerDone σ) fun r2 => (r2.1, r2.2)) else (if a1 = (32 : Int32) then (bnd (f_Ctl_shown σ) fun r4 => (r4.1, r4.2)) else (if a1 = (33 : Int32) then ((σ 7 2), σ) else (if a1 = (64 : Int32) then (bnd (f_Tim_answer σ) fun r7 => (r7.1, r7.2)) else (if a1 = (96 : Int32) then (bnd (f_Key_take σ) fun r9 => (r9.1, r9.2)) else (if a1 = (100 : Int32) then (bnd (f_Key_answerWaiting σ) fun r11 => (r11.1, r11.2)) else ((255 : Int32), σ)))))))
abbrev w_Por_answer : List (Nat × Option Nat) := [(7, some 0), (8, some 5), (8, some 6), (9, some 2), (10, none), (11, some 6)]
theorem p_Por_answer {P : Sg → Prop} (hP : WP w_Por_answer P) {σ : Sg} {a1 : Int32} (h : P σ) : PP P (f_Por_answer σ a1) := by
  unfold f_Por_answer
  refine ite_z (fun _ => ?_) (fun _ => ?_)
  · refine bnd_zz (Z := PP P) (p_Cha_answerDone (wsub hP rfl) h) fun r2 e2 q2 => ?_
    exact q2
  refine ite_z (fun _ => ?_) (fun _ => ?_)
  · refine bnd_zz (Z := PP P) (p_Ctl_shown (wsub hP rfl) h) fun r4 e4 q4 => ?_
    exact q4
  refine ite_z (fun _ => ?_) (fun _ => ?_)
  · exact h
  refine ite_z (fun _ => ?_) (fun _ => ?_)
  · refine bnd_zz (Z := PP P) (p_Tim_answer (wsub hP rfl) h) fun r7 e7 q7 => ?_
    exact q7
  refine ite_z (fun _ => ?_) (fun _ => ?_)
  · refine bnd_zz (Z := PP P) (p_Key_take (wsub hP rfl) h) fun r9 e9 q9 => ?_
    exact q9
  refine ite_z (fun _ => ?_) (fun _ => ?_)
  · refine bnd_zz (Z := PP P) (p_Key_answerWaiting (wsub hP rfl) h) fun r11 e11 q11 => ?_
    exact q11
  exact h
set_option maxRecDepth 100000 in
set_option maxHeartbeats 4000000 in
theorem s_Por_answer {l : Launch} {ad : Nat → Nat} {D : va_G} {cI : ClassId} {σ : Sg} {a1 : Int32} {K : Option Value → Sg → Prop}   (hK : KI K (f_Por_answer σ a1)) : MetJ l ad D cI mi_Por_answer [.ref 13, .int a1] σ K := by
  refine met_of mi_Por_answer pt_Por pt_Por_in rfl pl_Por rfl (Nat.le_of_ble_eq_true rfl) fun X hX => ?_
  have hX : Cl l ad D cI mi_Por_answer pt_Por K X := hX
  show X 0 [.ref 13, .int a1] [] σ
  unfold f_Por_answer at hK
  refine hX.1 60 I_Por_answer_0 ok_Por_answer_0 _ _ _ ?_
  refine And.intro (fun h1 => ?_) (fun h1 => ?_)
  · have hK := ite_p hK h1
    refine hX.1 68 I_Por_answer_60 ok_Por_answer_60 _ _ _ ?_
    refine s_Cha_answerDone (bnd_g hK fun r2 e2 hK => ?_)
    exact hK
  have hK := ite_n hK h1
  refine And.intro (fun h3 => ?_) (fun h3 => ?_)
  · have hK := ite_p hK h3
    refine hX.1 76 I_Por_answer_68 ok_Por_answer_68 _ _ _ ?_
    refine s_Ctl_shown (bnd_g hK fun r4 e4 hK => ?_)
    exact hK
  have hK := ite_n hK h3
  refine And.intro (fun h5 => ?_) (fun h5 => ?_)
  · have hK := ite_p hK h5
    refine hX.1 84 I_Por_answer_76 ok_Por_answer_76 _ _ _ ?_
    exact hK
  have hK := ite_n hK h5
  refine And.intro (fun h6 => ?_) (fun h6 => ?_)
  · have hK := ite_p hK h6
    refine hX.1 92 I_Por_answer_84 ok_Por_answer_84 _ _ _ ?_
    refine s_Tim_answer (bnd_g hK fun r7 e7 hK => ?_)
    exact hK
  have hK := ite_n hK h6
  refine And.intro (fun h8 => ?_) (fun h8 => ?_)
  · have hK := ite_p hK h8
    refine hX.1 100 I_Por_answer_92 ok_Por_answer_92 _ _ _ ?_
    refine s_Key_take (bnd_g hK fun r9 e9 hK => ?_)
    exact hK
  have hK := ite_n hK h8
  refine And.intro (fun h10 => ?_) (fun h10 => ?_)
  · have hK := ite_p hK h10
    refine hX.1 108 I_Por_answer_100 ok_Por_answer_100 _ _ _ ?_
    refine s_Key_answerWaiting (bnd_g hK fun r11 e11 hK => ?_)
    exact hK
  have hK := ite_n hK h10
  refine hX.1 112 I_Por_answer_108 ok_Por_answer_108 _ _ _ ?_
  exact hK
def I_Por_get_0 : List IT := [(0, .iload_n 1, 1, 0, 0, []), (1, .lookupswitch 162 #[(2, 75), (3, 86), (10, 97), (12, 108), (32, 118), (33, 129), (64, 140), (131, 151)], 75, 0, 163, [(2, 76), (3, 87), (10, 98), (12, 109), (32, 119), (33, 130), (64, 141), (131, 152)])]
theorem ok_Por_get_0 : blkOK b_Por_get pt_Por 76 I_Por_get_0 = true := by decide +kernel
def I_Por_get_76 : List IT := [(76, .aload_n 0, 1, 0, 0, []), (77, .getfield 21, 3, 0, 0, []), (80, .iload_n 2, 1, 0, 0, []), (81, .invokevirtual 53, 3, 0, 0, []), (84, .goto 79, 3, 0, 163, [])]
theorem ok_Por_get_76 : blkOK b_Por_get pt_Por 87 I_Por_get_76 = true := by decide +kernel
def I_Por_get_87 : List IT := [(87, .aload_n 0, 1, 0, 0, []), (88, .getfield 21, 3, 0, 0, []), (91, .iload_n 2, 1, 0, 0, []), (92, .invokevirtual 57, 3, 0, 0, []), (95, .goto 68, 3, 0, 163, [])]
theorem ok_Por_get_87 : blkOK b_Por_get pt_Por 98 I_Por_get_87 = true := by decide +kernel
def I_Por_get_98 : List IT := [(98, .aload_n 0, 1, 0, 0, []), (99, .getfield 21, 3, 0, 0, []), (102, .iload_n 2, 1, 0, 0, []), (103, .invokevirtual 60, 3, 0, 0, []), (106, .goto 57, 3, 0, 163, [])]
theorem ok_Por_get_98 : blkOK b_Por_get pt_Por 109 I_Por_get_98 = true := by decide +kernel
def I_Por_get_109 : List IT := [(109, .aload_n 0, 1, 0, 0, []), (110, .getfield 21, 3, 0, 0, []), (113, .invokevirtual 63, 3, 0, 0, []), (116, .goto 47, 3, 0, 163, [])]
theorem ok_Por_get_109 : blkOK b_Por_get pt_Por 119 I_Por_get_109 = true := by decide +kernel
def I_Por_get_119 : List IT := [(119, .aload_n 0, 1, 0, 0, []), (120, .getfield 7, 3, 0, 0, []), (123, .iload_n 2, 1, 0, 0, []), (124, .invokevirtual 66, 3, 0, 0, []), (127, .goto 36, 3, 0, 163, [])]
theorem ok_Por_get_119 : blkOK b_Por_get pt_Por 130 I_Por_get_119 = true := by decide +kernel
def I_Por_get_130 : List IT := [(130, .aload_n 0, 1, 0, 0, []), (131, .getfield 7, 3, 0, 0, []), (134, .iload_n 2, 1, 0, 0, []), (135, .putfield 36, 3, 0, 0, []), (138, .goto 25, 3, 0, 163, [])]
theorem ok_Por_get_130 : blkOK b_Por_get pt_Por 141 I_Por_get_130 = true := by decide +kernel
def I_Por_get_141 : List IT := [(141, .aload_n 0, 1, 0, 0, []), (142, .getfield 13, 3, 0, 0, []), (145, .iload_n 2, 1, 0, 0, []), (146, .invokevirtual 69, 3, 0, 0, []), (149, .goto 14, 3, 0, 163, [])]
theorem ok_Por_get_141 : blkOK b_Por_get pt_Por 152 I_Por_get_141 = true := by decide +kernel
def I_Por_get_152 : List IT := [(152, .aload_n 0, 1, 0, 0, []), (153, .getfield 21, 3, 0, 0, []), (156, .iload_n 2, 1, 0, 0, []), (157, .invokevirtual 72, 3, 0, 0, []), (160, .goto 3, 3, 0, 163, [])]
theorem ok_Por_get_152 : blkOK b_Por_get pt_Por 163 I_Por_get_152 = true := by decide +kernel
def I_Por_get_163 : List IT := [(163, .return_, 1, 0, 0, [])]
theorem ok_Por_get_163 : blkOK b_Por_get pt_Por 164 I_Por_get_163 = true := by decide +kernel
def f_Por_get (σ : Sg) (a1 : Int32) (a2 : Int32) : Sg := (if a1 = (2 : Int32) then (bnd (f_Cha_getPlace σ a2) fun r2 => r2) else (if a1 = (3 : Int32) then (bnd (f_Cha_getLeft σ a2) fun r4 => r4) else (if a1 = (10 : Int32) then (bnd (f_Cha_getMask σ a2) fun r6 => r6) else (if a1 = (12 : Int32) then (bnd (f_Cha_beginTurn σ) fun r8 => r8) else (if a1 = (32 : Int32) then (bnd (f_Ctl_command σ a2) fun r10 => r10) else (if a1 = (33 : Int32) then (bnd (up2 σ 7 2 a2) fun s12 => s12) else (if a1 = (64 : Int32) then (bnd (f_Tim_get σ a2) fun r14 => r14) else (if a1 = (131 : Int32) then (bnd (f_Cha_getPage σ a2) fun r16 => r16) else σ))))))))
abbrev w_Por_get : List (Nat × Option Nat) := [(7, some 1), (7, some 2), (7, some 3), (8, some 1), (8, some 2), (8, some 3), (8, some 4), (11, some 2), (11, some 3), (11, some 4), (11, some 5), (11, some 7)]
theorem p_Por_get {P : Sg → Prop} (hP : WP w_Por_get P) {σ : Sg} {a1 : Int32} {a2 : Int32} (h : P σ) : P (f_Por_get σ a1 a2) := by
  unfold f_Por_get
  refine ite_z (fun _ => ?_) (fun _ => ?_)
  · refine bnd_zz (Z := P) (p_Cha_getPlace (wsub hP rfl) h) fun r2 e2 q2 => ?_
    exact q2
  refine ite_z (fun _ => ?_) (fun _ => ?_)
  · refine bnd_zz (Z := P) (p_Cha_getLeft (wsub hP rfl) h) fun r4 e4 q4 => ?_
    exact q4
  refine ite_z (fun _ => ?_) (fun _ => ?_)
  · refine bnd_zz (Z := P) (p_Cha_getMask (wsub hP rfl) h) fun r6 e6 q6 => ?_
    exact q6
  refine ite_z (fun _ => ?_) (fun _ => ?_)
  · refine bnd_zz (Z := P) (p_Cha_beginTurn (wsub hP rfl) h) fun r8 e8 q8 => ?_
    exact q8
  refine ite_z (fun _ => ?_) (fun _ => ?_)
  · refine bnd_zz (Z := P) (p_Ctl_command (wsub hP rfl) h) fun r10 e10 q10 => ?_
    exact q10
  refine ite_z (fun _ => ?_) (fun _ => ?_)
  · refine bnd_zz (Z := P) (hP _ _ _ _ (Or.inr (by decide)) h) fun s12 e12 q12 => ?_
    exact q12
  refine ite_z (fun _ => ?_) (fun _ => ?_)
  · refine bnd_zz (Z := P) (p_Tim_get (wsub hP rfl) h) fun r14 e14 q14 => ?_
    exact q14
  refine ite_z (fun _ => ?_) (fun _ => ?_)
  · refine bnd_zz (Z := P) (p_Cha_getPage (wsub hP rfl) h) fun r16 e16 q16 => ?_
    exact q16
  exact h
set_option maxRecDepth 100000 in
set_option maxHeartbeats 4000000 in
theorem s_Por_get {l : Launch} {ad : Nat → Nat} {D : va_G} {cI : ClassId} {σ : Sg} {a1 : Int32} {a2 : Int32} {K : Option Value → Sg → Prop}   (hK : KV K (f_Por_get σ a1 a2)) : MetJ l ad D cI mi_Por_get [.ref 13, .int a1, .int a2] σ K := by
  refine met_of mi_Por_get pt_Por pt_Por_in rfl pl_Por rfl (Nat.le_of_ble_eq_true rfl) fun X hX => ?_
  have hX : Cl l ad D cI mi_Por_get pt_Por K X := hX
  show X 0 [.ref 13, .int a1, .int a2] [] σ
  unfold f_Por_get at hK
  refine hX.1 76 I_Por_get_0 ok_Por_get_0 _ _ _ ?_
  refine And.intro (fun h1 => ?_) (fun h1 => ?_)
  · have hK := ite_p hK h1
    refine hX.1 87 I_Por_get_76 ok_Por_get_76 _ _ _ ?_
    refine s_Cha_getPlace (bnd_g hK fun r2 e2 hK => ?_)
    refine hX.1 164 I_Por_get_163 ok_Por_get_163 _ _ _ ?_
    exact hK
  have hK := ite_n hK h1
  refine And.intro (fun h3 => ?_) (fun h3 => ?_)
  · have hK := ite_p hK h3
    refine hX.1 98 I_Por_get_87 ok_Por_get_87 _ _ _ ?_
    refine s_Cha_getLeft (bnd_g hK fun r4 e4 hK => ?_)
    refine hX.1 164 I_Por_get_163 ok_Por_get_163 _ _ _ ?_
    exact hK
  have hK := ite_n hK h3
  refine And.intro (fun h5 => ?_) (fun h5 => ?_)
  · have hK := ite_p hK h5
    refine hX.1 109 I_Por_get_98 ok_Por_get_98 _ _ _ ?_
    refine s_Cha_getMask (bnd_g hK fun r6 e6 hK => ?_)
    refine hX.1 164 I_Por_get_163 ok_Por_get_163 _ _ _ ?_
    exact hK
  have hK := ite_n hK h5
  refine And.intro (fun h7 => ?_) (fun h7 => ?_)
  · have hK := ite_p hK h7
    refine hX.1 119 I_Por_get_109 ok_Por_get_109 _ _ _ ?_
    refine s_Cha_beginTurn (bnd_g hK fun r8 e8 hK => ?_)
    refine hX.1 164 I_Por_get_163 ok_Por_get_163 _ _ _ ?_
    exact hK
  have hK := ite_n hK h7
  refine And.intro (fun h9 => ?_) (fun h9 => ?_)
  · have hK := ite_p hK h9
    refine hX.1 130 I_Por_get_119 ok_Por_get_119 _ _ _ ?_
    refine s_Ctl_command (bnd_g hK fun r10 e10 hK => ?_)
    refine hX.1 164 I_Por_get_163 ok_Por_get_163 _ _ _ ?_
    exact hK
  have hK := ite_n hK h9
  refine And.intro (fun h11 => ?_) (fun h11 => ?_)
  · have hK := ite_p hK h11
    refine hX.1 141 I_Por_get_130 ok_Por_get_130 _ _ _ ?_
    refine And.intro trivial (SG_g hK fun s12 e12 hK => ?_)
    refine hX.1 164 I_Por_get_163 ok_Por_get_163 _ _ _ ?_
    exact hK
  have hK := ite_n hK h11
  refine And.intro (fun h13 => ?_) (fun h13 => ?_)
  · have hK := ite_p hK h13
    refine hX.1 152 I_Por_get_141 ok_Por_get_141 _ _ _ ?_
    refine s_Tim_get (bnd_g hK fun r14 e14 hK => ?_)
    refine hX.1 164 I_Por_get_163 ok_Por_get_163 _ _ _ ?_
    exact hK
  have hK := ite_n hK h13
  refine And.intro (fun h15 => ?_) (fun h15 => ?_)
  · have hK := ite_p hK h15
    refine hX.1 163 I_Por_get_152 ok_Por_get_152 _ _ _ ?_
    refine s_Cha_getPage (bnd_g hK fun r16 e16 hK => ?_)
    refine hX.1 164 I_Por_get_163 ok_Por_get_163 _ _ _ ?_
    exact hK
  have hK := ite_n hK h15
  refine hX.1 164 I_Por_get_163 ok_Por_get_163 _ _ _ ?_
  exact hK
