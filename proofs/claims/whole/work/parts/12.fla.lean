def I_Fla_on_0 : List IT := [(0, .aload_n 0, 1, 0, 0, []), (1, .getfield 9, 3, 0, 0, []), (4, .iload_n 1, 1, 0, 0, []), (5, .iand, 1, 0, 0, []), (6, .ifCond .eq 7, 3, 0, 13, []), (9, .iconst 1, 1, 1, 0, []), (10, .goto 4, 3, 0, 14, [])]
theorem ok_Fla_on_0 : blkOK b_Fla_on pt_Fla 13 I_Fla_on_0 = true := by decide +kernel
def I_Fla_on_13 : List IT := [(13, .iconst 0, 1, 0, 0, [])]
theorem ok_Fla_on_13 : blkOK b_Fla_on pt_Fla 14 I_Fla_on_13 = true := by decide +kernel
def I_Fla_on_14 : List IT := [(14, .ireturn, 1, 0, 0, [])]
theorem ok_Fla_on_14 : blkOK b_Fla_on pt_Fla 15 I_Fla_on_14 = true := by decide +kernel
def f_Fla_on (σ : Sg) (a1 : Int32) : Int32 × Sg := (if ((σ 6 0) &&& a1) = (0 : Int32) then ((0 : Int32), σ) else ((1 : Int32), σ))
theorem z_Fla_on {σ : Sg} {a1 : Int32}   : (f_Fla_on σ a1).1 = 0 ∨ (f_Fla_on σ a1).1 = 1 := by
  show Zb (f_Fla_on σ a1)
  unfold f_Fla_on
  refine ite_z (fun h1 => ?_) (fun h1 => ?_)
  · exact (Or.inl rfl)
  · exact (Or.inr rfl)
abbrev w_Fla_on : List (Nat × Option Nat) := []
theorem p_Fla_on {P : Sg → Prop} (hP : WP w_Fla_on P) {σ : Sg} {a1 : Int32} (h : P σ) : PP P (f_Fla_on σ a1) := by
  unfold f_Fla_on
  refine ite_z (fun _ => ?_) (fun _ => ?_)
  · exact h
  · exact h
set_option maxRecDepth 100000 in
set_option maxHeartbeats 4000000 in
theorem s_Fla_on {l : Launch} {ad : Nat → Nat} {D : va_G} {cI : ClassId} {σ : Sg} {a1 : Int32} {K : Option Value → Sg → Prop}   (hK : KI K (f_Fla_on σ a1)) : MetJ l ad D cI mi_Fla_on [.ref 6, .int a1] σ K := by
  refine met_of mi_Fla_on pt_Fla pt_Fla_in rfl pl_Fla rfl (Nat.le_of_ble_eq_true rfl) fun X hX => ?_
  have hX : Cl l ad D cI mi_Fla_on pt_Fla K X := hX
  show X 0 [.ref 6, .int a1] [] σ
  unfold f_Fla_on at hK
  refine hX.1 13 I_Fla_on_0 ok_Fla_on_0 _ _ _ ?_
  refine And.intro (fun h1 => ?_) (fun h1 => ?_)
  · have hK := ite_p hK h1
    refine hX.1 14 I_Fla_on_13 ok_Fla_on_13 _ _ _ ?_
    refine hX.1 15 I_Fla_on_14 ok_Fla_on_14 _ _ _ ?_
    exact And.intro (Or.inl rfl) hK
  · have hK := ite_n hK h1
    refine hX.1 15 I_Fla_on_14 ok_Fla_on_14 _ _ _ ?_
    exact And.intro (Or.inr rfl) hK
def I_Fla_set_0 : List IT := [(0, .aload_n 0, 1, 0, 0, []), (1, .iload_n 2, 1, 0, 0, []), (2, .ifCond .eq 12, 3, 0, 14, []), (5, .aload_n 0, 1, 0, 0, []), (6, .getfield 9, 3, 0, 0, []), (9, .iload_n 1, 1, 0, 0, []), (10, .ior, 1, 0, 0, []), (11, .goto 11, 3, 0, 22, [])]
theorem ok_Fla_set_0 : blkOK b_Fla_set pt_Fla 14 I_Fla_set_0 = true := by decide +kernel
def I_Fla_set_14 : List IT := [(14, .aload_n 0, 1, 0, 0, []), (15, .getfield 9, 3, 0, 0, []), (18, .iload_n 1, 1, 0, 0, []), (19, .iconst (-1), 1, (-1), 0, []), (20, .ixor, 1, 0, 0, []), (21, .iand, 1, 0, 0, [])]
theorem ok_Fla_set_14 : blkOK b_Fla_set pt_Fla 22 I_Fla_set_14 = true := by decide +kernel
def I_Fla_set_22 : List IT := [(22, .putfield 9, 3, 0, 0, []), (25, .return_, 1, 0, 0, [])]
theorem ok_Fla_set_22 : blkOK b_Fla_set pt_Fla 26 I_Fla_set_22 = true := by decide +kernel
def f_Fla_set (σ : Sg) (a1 : Int32) (a2 : Int32) : Sg := (if a2 = (0 : Int32) then (bnd (up2 σ 6 0 ((σ 6 0) &&& (a1 ^^^ (-1 : Int32)))) fun s2 => s2) else (bnd (up2 σ 6 0 ((σ 6 0) ||| a1)) fun s3 => s3))
abbrev w_Fla_set : List (Nat × Option Nat) := [(6, some 0)]
theorem p_Fla_set {P : Sg → Prop} (hP : WP w_Fla_set P) {σ : Sg} {a1 : Int32} {a2 : Int32} (h : P σ) : P (f_Fla_set σ a1 a2) := by
  unfold f_Fla_set
  refine ite_z (fun _ => ?_) (fun _ => ?_)
  · refine bnd_zz (Z := P) (hP _ _ _ _ (Or.inr (by decide)) h) fun s2 e2 q2 => ?_
    exact q2
  · refine bnd_zz (Z := P) (hP _ _ _ _ (Or.inr (by decide)) h) fun s3 e3 q3 => ?_
    exact q3
set_option maxRecDepth 100000 in
set_option maxHeartbeats 4000000 in
theorem s_Fla_set {l : Launch} {ad : Nat → Nat} {D : va_G} {cI : ClassId} {σ : Sg} {a1 : Int32} {a2 : Int32} {K : Option Value → Sg → Prop}   (hK : KV K (f_Fla_set σ a1 a2)) : MetJ l ad D cI mi_Fla_set [.ref 6, .int a1, .int a2] σ K := by
  refine met_of mi_Fla_set pt_Fla pt_Fla_in rfl pl_Fla rfl (Nat.le_of_ble_eq_true rfl) fun X hX => ?_
  have hX : Cl l ad D cI mi_Fla_set pt_Fla K X := hX
  show X 0 [.ref 6, .int a1, .int a2] [] σ
  unfold f_Fla_set at hK
  refine hX.1 14 I_Fla_set_0 ok_Fla_set_0 _ _ _ ?_
  refine And.intro (fun h1 => ?_) (fun h1 => ?_)
  · have hK := ite_p hK h1
    refine hX.1 22 I_Fla_set_14 ok_Fla_set_14 _ _ _ ?_
    refine hX.1 26 I_Fla_set_22 ok_Fla_set_22 _ _ _ ?_
    refine And.intro trivial (SG_g hK fun s2 e2 hK => ?_)
    exact hK
  · have hK := ite_n hK h1
    refine hX.1 26 I_Fla_set_22 ok_Fla_set_22 _ _ _ ?_
    refine And.intro trivial (SG_g hK fun s3 e3 hK => ?_)
    exact hK
def I_Fla_mark_0 : List IT := [(0, .iload 4, 2, 0, 0, []), (2, .ifCond .eq 8, 3, 0, 10, []), (5, .ldc 29, 2, 32768, 0, []), (7, .goto 6, 3, 0, 13, [])]
theorem ok_Fla_mark_0 : blkOK b_Fla_mark pt_Fla 10 I_Fla_mark_0 = true := by decide +kernel
def I_Fla_mark_10 : List IT := [(10, .sipush 128, 3, 128, 0, [])]
theorem ok_Fla_mark_10 : blkOK b_Fla_mark pt_Fla 13 I_Fla_mark_10 = true := by decide +kernel
def I_Fla_mark_13 : List IT := [(13, .istore 5, 2, 0, 0, []), (15, .aload_n 0, 1, 0, 0, []), (16, .getfield 9, 3, 0, 0, []), (19, .sipush 1536, 3, 1536, 0, []), (22, .iand, 1, 0, 0, []), (23, .istore 6, 2, 0, 0, []), (25, .iload 6, 2, 0, 0, []), (27, .iload_n 2, 1, 0, 0, []), (28, .ifCond .eq 7, 3, 0, 35, []), (31, .iconst 1, 1, 1, 0, []), (32, .goto 4, 3, 0, 36, [])]
theorem ok_Fla_mark_13 : blkOK b_Fla_mark pt_Fla 35 I_Fla_mark_13 = true := by decide +kernel
def I_Fla_mark_35 : List IT := [(35, .iconst 0, 1, 0, 0, [])]
theorem ok_Fla_mark_35 : blkOK b_Fla_mark pt_Fla 36 I_Fla_mark_35 = true := by decide +kernel
def I_Fla_mark_36 : List IT := [(36, .ior, 1, 0, 0, []), (37, .istore 6, 2, 0, 0, []), (39, .iload 6, 2, 0, 0, []), (41, .iload_n 1, 1, 0, 0, []), (42, .ifCond .ne 8, 3, 0, 50, []), (45, .bipush 64, 2, 64, 0, []), (47, .goto 4, 3, 0, 51, [])]
theorem ok_Fla_mark_36 : blkOK b_Fla_mark pt_Fla 50 I_Fla_mark_36 = true := by decide +kernel
def I_Fla_mark_50 : List IT := [(50, .iconst 0, 1, 0, 0, [])]
theorem ok_Fla_mark_50 : blkOK b_Fla_mark pt_Fla 51 I_Fla_mark_50 = true := by decide +kernel
def I_Fla_mark_51 : List IT := [(51, .ior, 1, 0, 0, []), (52, .istore 6, 2, 0, 0, []), (54, .iload 6, 2, 0, 0, []), (56, .iload_n 1, 1, 0, 0, []), (57, .iload 5, 2, 0, 0, []), (59, .iand, 1, 0, 0, []), (60, .ifCond .eq 9, 3, 0, 69, []), (63, .sipush 128, 3, 128, 0, []), (66, .goto 4, 3, 0, 70, [])]
theorem ok_Fla_mark_51 : blkOK b_Fla_mark pt_Fla 69 I_Fla_mark_51 = true := by decide +kernel
def I_Fla_mark_69 : List IT := [(69, .iconst 0, 1, 0, 0, [])]
theorem ok_Fla_mark_69 : blkOK b_Fla_mark pt_Fla 70 I_Fla_mark_69 = true := by decide +kernel
def I_Fla_mark_70 : List IT := [(70, .ior, 1, 0, 0, []), (71, .istore 6, 2, 0, 0, []), (73, .iload 6, 2, 0, 0, []), (75, .iload_n 3, 1, 0, 0, []), (76, .iload 5, 2, 0, 0, []), (78, .iand, 1, 0, 0, []), (79, .ifCond .eq 9, 3, 0, 88, []), (82, .sipush 2048, 3, 2048, 0, []), (85, .goto 4, 3, 0, 89, [])]
theorem ok_Fla_mark_70 : blkOK b_Fla_mark pt_Fla 88 I_Fla_mark_70 = true := by decide +kernel
def I_Fla_mark_88 : List IT := [(88, .iconst 0, 1, 0, 0, [])]
theorem ok_Fla_mark_88 : blkOK b_Fla_mark pt_Fla 89 I_Fla_mark_88 = true := by decide +kernel
def I_Fla_mark_89 : List IT := [(89, .ior, 1, 0, 0, []), (90, .istore 6, 2, 0, 0, []), (92, .aload_n 0, 1, 0, 0, []), (93, .iload 6, 2, 0, 0, []), (95, .putfield 9, 3, 0, 0, []), (98, .return_, 1, 0, 0, [])]
theorem ok_Fla_mark_89 : blkOK b_Fla_mark pt_Fla 99 I_Fla_mark_89 = true := by decide +kernel
def f_Fla_mark_70 (σ : Sg) (x3 : Int32) (x5 : Int32) (y0 : Int32) (y1 : Int32) : Sg := (if (x3 &&& x5) = (0 : Int32) then (bnd (up2 σ 6 0 ((y1 ||| y0) ||| (0 : Int32))) fun s2 => s2) else (bnd (up2 σ 6 0 ((y1 ||| y0) ||| (2048 : Int32))) fun s3 => s3))
abbrev w_Fla_mark_70 : List (Nat × Option Nat) := [(6, some 0)]
theorem p_Fla_mark_70 {P : Sg → Prop} (hP : WP w_Fla_mark_70 P) {σ : Sg} {x3 : Int32} {x5 : Int32} {y0 : Int32} {y1 : Int32} (h : P σ) : P (f_Fla_mark_70 σ x3 x5 y0 y1) := by
  unfold f_Fla_mark_70
  refine ite_z (fun _ => ?_) (fun _ => ?_)
  · refine bnd_zz (Z := P) (hP _ _ _ _ (Or.inr (by decide)) h) fun s2 e2 q2 => ?_
    exact q2
  · refine bnd_zz (Z := P) (hP _ _ _ _ (Or.inr (by decide)) h) fun s3 e3 q3 => ?_
    exact q3
set_option maxRecDepth 100000 in
set_option maxHeartbeats 4000000 in
theorem b_Fla_mark_70 {l : Launch} {ad : Nat → Nat} {D : va_G} {cI : ClassId} {K : Option Value → Sg → Prop} {X : Nat → List Value → List Value → Sg → Prop} (hX : Cl l ad D cI mi_Fla_mark pt_Fla K X) {σ : Sg} {x3 : Int32} {x5 : Int32} {y0 : Int32} {y1 : Int32}   (hK : KV K (f_Fla_mark_70 σ x3 x5 y0 y1)) : X 70 [.ref 6, .null, .null, .int x3, .null, .int x5, .null] [.int y0, .int y1] σ := by
  unfold f_Fla_mark_70 at hK
  refine hX.1 88 I_Fla_mark_70 ok_Fla_mark_70 _ _ _ ?_
  refine And.intro (fun h1 => ?_) (fun h1 => ?_)
  · have hK := ite_p hK h1
    refine hX.1 89 I_Fla_mark_88 ok_Fla_mark_88 _ _ _ ?_
    refine hX.1 99 I_Fla_mark_89 ok_Fla_mark_89 _ _ _ ?_
    refine And.intro trivial (SG_g hK fun s2 e2 hK => ?_)
    exact hK
  · have hK := ite_n hK h1
    refine hX.1 99 I_Fla_mark_89 ok_Fla_mark_89 _ _ _ ?_
    refine And.intro trivial (SG_g hK fun s3 e3 hK => ?_)
    exact hK
def f_Fla_mark_51 (σ : Sg) (x1 : Int32) (x3 : Int32) (x5 : Int32) (y0 : Int32) (y1 : Int32) : Sg := (if (x1 &&& x5) = (0 : Int32) then (f_Fla_mark_70 σ x3 x5 (0 : Int32) (y1 ||| y0)) else (f_Fla_mark_70 σ x3 x5 (128 : Int32) (y1 ||| y0)))
abbrev w_Fla_mark_51 : List (Nat × Option Nat) := [(6, some 0)]
theorem p_Fla_mark_51 {P : Sg → Prop} (hP : WP w_Fla_mark_51 P) {σ : Sg} {x1 : Int32} {x3 : Int32} {x5 : Int32} {y0 : Int32} {y1 : Int32} (h : P σ) : P (f_Fla_mark_51 σ x1 x3 x5 y0 y1) := by
  unfold f_Fla_mark_51
  refine ite_z (fun _ => ?_) (fun _ => ?_)
  · exact p_Fla_mark_70 (wsub hP rfl) h
  · exact p_Fla_mark_70 (wsub hP rfl) h
set_option maxRecDepth 100000 in
set_option maxHeartbeats 4000000 in
theorem b_Fla_mark_51 {l : Launch} {ad : Nat → Nat} {D : va_G} {cI : ClassId} {K : Option Value → Sg → Prop} {X : Nat → List Value → List Value → Sg → Prop} (hX : Cl l ad D cI mi_Fla_mark pt_Fla K X) {σ : Sg} {x1 : Int32} {x3 : Int32} {x5 : Int32} {y0 : Int32} {y1 : Int32}   (hK : KV K (f_Fla_mark_51 σ x1 x3 x5 y0 y1)) : X 51 [.ref 6, .int x1, .null, .int x3, .null, .int x5, .null] [.int y0, .int y1] σ := by
  unfold f_Fla_mark_51 at hK
  refine hX.1 69 I_Fla_mark_51 ok_Fla_mark_51 _ _ _ ?_
  refine And.intro (fun h1 => ?_) (fun h1 => ?_)
  · have hK := ite_p hK h1
    refine hX.1 70 I_Fla_mark_69 ok_Fla_mark_69 _ _ _ ?_
    refine hX.fg [1, 6] ?_
    exact b_Fla_mark_70 hX  hK
  · have hK := ite_n hK h1
    refine hX.fg [1, 6] ?_
    exact b_Fla_mark_70 hX  hK
def f_Fla_mark_36 (σ : Sg) (x1 : Int32) (x3 : Int32) (x5 : Int32) (y0 : Int32) (y1 : Int32) : Sg := (if x1 = (0 : Int32) then (f_Fla_mark_51 σ x1 x3 x5 (64 : Int32) (y1 ||| y0)) else (f_Fla_mark_51 σ x1 x3 x5 (0 : Int32) (y1 ||| y0)))
abbrev w_Fla_mark_36 : List (Nat × Option Nat) := [(6, some 0)]
theorem p_Fla_mark_36 {P : Sg → Prop} (hP : WP w_Fla_mark_36 P) {σ : Sg} {x1 : Int32} {x3 : Int32} {x5 : Int32} {y0 : Int32} {y1 : Int32} (h : P σ) : P (f_Fla_mark_36 σ x1 x3 x5 y0 y1) := by
  unfold f_Fla_mark_36
  refine ite_z (fun _ => ?_) (fun _ => ?_)
  · exact p_Fla_mark_51 (wsub hP rfl) h
  · exact p_Fla_mark_51 (wsub hP rfl) h
set_option maxRecDepth 100000 in
set_option maxHeartbeats 4000000 in
theorem b_Fla_mark_36 {l : Launch} {ad : Nat → Nat} {D : va_G} {cI : ClassId} {K : Option Value → Sg → Prop} {X : Nat → List Value → List Value → Sg → Prop} (hX : Cl l ad D cI mi_Fla_mark pt_Fla K X) {σ : Sg} {x1 : Int32} {x3 : Int32} {x5 : Int32} {y0 : Int32} {y1 : Int32} (z_y0 : y0 = 0 ∨ y0 = 1)  (hK : KV K (f_Fla_mark_36 σ x1 x3 x5 y0 y1)) : X 36 [.ref 6, .int x1, .null, .int x3, .null, .int x5, .null] [.int y0, .int y1] σ := by
  unfold f_Fla_mark_36 at hK
  refine hX.1 50 I_Fla_mark_36 ok_Fla_mark_36 _ _ _ ?_
  refine And.intro (fun h1 => ?_) (fun h1 => ?_)
  · have hK := ite_p hK h1
    refine hX.fg [6] ?_
    exact b_Fla_mark_51 hX  hK
  · have hK := ite_n hK h1
    refine hX.1 51 I_Fla_mark_50 ok_Fla_mark_50 _ _ _ ?_
    refine hX.fg [6] ?_
    exact b_Fla_mark_51 hX  hK
def f_Fla_mark_13 (σ : Sg) (x1 : Int32) (x2 : Int32) (x3 : Int32) (y0 : Int32) : Sg := (if x2 = (0 : Int32) then (f_Fla_mark_36 σ x1 x3 y0 (0 : Int32) ((σ 6 0) &&& (1536 : Int32))) else (f_Fla_mark_36 σ x1 x3 y0 (1 : Int32) ((σ 6 0) &&& (1536 : Int32))))
abbrev w_Fla_mark_13 : List (Nat × Option Nat) := [(6, some 0)]
theorem p_Fla_mark_13 {P : Sg → Prop} (hP : WP w_Fla_mark_13 P) {σ : Sg} {x1 : Int32} {x2 : Int32} {x3 : Int32} {y0 : Int32} (h : P σ) : P (f_Fla_mark_13 σ x1 x2 x3 y0) := by
  unfold f_Fla_mark_13
  refine ite_z (fun _ => ?_) (fun _ => ?_)
  · exact p_Fla_mark_36 (wsub hP rfl) h
  · exact p_Fla_mark_36 (wsub hP rfl) h
set_option maxRecDepth 100000 in
set_option maxHeartbeats 4000000 in
theorem b_Fla_mark_13 {l : Launch} {ad : Nat → Nat} {D : va_G} {cI : ClassId} {K : Option Value → Sg → Prop} {X : Nat → List Value → List Value → Sg → Prop} (hX : Cl l ad D cI mi_Fla_mark pt_Fla K X) {σ : Sg} {x1 : Int32} {x2 : Int32} {x3 : Int32} {y0 : Int32}   (hK : KV K (f_Fla_mark_13 σ x1 x2 x3 y0)) : X 13 [.ref 6, .int x1, .int x2, .int x3, .null, .null, .null] [.int y0] σ := by
  unfold f_Fla_mark_13 at hK
  refine hX.1 35 I_Fla_mark_13 ok_Fla_mark_13 _ _ _ ?_
  refine And.intro (fun h1 => ?_) (fun h1 => ?_)
  · have hK := ite_p hK h1
    refine hX.1 36 I_Fla_mark_35 ok_Fla_mark_35 _ _ _ ?_
    refine hX.fg [2, 6] ?_
    exact b_Fla_mark_36 hX (Or.inl rfl) hK
  · have hK := ite_n hK h1
    refine hX.fg [2, 6] ?_
    exact b_Fla_mark_36 hX (Or.inr rfl) hK
def f_Fla_mark (σ : Sg) (a1 : Int32) (a2 : Int32) (a3 : Int32) (a4 : Int32) : Sg := (if a4 = (0 : Int32) then (f_Fla_mark_13 σ a1 a2 a3 (128 : Int32)) else (f_Fla_mark_13 σ a1 a2 a3 (32768 : Int32)))
abbrev w_Fla_mark : List (Nat × Option Nat) := [(6, some 0)]
theorem p_Fla_mark {P : Sg → Prop} (hP : WP w_Fla_mark P) {σ : Sg} {a1 : Int32} {a2 : Int32} {a3 : Int32} {a4 : Int32} (h : P σ) : P (f_Fla_mark σ a1 a2 a3 a4) := by
  unfold f_Fla_mark
  refine ite_z (fun _ => ?_) (fun _ => ?_)
  · exact p_Fla_mark_13 (wsub hP rfl) h
  · exact p_Fla_mark_13 (wsub hP rfl) h
set_option maxRecDepth 100000 in
set_option maxHeartbeats 4000000 in
theorem s_Fla_mark {l : Launch} {ad : Nat → Nat} {D : va_G} {cI : ClassId} {σ : Sg} {a1 : Int32} {a2 : Int32} {a3 : Int32} {a4 : Int32} {K : Option Value → Sg → Prop}   (hK : KV K (f_Fla_mark σ a1 a2 a3 a4)) : MetJ l ad D cI mi_Fla_mark [.ref 6, .int a1, .int a2, .int a3, .int a4] σ K := by
  refine met_of mi_Fla_mark pt_Fla pt_Fla_in rfl pl_Fla rfl (Nat.le_of_ble_eq_true rfl) fun X hX => ?_
  have hX : Cl l ad D cI mi_Fla_mark pt_Fla K X := hX
  show X 0 [.ref 6, .int a1, .int a2, .int a3, .int a4, .null, .null] [] σ
  unfold f_Fla_mark at hK
  refine hX.1 10 I_Fla_mark_0 ok_Fla_mark_0 _ _ _ ?_
  refine And.intro (fun h1 => ?_) (fun h1 => ?_)
  · have hK := ite_p hK h1
    refine hX.1 13 I_Fla_mark_10 ok_Fla_mark_10 _ _ _ ?_
    refine hX.fg [4] ?_
    exact b_Fla_mark_13 hX  hK
  · have hK := ite_n hK h1
    refine hX.fg [4] ?_
    exact b_Fla_mark_13 hX  hK
def I_Fla_sum_0 : List IT := [(0, .iload_n 1, 1, 0, 0, []), (1, .iload_n 2, 1, 0, 0, []), (2, .iadd, 1, 0, 0, []), (3, .iload_n 3, 1, 0, 0, []), (4, .iadd, 1, 0, 0, []), (5, .istore 5, 2, 0, 0, []), (7, .iload 5, 2, 0, 0, []), (9, .iload 4, 2, 0, 0, []), (11, .ifCond .eq 8, 3, 0, 19, []), (14, .ldc 24, 2, 65535, 0, []), (16, .goto 6, 3, 0, 22, [])]
theorem ok_Fla_sum_0 : blkOK b_Fla_sum pt_Fla 19 I_Fla_sum_0 = true := by decide +kernel
def I_Fla_sum_19 : List IT := [(19, .sipush 255, 3, 255, 0, [])]
theorem ok_Fla_sum_19 : blkOK b_Fla_sum pt_Fla 22 I_Fla_sum_19 = true := by decide +kernel
def I_Fla_sum_22 : List IT := [(22, .iand, 1, 0, 0, []), (23, .istore 6, 2, 0, 0, []), (25, .aload_n 0, 1, 0, 0, []), (26, .iload 6, 2, 0, 0, []), (28, .iload 5, 2, 0, 0, []), (30, .iload 6, 2, 0, 0, []), (32, .if_icmp .eq 7, 3, 0, 39, []), (35, .iconst 1, 1, 1, 0, []), (36, .goto 4, 3, 0, 40, [])]
theorem ok_Fla_sum_22 : blkOK b_Fla_sum pt_Fla 39 I_Fla_sum_22 = true := by decide +kernel
def I_Fla_sum_39 : List IT := [(39, .iconst 0, 1, 0, 0, [])]
theorem ok_Fla_sum_39 : blkOK b_Fla_sum pt_Fla 40 I_Fla_sum_39 = true := by decide +kernel
def I_Fla_sum_40 : List IT := [(40, .iload_n 1, 1, 0, 0, []), (41, .iload 6, 2, 0, 0, []), (43, .ixor, 1, 0, 0, []), (44, .iload_n 2, 1, 0, 0, []), (45, .iload 6, 2, 0, 0, []), (47, .ixor, 1, 0, 0, []), (48, .iand, 1, 0, 0, []), (49, .iload 4, 2, 0, 0, []), (51, .invokevirtual 25, 3, 0, 0, []), (54, .iload 6, 2, 0, 0, []), (56, .ireturn, 1, 0, 0, [])]
theorem ok_Fla_sum_40 : blkOK b_Fla_sum pt_Fla 57 I_Fla_sum_40 = true := by decide +kernel
def f_Fla_sum_40 (σ : Sg) (x1 : Int32) (x2 : Int32) (x4 : Int32) (x6 : Int32) (y0 : Int32) (y1 : Int32) : Int32 × Sg := (bnd (f_Fla_mark σ y1 y0 ((x1 ^^^ x6) &&& (x2 ^^^ x6)) x4) fun r1 => (x6, r1))
abbrev w_Fla_sum_40 : List (Nat × Option Nat) := [(6, some 0)]
theorem p_Fla_sum_40 {P : Sg → Prop} (hP : WP w_Fla_sum_40 P) {σ : Sg} {x1 : Int32} {x2 : Int32} {x4 : Int32} {x6 : Int32} {y0 : Int32} {y1 : Int32} (h : P σ) : PP P (f_Fla_sum_40 σ x1 x2 x4 x6 y0 y1) := by
  unfold f_Fla_sum_40
  refine bnd_zz (Z := P) (p_Fla_mark (wsub hP rfl) h) fun r1 e1 q1 => ?_
  exact q1
set_option maxRecDepth 100000 in
set_option maxHeartbeats 4000000 in
theorem b_Fla_sum_40 {l : Launch} {ad : Nat → Nat} {D : va_G} {cI : ClassId} {K : Option Value → Sg → Prop} {X : Nat → List Value → List Value → Sg → Prop} (hX : Cl l ad D cI mi_Fla_sum pt_Fla K X) {σ : Sg} {x1 : Int32} {x2 : Int32} {x4 : Int32} {x6 : Int32} {y0 : Int32} {y1 : Int32} (z_y0 : y0 = 0 ∨ y0 = 1)  (hK : KI K (f_Fla_sum_40 σ x1 x2 x4 x6 y0 y1)) : X 40 [.null, .int x1, .int x2, .null, .int x4, .null, .int x6] [.int y0, .int y1, .ref 6] σ := by
  unfold f_Fla_sum_40 at hK
  refine hX.1 57 I_Fla_sum_40 ok_Fla_sum_40 _ _ _ ?_
  refine s_Fla_mark (bnd_g hK fun r1 e1 hK => ?_)
  exact hK
def f_Fla_sum_22 (σ : Sg) (x1 : Int32) (x2 : Int32) (x4 : Int32) (x5 : Int32) (y0 : Int32) (y1 : Int32) : Int32 × Sg := (if x5 = (y1 &&& y0) then (f_Fla_sum_40 σ x1 x2 x4 (y1 &&& y0) (0 : Int32) (y1 &&& y0)) else (f_Fla_sum_40 σ x1 x2 x4 (y1 &&& y0) (1 : Int32) (y1 &&& y0)))
abbrev w_Fla_sum_22 : List (Nat × Option Nat) := [(6, some 0)]
theorem p_Fla_sum_22 {P : Sg → Prop} (hP : WP w_Fla_sum_22 P) {σ : Sg} {x1 : Int32} {x2 : Int32} {x4 : Int32} {x5 : Int32} {y0 : Int32} {y1 : Int32} (h : P σ) : PP P (f_Fla_sum_22 σ x1 x2 x4 x5 y0 y1) := by
  unfold f_Fla_sum_22
  refine ite_z (fun _ => ?_) (fun _ => ?_)
  · exact p_Fla_sum_40 (wsub hP rfl) h
  · exact p_Fla_sum_40 (wsub hP rfl) h
set_option maxRecDepth 100000 in
set_option maxHeartbeats 4000000 in
theorem b_Fla_sum_22 {l : Launch} {ad : Nat → Nat} {D : va_G} {cI : ClassId} {K : Option Value → Sg → Prop} {X : Nat → List Value → List Value → Sg → Prop} (hX : Cl l ad D cI mi_Fla_sum pt_Fla K X) {σ : Sg} {x1 : Int32} {x2 : Int32} {x4 : Int32} {x5 : Int32} {y0 : Int32} {y1 : Int32}   (hK : KI K (f_Fla_sum_22 σ x1 x2 x4 x5 y0 y1)) : X 22 [.ref 6, .int x1, .int x2, .null, .int x4, .int x5, .null] [.int y0, .int y1] σ := by
  unfold f_Fla_sum_22 at hK
  refine hX.1 39 I_Fla_sum_22 ok_Fla_sum_22 _ _ _ ?_
  refine And.intro (fun h1 => ?_) (fun h1 => ?_)
  · have hK := ite_p hK h1
    refine hX.1 40 I_Fla_sum_39 ok_Fla_sum_39 _ _ _ ?_
    refine hX.fg [0, 5] ?_
    exact b_Fla_sum_40 hX (Or.inl rfl) hK
  · have hK := ite_n hK h1
    refine hX.fg [0, 5] ?_
    exact b_Fla_sum_40 hX (Or.inr rfl) hK
def f_Fla_sum (σ : Sg) (a1 : Int32) (a2 : Int32) (a3 : Int32) (a4 : Int32) : Int32 × Sg := (if a4 = (0 : Int32) then (f_Fla_sum_22 σ a1 a2 a4 ((a1 + a2) + a3) (255 : Int32) ((a1 + a2) + a3)) else (f_Fla_sum_22 σ a1 a2 a4 ((a1 + a2) + a3) (65535 : Int32) ((a1 + a2) + a3)))
abbrev w_Fla_sum : List (Nat × Option Nat) := [(6, some 0)]
theorem p_Fla_sum {P : Sg → Prop} (hP : WP w_Fla_sum P) {σ : Sg} {a1 : Int32} {a2 : Int32} {a3 : Int32} {a4 : Int32} (h : P σ) : PP P (f_Fla_sum σ a1 a2 a3 a4) := by
  unfold f_Fla_sum
  refine ite_z (fun _ => ?_) (fun _ => ?_)
  · exact p_Fla_sum_22 (wsub hP rfl) h
  · exact p_Fla_sum_22 (wsub hP rfl) h
set_option maxRecDepth 100000 in
set_option maxHeartbeats 4000000 in
theorem s_Fla_sum {l : Launch} {ad : Nat → Nat} {D : va_G} {cI : ClassId} {σ : Sg} {a1 : Int32} {a2 : Int32} {a3 : Int32} {a4 : Int32} {K : Option Value → Sg → Prop}   (hK : KI K (f_Fla_sum σ a1 a2 a3 a4)) : MetJ l ad D cI mi_Fla_sum [.ref 6, .int a1, .int a2, .int a3, .int a4] σ K := by
  refine met_of mi_Fla_sum pt_Fla pt_Fla_in rfl pl_Fla rfl (Nat.le_of_ble_eq_true rfl) fun X hX => ?_
  have hX : Cl l ad D cI mi_Fla_sum pt_Fla K X := hX
  show X 0 [.ref 6, .int a1, .int a2, .int a3, .int a4, .null, .null] [] σ
  unfold f_Fla_sum at hK
  refine hX.1 19 I_Fla_sum_0 ok_Fla_sum_0 _ _ _ ?_
  refine And.intro (fun h1 => ?_) (fun h1 => ?_)
  · have hK := ite_p hK h1
    refine hX.1 22 I_Fla_sum_19 ok_Fla_sum_19 _ _ _ ?_
    refine hX.fg [3] ?_
    exact b_Fla_sum_22 hX  hK
  · have hK := ite_n hK h1
    refine hX.fg [3] ?_
    exact b_Fla_sum_22 hX  hK
def I_Fla_logic_0 : List IT := [(0, .aload_n 0, 1, 0, 0, []), (1, .iload_n 1, 1, 0, 0, []), (2, .iconst 0, 1, 0, 0, []), (3, .iconst 0, 1, 0, 0, []), (4, .iload_n 2, 1, 0, 0, []), (5, .invokevirtual 25, 3, 0, 0, []), (8, .iload_n 1, 1, 0, 0, []), (9, .ireturn, 1, 0, 0, [])]
theorem ok_Fla_logic_0 : blkOK b_Fla_logic pt_Fla 10 I_Fla_logic_0 = true := by decide +kernel
def f_Fla_logic (σ : Sg) (a1 : Int32) (a2 : Int32) : Int32 × Sg := (bnd (f_Fla_mark σ a1 (0 : Int32) (0 : Int32) a2) fun r1 => (a1, r1))
abbrev w_Fla_logic : List (Nat × Option Nat) := [(6, some 0)]
theorem p_Fla_logic {P : Sg → Prop} (hP : WP w_Fla_logic P) {σ : Sg} {a1 : Int32} {a2 : Int32} (h : P σ) : PP P (f_Fla_logic σ a1 a2) := by
  unfold f_Fla_logic
  refine bnd_zz (Z := P) (p_Fla_mark (wsub hP rfl) h) fun r1 e1 q1 => ?_
  exact q1
set_option maxRecDepth 100000 in
set_option maxHeartbeats 4000000 in
theorem s_Fla_logic {l : Launch} {ad : Nat → Nat} {D : va_G} {cI : ClassId} {σ : Sg} {a1 : Int32} {a2 : Int32} {K : Option Value → Sg → Prop}   (hK : KI K (f_Fla_logic σ a1 a2)) : MetJ l ad D cI mi_Fla_logic [.ref 6, .int a1, .int a2] σ K := by
  refine met_of mi_Fla_logic pt_Fla pt_Fla_in rfl pl_Fla rfl (Nat.le_of_ble_eq_true rfl) fun X hX => ?_
  have hX : Cl l ad D cI mi_Fla_logic pt_Fla K X := hX
  show X 0 [.ref 6, .int a1, .int a2] [] σ
  unfold f_Fla_logic at hK
  refine hX.1 10 I_Fla_logic_0 ok_Fla_logic_0 _ _ _ ?_
  refine s_Fla_mark (bnd_g hK fun r1 e1 hK => ?_)
  exact hK
def I_Fla_difference_0 : List IT := [(0, .iload_n 1, 1, 0, 0, []), (1, .iload_n 2, 1, 0, 0, []), (2, .isub, 1, 0, 0, []), (3, .iload_n 3, 1, 0, 0, []), (4, .isub, 1, 0, 0, []), (5, .istore 5, 2, 0, 0, []), (7, .iload 5, 2, 0, 0, []), (9, .iload 4, 2, 0, 0, []), (11, .ifCond .eq 8, 3, 0, 19, []), (14, .ldc 24, 2, 65535, 0, []), (16, .goto 6, 3, 0, 22, [])]
theorem ok_Fla_difference_0 : blkOK b_Fla_difference pt_Fla 19 I_Fla_difference_0 = true := by decide +kernel
def I_Fla_difference_19 : List IT := [(19, .sipush 255, 3, 255, 0, [])]
theorem ok_Fla_difference_19 : blkOK b_Fla_difference pt_Fla 22 I_Fla_difference_19 = true := by decide +kernel
def I_Fla_difference_22 : List IT := [(22, .iand, 1, 0, 0, []), (23, .istore 6, 2, 0, 0, []), (25, .aload_n 0, 1, 0, 0, []), (26, .iload 6, 2, 0, 0, []), (28, .iload 5, 2, 0, 0, []), (30, .iload 6, 2, 0, 0, []), (32, .if_icmp .eq 7, 3, 0, 39, []), (35, .iconst 1, 1, 1, 0, []), (36, .goto 4, 3, 0, 40, [])]
theorem ok_Fla_difference_22 : blkOK b_Fla_difference pt_Fla 39 I_Fla_difference_22 = true := by decide +kernel
def I_Fla_difference_39 : List IT := [(39, .iconst 0, 1, 0, 0, [])]
theorem ok_Fla_difference_39 : blkOK b_Fla_difference pt_Fla 40 I_Fla_difference_39 = true := by decide +kernel
def I_Fla_difference_40 : List IT := [(40, .iload_n 1, 1, 0, 0, []), (41, .iload_n 2, 1, 0, 0, []), (42, .ixor, 1, 0, 0, []), (43, .iload_n 1, 1, 0, 0, []), (44, .iload 6, 2, 0, 0, []), (46, .ixor, 1, 0, 0, []), (47, .iand, 1, 0, 0, []), (48, .iload 4, 2, 0, 0, []), (50, .invokevirtual 25, 3, 0, 0, []), (53, .iload 6, 2, 0, 0, []), (55, .ireturn, 1, 0, 0, [])]
theorem ok_Fla_difference_40 : blkOK b_Fla_difference pt_Fla 56 I_Fla_difference_40 = true := by decide +kernel
def f_Fla_difference_40 (σ : Sg) (x1 : Int32) (x2 : Int32) (x4 : Int32) (x6 : Int32) (y0 : Int32) (y1 : Int32) : Int32 × Sg := (bnd (f_Fla_mark σ y1 y0 ((x1 ^^^ x2) &&& (x1 ^^^ x6)) x4) fun r1 => (x6, r1))
abbrev w_Fla_difference_40 : List (Nat × Option Nat) := [(6, some 0)]
theorem p_Fla_difference_40 {P : Sg → Prop} (hP : WP w_Fla_difference_40 P) {σ : Sg} {x1 : Int32} {x2 : Int32} {x4 : Int32} {x6 : Int32} {y0 : Int32} {y1 : Int32} (h : P σ) : PP P (f_Fla_difference_40 σ x1 x2 x4 x6 y0 y1) := by
  unfold f_Fla_difference_40
  refine bnd_zz (Z := P) (p_Fla_mark (wsub hP rfl) h) fun r1 e1 q1 => ?_
  exact q1
set_option maxRecDepth 100000 in
set_option maxHeartbeats 4000000 in
theorem b_Fla_difference_40 {l : Launch} {ad : Nat → Nat} {D : va_G} {cI : ClassId} {K : Option Value → Sg → Prop} {X : Nat → List Value → List Value → Sg → Prop} (hX : Cl l ad D cI mi_Fla_difference pt_Fla K X) {σ : Sg} {x1 : Int32} {x2 : Int32} {x4 : Int32} {x6 : Int32} {y0 : Int32} {y1 : Int32} (z_y0 : y0 = 0 ∨ y0 = 1)  (hK : KI K (f_Fla_difference_40 σ x1 x2 x4 x6 y0 y1)) : X 40 [.null, .int x1, .int x2, .null, .int x4, .null, .int x6] [.int y0, .int y1, .ref 6] σ := by
  unfold f_Fla_difference_40 at hK
  refine hX.1 56 I_Fla_difference_40 ok_Fla_difference_40 _ _ _ ?_
  refine s_Fla_mark (bnd_g hK fun r1 e1 hK => ?_)
  exact hK
def f_Fla_difference_22 (σ : Sg) (x1 : Int32) (x2 : Int32) (x4 : Int32) (x5 : Int32) (y0 : Int32) (y1 : Int32) : Int32 × Sg := (if x5 = (y1 &&& y0) then (f_Fla_difference_40 σ x1 x2 x4 (y1 &&& y0) (0 : Int32) (y1 &&& y0)) else (f_Fla_difference_40 σ x1 x2 x4 (y1 &&& y0) (1 : Int32) (y1 &&& y0)))
abbrev w_Fla_difference_22 : List (Nat × Option Nat) := [(6, some 0)]
theorem p_Fla_difference_22 {P : Sg → Prop} (hP : WP w_Fla_difference_22 P) {σ : Sg} {x1 : Int32} {x2 : Int32} {x4 : Int32} {x5 : Int32} {y0 : Int32} {y1 : Int32} (h : P σ) : PP P (f_Fla_difference_22 σ x1 x2 x4 x5 y0 y1) := by
  unfold f_Fla_difference_22
  refine ite_z (fun _ => ?_) (fun _ => ?_)
  · exact p_Fla_difference_40 (wsub hP rfl) h
  · exact p_Fla_difference_40 (wsub hP rfl) h
set_option maxRecDepth 100000 in
set_option maxHeartbeats 4000000 in
theorem b_Fla_difference_22 {l : Launch} {ad : Nat → Nat} {D : va_G} {cI : ClassId} {K : Option Value → Sg → Prop} {X : Nat → List Value → List Value → Sg → Prop} (hX : Cl l ad D cI mi_Fla_difference pt_Fla K X) {σ : Sg} {x1 : Int32} {x2 : Int32} {x4 : Int32} {x5 : Int32} {y0 : Int32} {y1 : Int32}   (hK : KI K (f_Fla_difference_22 σ x1 x2 x4 x5 y0 y1)) : X 22 [.ref 6, .int x1, .int x2, .null, .int x4, .int x5, .null] [.int y0, .int y1] σ := by
  unfold f_Fla_difference_22 at hK
  refine hX.1 39 I_Fla_difference_22 ok_Fla_difference_22 _ _ _ ?_
  refine And.intro (fun h1 => ?_) (fun h1 => ?_)
  · have hK := ite_p hK h1
    refine hX.1 40 I_Fla_difference_39 ok_Fla_difference_39 _ _ _ ?_
    refine hX.fg [0, 5] ?_
    exact b_Fla_difference_40 hX (Or.inl rfl) hK
  · have hK := ite_n hK h1
    refine hX.fg [0, 5] ?_
    exact b_Fla_difference_40 hX (Or.inr rfl) hK
def f_Fla_difference (σ : Sg) (a1 : Int32) (a2 : Int32) (a3 : Int32) (a4 : Int32) : Int32 × Sg := (if a4 = (0 : Int32) then (f_Fla_difference_22 σ a1 a2 a4 ((a1 - a2) - a3) (255 : Int32) ((a1 - a2) - a3)) else (f_Fla_difference_22 σ a1 a2 a4 ((a1 - a2) - a3) (65535 : Int32) ((a1 - a2) - a3)))
abbrev w_Fla_difference : List (Nat × Option Nat) := [(6, some 0)]
theorem p_Fla_difference {P : Sg → Prop} (hP : WP w_Fla_difference P) {σ : Sg} {a1 : Int32} {a2 : Int32} {a3 : Int32} {a4 : Int32} (h : P σ) : PP P (f_Fla_difference σ a1 a2 a3 a4) := by
  unfold f_Fla_difference
  refine ite_z (fun _ => ?_) (fun _ => ?_)
  · exact p_Fla_difference_22 (wsub hP rfl) h
  · exact p_Fla_difference_22 (wsub hP rfl) h
set_option maxRecDepth 100000 in
set_option maxHeartbeats 4000000 in
theorem s_Fla_difference {l : Launch} {ad : Nat → Nat} {D : va_G} {cI : ClassId} {σ : Sg} {a1 : Int32} {a2 : Int32} {a3 : Int32} {a4 : Int32} {K : Option Value → Sg → Prop}   (hK : KI K (f_Fla_difference σ a1 a2 a3 a4)) : MetJ l ad D cI mi_Fla_difference [.ref 6, .int a1, .int a2, .int a3, .int a4] σ K := by
  refine met_of mi_Fla_difference pt_Fla pt_Fla_in rfl pl_Fla rfl (Nat.le_of_ble_eq_true rfl) fun X hX => ?_
  have hX : Cl l ad D cI mi_Fla_difference pt_Fla K X := hX
  show X 0 [.ref 6, .int a1, .int a2, .int a3, .int a4, .null, .null] [] σ
  unfold f_Fla_difference at hK
  refine hX.1 19 I_Fla_difference_0 ok_Fla_difference_0 _ _ _ ?_
  refine And.intro (fun h1 => ?_) (fun h1 => ?_)
  · have hK := ite_p hK h1
    refine hX.1 22 I_Fla_difference_19 ok_Fla_difference_19 _ _ _ ?_
    refine hX.fg [3] ?_
    exact b_Fla_difference_22 hX  hK
  · have hK := ite_n hK h1
    refine hX.fg [3] ?_
    exact b_Fla_difference_22 hX  hK
def I_Fla_combine_0 : List IT := [(0, .aload_n 0, 1, 0, 0, []), (1, .getfield 9, 3, 0, 0, []), (4, .iconst 1, 1, 1, 0, []), (5, .iand, 1, 0, 0, []), (6, .istore 5, 2, 0, 0, []), (8, .iload_n 1, 1, 0, 0, []), (9, .tableswitch 115 0 6 #[43, 53, 63, 74, 85, 95, 105], 43, 0, 124, [(0, 52), (1, 62), (2, 72), (3, 83), (4, 94), (5, 104), (6, 114)])]
theorem ok_Fla_combine_0 : blkOK b_Fla_combine pt_Fla 52 I_Fla_combine_0 = true := by decide +kernel
def I_Fla_combine_52 : List IT := [(52, .aload_n 0, 1, 0, 0, []), (53, .iload_n 2, 1, 0, 0, []), (54, .iload_n 3, 1, 0, 0, []), (55, .iconst 0, 1, 0, 0, []), (56, .iload 4, 2, 0, 0, []), (58, .invokevirtual 13, 3, 0, 0, []), (61, .ireturn, 1, 0, 0, [])]
theorem ok_Fla_combine_52 : blkOK b_Fla_combine pt_Fla 62 I_Fla_combine_52 = true := by decide +kernel
def I_Fla_combine_62 : List IT := [(62, .aload_n 0, 1, 0, 0, []), (63, .iload_n 2, 1, 0, 0, []), (64, .iload_n 3, 1, 0, 0, []), (65, .ior, 1, 0, 0, []), (66, .iload 4, 2, 0, 0, []), (68, .invokevirtual 17, 3, 0, 0, []), (71, .ireturn, 1, 0, 0, [])]
theorem ok_Fla_combine_62 : blkOK b_Fla_combine pt_Fla 72 I_Fla_combine_62 = true := by decide +kernel
def I_Fla_combine_72 : List IT := [(72, .aload_n 0, 1, 0, 0, []), (73, .iload_n 2, 1, 0, 0, []), (74, .iload_n 3, 1, 0, 0, []), (75, .iload 5, 2, 0, 0, []), (77, .iload 4, 2, 0, 0, []), (79, .invokevirtual 13, 3, 0, 0, []), (82, .ireturn, 1, 0, 0, [])]
theorem ok_Fla_combine_72 : blkOK b_Fla_combine pt_Fla 83 I_Fla_combine_72 = true := by decide +kernel
def I_Fla_combine_83 : List IT := [(83, .aload_n 0, 1, 0, 0, []), (84, .iload_n 2, 1, 0, 0, []), (85, .iload_n 3, 1, 0, 0, []), (86, .iload 5, 2, 0, 0, []), (88, .iload 4, 2, 0, 0, []), (90, .invokevirtual 21, 3, 0, 0, []), (93, .ireturn, 1, 0, 0, [])]
theorem ok_Fla_combine_83 : blkOK b_Fla_combine pt_Fla 94 I_Fla_combine_83 = true := by decide +kernel
def I_Fla_combine_94 : List IT := [(94, .aload_n 0, 1, 0, 0, []), (95, .iload_n 2, 1, 0, 0, []), (96, .iload_n 3, 1, 0, 0, []), (97, .iand, 1, 0, 0, []), (98, .iload 4, 2, 0, 0, []), (100, .invokevirtual 17, 3, 0, 0, []), (103, .ireturn, 1, 0, 0, [])]
theorem ok_Fla_combine_94 : blkOK b_Fla_combine pt_Fla 104 I_Fla_combine_94 = true := by decide +kernel
def I_Fla_combine_104 : List IT := [(104, .aload_n 0, 1, 0, 0, []), (105, .iload_n 2, 1, 0, 0, []), (106, .iload_n 3, 1, 0, 0, []), (107, .iconst 0, 1, 0, 0, []), (108, .iload 4, 2, 0, 0, []), (110, .invokevirtual 21, 3, 0, 0, []), (113, .ireturn, 1, 0, 0, [])]
theorem ok_Fla_combine_104 : blkOK b_Fla_combine pt_Fla 114 I_Fla_combine_104 = true := by decide +kernel
def I_Fla_combine_114 : List IT := [(114, .aload_n 0, 1, 0, 0, []), (115, .iload_n 2, 1, 0, 0, []), (116, .iload_n 3, 1, 0, 0, []), (117, .ixor, 1, 0, 0, []), (118, .iload 4, 2, 0, 0, []), (120, .invokevirtual 17, 3, 0, 0, []), (123, .ireturn, 1, 0, 0, [])]
theorem ok_Fla_combine_114 : blkOK b_Fla_combine pt_Fla 124 I_Fla_combine_114 = true := by decide +kernel
def I_Fla_combine_124 : List IT := [(124, .aload_n 0, 1, 0, 0, []), (125, .iload_n 2, 1, 0, 0, []), (126, .iload_n 3, 1, 0, 0, []), (127, .iconst 0, 1, 0, 0, []), (128, .iload 4, 2, 0, 0, []), (130, .invokevirtual 21, 3, 0, 0, []), (133, .pop, 1, 0, 0, []), (134, .iload_n 2, 1, 0, 0, []), (135, .ireturn, 1, 0, 0, [])]
theorem ok_Fla_combine_124 : blkOK b_Fla_combine pt_Fla 136 I_Fla_combine_124 = true := by decide +kernel
def f_Fla_combine (σ : Sg) (a1 : Int32) (a2 : Int32) (a3 : Int32) (a4 : Int32) : Int32 × Sg := (if a1 = (0 : Int32) then (bnd (f_Fla_sum σ a2 a3 (0 : Int32) a4) fun r2 => (r2.1, r2.2)) else (if a1 = (1 : Int32) then (bnd (f_Fla_logic σ (a2 ||| a3) a4) fun r4 => (r4.1, r4.2)) else (if a1 = (2 : Int32) then (bnd (f_Fla_sum σ a2 a3 ((σ 6 0) &&& (1 : Int32)) a4) fun r6 => (r6.1, r6.2)) else (if a1 = (3 : Int32) then (bnd (f_Fla_difference σ a2 a3 ((σ 6 0) &&& (1 : Int32)) a4) fun r8 => (r8.1, r8.2)) else (if a1 = (4 : Int32) then (bnd (f_Fla_logic σ (a2 &&& a3) a4) fun r10 => (r10.1, r10.2)) else (if a1 = (5 : Int32) then (bnd (f_Fla_difference σ a2 a3 (0 : Int32) a4) fun r12 => (r12.1, r12.2)) else (if a1 = (6 : Int32) then (bnd (f_Fla_logic σ (a2 ^^^ a3) a4) fun r14 => (r14.1, r14.2)) else (bnd (f_Fla_difference σ a2 a3 (0 : Int32) a4) fun r15 => (a2, r15.2)))))))))
abbrev w_Fla_combine : List (Nat × Option Nat) := [(6, some 0)]
theorem p_Fla_combine {P : Sg → Prop} (hP : WP w_Fla_combine P) {σ : Sg} {a1 : Int32} {a2 : Int32} {a3 : Int32} {a4 : Int32} (h : P σ) : PP P (f_Fla_combine σ a1 a2 a3 a4) := by
  unfold f_Fla_combine
  refine ite_z (fun _ => ?_) (fun _ => ?_)
  · refine bnd_zz (Z := PP P) (p_Fla_sum (wsub hP rfl) h) fun r2 e2 q2 => ?_
    exact q2
  refine ite_z (fun _ => ?_) (fun _ => ?_)
  · refine bnd_zz (Z := PP P) (p_Fla_logic (wsub hP rfl) h) fun r4 e4 q4 => ?_
    exact q4
  refine ite_z (fun _ => ?_) (fun _ => ?_)
  · refine bnd_zz (Z := PP P) (p_Fla_sum (wsub hP rfl) h) fun r6 e6 q6 => ?_
    exact q6
  refine ite_z (fun _ => ?_) (fun _ => ?_)
  · refine bnd_zz (Z := PP P) (p_Fla_difference (wsub hP rfl) h) fun r8 e8 q8 => ?_
    exact q8
  refine ite_z (fun _ => ?_) (fun _ => ?_)
  · refine bnd_zz (Z := PP P) (p_Fla_logic (wsub hP rfl) h) fun r10 e10 q10 => ?_
    exact q10
  refine ite_z (fun _ => ?_) (fun _ => ?_)
  · refine bnd_zz (Z := PP P) (p_Fla_difference (wsub hP rfl) h) fun r12 e12 q12 => ?_
    exact q12
  refine ite_z (fun _ => ?_) (fun _ => ?_)
  · refine bnd_zz (Z := PP P) (p_Fla_logic (wsub hP rfl) h) fun r14 e14 q14 => ?_
    exact q14
  refine bnd_zz (Z := PP P) (p_Fla_difference (wsub hP rfl) h) fun r15 e15 q15 => ?_
  exact q15
set_option maxRecDepth 100000 in
set_option maxHeartbeats 4000000 in
theorem s_Fla_combine {l : Launch} {ad : Nat → Nat} {D : va_G} {cI : ClassId} {σ : Sg} {a1 : Int32} {a2 : Int32} {a3 : Int32} {a4 : Int32} {K : Option Value → Sg → Prop}   (hK : KI K (f_Fla_combine σ a1 a2 a3 a4)) : MetJ l ad D cI mi_Fla_combine [.ref 6, .int a1, .int a2, .int a3, .int a4] σ K := by
  refine met_of mi_Fla_combine pt_Fla pt_Fla_in rfl pl_Fla rfl (Nat.le_of_ble_eq_true rfl) fun X hX => ?_
  have hX : Cl l ad D cI mi_Fla_combine pt_Fla K X := hX
  show X 0 [.ref 6, .int a1, .int a2, .int a3, .int a4, .null] [] σ
  unfold f_Fla_combine at hK
  refine hX.1 52 I_Fla_combine_0 ok_Fla_combine_0 _ _ _ ?_
  refine And.intro (fun h1 => ?_) (fun h1 => ?_)
  · have hK := ite_p hK h1
    refine hX.1 62 I_Fla_combine_52 ok_Fla_combine_52 _ _ _ ?_
    refine s_Fla_sum (bnd_g hK fun r2 e2 hK => ?_)
    exact hK
  have hK := ite_n hK h1
  refine And.intro (fun h3 => ?_) (fun h3 => ?_)
  · have hK := ite_p hK h3
    refine hX.1 72 I_Fla_combine_62 ok_Fla_combine_62 _ _ _ ?_
    refine s_Fla_logic (bnd_g hK fun r4 e4 hK => ?_)
    exact hK
  have hK := ite_n hK h3
  refine And.intro (fun h5 => ?_) (fun h5 => ?_)
  · have hK := ite_p hK h5
    refine hX.1 83 I_Fla_combine_72 ok_Fla_combine_72 _ _ _ ?_
    refine s_Fla_sum (bnd_g hK fun r6 e6 hK => ?_)
    exact hK
  have hK := ite_n hK h5
  refine And.intro (fun h7 => ?_) (fun h7 => ?_)
  · have hK := ite_p hK h7
    refine hX.1 94 I_Fla_combine_83 ok_Fla_combine_83 _ _ _ ?_
    refine s_Fla_difference (bnd_g hK fun r8 e8 hK => ?_)
    exact hK
  have hK := ite_n hK h7
  refine And.intro (fun h9 => ?_) (fun h9 => ?_)
  · have hK := ite_p hK h9
    refine hX.1 104 I_Fla_combine_94 ok_Fla_combine_94 _ _ _ ?_
    refine s_Fla_logic (bnd_g hK fun r10 e10 hK => ?_)
    exact hK
  have hK := ite_n hK h9
  refine And.intro (fun h11 => ?_) (fun h11 => ?_)
  · have hK := ite_p hK h11
    refine hX.1 114 I_Fla_combine_104 ok_Fla_combine_104 _ _ _ ?_
    refine s_Fla_difference (bnd_g hK fun r12 e12 hK => ?_)
    exact hK
  have hK := ite_n hK h11
  refine And.intro (fun h13 => ?_) (fun h13 => ?_)
  · have hK := ite_p hK h13
    refine hX.1 124 I_Fla_combine_114 ok_Fla_combine_114 _ _ _ ?_
    refine s_Fla_logic (bnd_g hK fun r14 e14 hK => ?_)
    exact hK
  have hK := ite_n hK h13
  refine hX.1 136 I_Fla_combine_124 ok_Fla_combine_124 _ _ _ ?_
  refine s_Fla_difference (bnd_g hK fun r15 e15 hK => ?_)
  exact hK
def I_Fla_oneMore_0 : List IT := [(0, .aload_n 0, 1, 0, 0, []), (1, .getfield 9, 3, 0, 0, []), (4, .iconst 1, 1, 1, 0, []), (5, .iand, 1, 0, 0, []), (6, .istore_n 3, 1, 0, 0, []), (7, .aload_n 0, 1, 0, 0, []), (8, .iload_n 1, 1, 0, 0, []), (9, .iconst 1, 1, 1, 0, []), (10, .iconst 0, 1, 0, 0, []), (11, .iload_n 2, 1, 0, 0, []), (12, .invokevirtual 13, 3, 0, 0, []), (15, .istore 4, 2, 0, 0, []), (17, .aload_n 0, 1, 0, 0, []), (18, .aload_n 0, 1, 0, 0, []), (19, .getfield 9, 3, 0, 0, []), (22, .bipush (-2), 2, (-2), 0, []), (24, .iand, 1, 0, 0, []), (25, .iload_n 3, 1, 0, 0, []), (26, .ior, 1, 0, 0, []), (27, .putfield 9, 3, 0, 0, []), (30, .iload 4, 2, 0, 0, []), (32, .ireturn, 1, 0, 0, [])]
theorem ok_Fla_oneMore_0 : blkOK b_Fla_oneMore pt_Fla 33 I_Fla_oneMore_0 = true := by decide +kernel
def f_Fla_oneMore (σ : Sg) (a1 : Int32) (a2 : Int32) : Int32 × Sg := (bnd (f_Fla_sum σ a1 (1 : Int32) (0 : Int32) a2) fun r1 => bnd (up2 r1.2 6 0 (((r1.2 6 0) &&& (-2 : Int32)) ||| ((σ 6 0) &&& (1 : Int32)))) fun s2 => (r1.1, s2))
abbrev w_Fla_oneMore : List (Nat × Option Nat) := [(6, some 0)]
theorem p_Fla_oneMore {P : Sg → Prop} (hP : WP w_Fla_oneMore P) {σ : Sg} {a1 : Int32} {a2 : Int32} (h : P σ) : PP P (f_Fla_oneMore σ a1 a2) := by
  unfold f_Fla_oneMore
  refine bnd_zz (Z := PP P) (p_Fla_sum (wsub hP rfl) h) fun r1 e1 q1 => ?_
  refine bnd_zz (Z := P) (hP _ _ _ _ (Or.inr (by decide)) q1) fun s2 e2 q2 => ?_
  exact q2
set_option maxRecDepth 100000 in
set_option maxHeartbeats 4000000 in
theorem s_Fla_oneMore {l : Launch} {ad : Nat → Nat} {D : va_G} {cI : ClassId} {σ : Sg} {a1 : Int32} {a2 : Int32} {K : Option Value → Sg → Prop}   (hK : KI K (f_Fla_oneMore σ a1 a2)) : MetJ l ad D cI mi_Fla_oneMore [.ref 6, .int a1, .int a2] σ K := by
  refine met_of mi_Fla_oneMore pt_Fla pt_Fla_in rfl pl_Fla rfl (Nat.le_of_ble_eq_true rfl) fun X hX => ?_
  have hX : Cl l ad D cI mi_Fla_oneMore pt_Fla K X := hX
  show X 0 [.ref 6, .int a1, .int a2, .null, .null] [] σ
  unfold f_Fla_oneMore at hK
  refine hX.1 33 I_Fla_oneMore_0 ok_Fla_oneMore_0 _ _ _ ?_
  refine s_Fla_sum (bnd_g hK fun r1 e1 hK => ?_)
  refine And.intro trivial (SG_g hK fun s2 e2 hK => ?_)
  exact hK
def I_Fla_oneLess_0 : List IT := [(0, .aload_n 0, 1, 0, 0, []), (1, .getfield 9, 3, 0, 0, []), (4, .iconst 1, 1, 1, 0, []), (5, .iand, 1, 0, 0, []), (6, .istore_n 3, 1, 0, 0, []), (7, .aload_n 0, 1, 0, 0, []), (8, .iload_n 1, 1, 0, 0, []), (9, .iconst 1, 1, 1, 0, []), (10, .iconst 0, 1, 0, 0, []), (11, .iload_n 2, 1, 0, 0, []), (12, .invokevirtual 21, 3, 0, 0, []), (15, .istore 4, 2, 0, 0, []), (17, .aload_n 0, 1, 0, 0, []), (18, .aload_n 0, 1, 0, 0, []), (19, .getfield 9, 3, 0, 0, []), (22, .bipush (-2), 2, (-2), 0, []), (24, .iand, 1, 0, 0, []), (25, .iload_n 3, 1, 0, 0, []), (26, .ior, 1, 0, 0, []), (27, .putfield 9, 3, 0, 0, []), (30, .iload 4, 2, 0, 0, []), (32, .ireturn, 1, 0, 0, [])]
theorem ok_Fla_oneLess_0 : blkOK b_Fla_oneLess pt_Fla 33 I_Fla_oneLess_0 = true := by decide +kernel
def f_Fla_oneLess (σ : Sg) (a1 : Int32) (a2 : Int32) : Int32 × Sg := (bnd (f_Fla_difference σ a1 (1 : Int32) (0 : Int32) a2) fun r1 => bnd (up2 r1.2 6 0 (((r1.2 6 0) &&& (-2 : Int32)) ||| ((σ 6 0) &&& (1 : Int32)))) fun s2 => (r1.1, s2))
abbrev w_Fla_oneLess : List (Nat × Option Nat) := [(6, some 0)]
theorem p_Fla_oneLess {P : Sg → Prop} (hP : WP w_Fla_oneLess P) {σ : Sg} {a1 : Int32} {a2 : Int32} (h : P σ) : PP P (f_Fla_oneLess σ a1 a2) := by
  unfold f_Fla_oneLess
  refine bnd_zz (Z := PP P) (p_Fla_difference (wsub hP rfl) h) fun r1 e1 q1 => ?_
  refine bnd_zz (Z := P) (hP _ _ _ _ (Or.inr (by decide)) q1) fun s2 e2 q2 => ?_
  exact q2
set_option maxRecDepth 100000 in
set_option maxHeartbeats 4000000 in
theorem s_Fla_oneLess {l : Launch} {ad : Nat → Nat} {D : va_G} {cI : ClassId} {σ : Sg} {a1 : Int32} {a2 : Int32} {K : Option Value → Sg → Prop}   (hK : KI K (f_Fla_oneLess σ a1 a2)) : MetJ l ad D cI mi_Fla_oneLess [.ref 6, .int a1, .int a2] σ K := by
  refine met_of mi_Fla_oneLess pt_Fla pt_Fla_in rfl pl_Fla rfl (Nat.le_of_ble_eq_true rfl) fun X hX => ?_
  have hX : Cl l ad D cI mi_Fla_oneLess pt_Fla K X := hX
  show X 0 [.ref 6, .int a1, .int a2, .null, .null] [] σ
  unfold f_Fla_oneLess at hK
  refine hX.1 33 I_Fla_oneLess_0 ok_Fla_oneLess_0 _ _ _ ?_
  refine s_Fla_difference (bnd_g hK fun r1 e1 hK => ?_)
  refine And.intro trivial (SG_g hK fun s2 e2 hK => ?_)
  exact hK
