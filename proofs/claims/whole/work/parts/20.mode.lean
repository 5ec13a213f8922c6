def I_Mod_is_0 : List IT := [(0, .aload_n 0, 1, 0, 0, []), (1, .getfield 92, 3, 0, 0, []), (4, .iload_n 1, 1, 0, 0, []), (5, .iand, 1, 0, 0, []), (6, .ifCond .eq 7, 3, 0, 13, []), (9, .iconst 1, 1, 1, 0, []), (10, .goto 4, 3, 0, 14, [])]
theorem ok_Mod_is_0 : blkOK b_Mod_is pt_Mod 13 I_Mod_is_0 = true := by decide +kernel
def I_Mod_is_13 : List IT := [(13, .iconst 0, 1, 0, 0, [])]
theorem ok_Mod_is_13 : blkOK b_Mod_is pt_Mod 14 I_Mod_is_13 = true := by decide +kernel
def I_Mod_is_14 : List IT := [(14, .ireturn, 1, 0, 0, [])]
theorem ok_Mod_is_14 : blkOK b_Mod_is pt_Mod 15 I_Mod_is_14 = true := by decide +kernel
def f_Mod_is (σ : Sg) (a1 : Int32) : Int32 × Sg := (if ((σ 15 4) &&& a1) = (0 : Int32) then ((0 : Int32), σ) else ((1 : Int32), σ))
theorem z_Mod_is {σ : Sg} {a1 : Int32}   : (f_Mod_is σ a1).1 = 0 ∨ (f_Mod_is σ a1).1 = 1 := by
  show Zb (f_Mod_is σ a1)
  unfold f_Mod_is
  refine ite_z (fun h1 => ?_) (fun h1 => ?_)
  · exact (Or.inl rfl)
  · exact (Or.inr rfl)
abbrev w_Mod_is : List (Nat × Option Nat) := []
theorem p_Mod_is {P : Sg → Prop} (hP : WP w_Mod_is P) {σ : Sg} {a1 : Int32} (h : P σ) : PP P (f_Mod_is σ a1) := by
  unfold f_Mod_is
  refine ite_z (fun _ => ?_) (fun _ => ?_)
  · exact h
  · exact h
set_option maxRecDepth 100000 in
set_option maxHeartbeats 4000000 in
theorem s_Mod_is {l : Launch} {ad : Nat → Nat} {D : va_G} {cI : ClassId} {σ : Sg} {a1 : Int32} {K : Option Value → Sg → Prop}   (hK : KI K (f_Mod_is σ a1)) : MetJ l ad D cI mi_Mod_is [.ref 15, .int a1] σ K := by
  refine met_of mi_Mod_is pt_Mod pt_Mod_in rfl pl_Mod rfl (Nat.le_of_ble_eq_true rfl) fun X hX => ?_
  have hX : Cl l ad D cI mi_Mod_is pt_Mod K X := hX
  show X 0 [.ref 15, .int a1] [] σ
  unfold f_Mod_is at hK
  refine hX.1 13 I_Mod_is_0 ok_Mod_is_0 _ _ _ ?_
  refine And.intro (fun h1 => ?_) (fun h1 => ?_)
  · have hK := ite_p hK h1
    refine hX.1 14 I_Mod_is_13 ok_Mod_is_13 _ _ _ ?_
    refine hX.1 15 I_Mod_is_14 ok_Mod_is_14 _ _ _ ?_
    exact And.intro (Or.inl rfl) hK
  · have hK := ite_n hK h1
    refine hX.1 15 I_Mod_is_14 ok_Mod_is_14 _ _ _ ?_
    exact And.intro (Or.inr rfl) hK
def I_Mod_zeroAndSign_0 : List IT := [(0, .aload_n 0, 1, 0, 0, []), (1, .bipush 64, 2, 64, 0, []), (3, .iload_n 1, 1, 0, 0, []), (4, .iload_n 2, 1, 0, 0, []), (5, .ifCond .eq 8, 3, 0, 13, []), (8, .ldc 32, 2, 65535, 0, []), (10, .goto 6, 3, 0, 16, [])]
theorem ok_Mod_zeroAndSign_0 : blkOK b_Mod_zeroAndSign pt_Mod 13 I_Mod_zeroAndSign_0 = true := by decide +kernel
def I_Mod_zeroAndSign_13 : List IT := [(13, .sipush 255, 3, 255, 0, [])]
theorem ok_Mod_zeroAndSign_13 : blkOK b_Mod_zeroAndSign pt_Mod 16 I_Mod_zeroAndSign_13 = true := by decide +kernel
def I_Mod_zeroAndSign_16 : List IT := [(16, .iand, 1, 0, 0, []), (17, .ifCond .ne 7, 3, 0, 24, []), (20, .iconst 1, 1, 1, 0, []), (21, .goto 4, 3, 0, 25, [])]
theorem ok_Mod_zeroAndSign_16 : blkOK b_Mod_zeroAndSign pt_Mod 24 I_Mod_zeroAndSign_16 = true := by decide +kernel
def I_Mod_zeroAndSign_24 : List IT := [(24, .iconst 0, 1, 0, 0, [])]
theorem ok_Mod_zeroAndSign_24 : blkOK b_Mod_zeroAndSign pt_Mod 25 I_Mod_zeroAndSign_24 = true := by decide +kernel
def I_Mod_zeroAndSign_25 : List IT := [(25, .invokevirtual 95, 3, 0, 0, []), (28, .aload_n 0, 1, 0, 0, []), (29, .sipush 128, 3, 128, 0, []), (32, .iload_n 1, 1, 0, 0, []), (33, .iload_n 2, 1, 0, 0, []), (34, .ifCond .eq 8, 3, 0, 42, []), (37, .ldc 99, 2, 32768, 0, []), (39, .goto 6, 3, 0, 45, [])]
theorem ok_Mod_zeroAndSign_25 : blkOK b_Mod_zeroAndSign pt_Mod 42 I_Mod_zeroAndSign_25 = true := by decide +kernel
def I_Mod_zeroAndSign_42 : List IT := [(42, .sipush 128, 3, 128, 0, [])]
theorem ok_Mod_zeroAndSign_42 : blkOK b_Mod_zeroAndSign pt_Mod 45 I_Mod_zeroAndSign_42 = true := by decide +kernel
def I_Mod_zeroAndSign_45 : List IT := [(45, .iand, 1, 0, 0, []), (46, .ifCond .eq 7, 3, 0, 53, []), (49, .iconst 1, 1, 1, 0, []), (50, .goto 4, 3, 0, 54, [])]
theorem ok_Mod_zeroAndSign_45 : blkOK b_Mod_zeroAndSign pt_Mod 53 I_Mod_zeroAndSign_45 = true := by decide +kernel
def I_Mod_zeroAndSign_53 : List IT := [(53, .iconst 0, 1, 0, 0, [])]
theorem ok_Mod_zeroAndSign_53 : blkOK b_Mod_zeroAndSign pt_Mod 54 I_Mod_zeroAndSign_53 = true := by decide +kernel
def I_Mod_zeroAndSign_54 : List IT := [(54, .invokevirtual 95, 3, 0, 0, []), (57, .return_, 1, 0, 0, [])]
theorem ok_Mod_zeroAndSign_54 : blkOK b_Mod_zeroAndSign pt_Mod 58 I_Mod_zeroAndSign_54 = true := by decide +kernel
def f_Mod_zeroAndSign_54 (σ : Sg) (y0 : Int32) (y1 : Int32) : Sg := (bnd (f_Mod_flag σ y1 y0) fun r1 => r1)
abbrev w_Mod_zeroAndSign_54 : List (Nat × Option Nat) := [(15, some 4)]
theorem p_Mod_zeroAndSign_54 {P : Sg → Prop} (hP : WP w_Mod_zeroAndSign_54 P) {σ : Sg} {y0 : Int32} {y1 : Int32} (h : P σ) : P (f_Mod_zeroAndSign_54 σ y0 y1) := by
  unfold f_Mod_zeroAndSign_54
  refine bnd_zz (Z := P) (p_Mod_flag (wsub hP rfl) h) fun r1 e1 q1 => ?_
  exact q1
set_option maxRecDepth 100000 in
set_option maxHeartbeats 4000000 in
theorem b_Mod_zeroAndSign_54 {l : Launch} {ad : Nat → Nat} {D : va_G} {cI : ClassId} {K : Option Value → Sg → Prop} {X : Nat → List Value → List Value → Sg → Prop} (hX : Cl l ad D cI mi_Mod_zeroAndSign pt_Mod K X) {σ : Sg} {y0 : Int32} {y1 : Int32} (z_y0 : y0 = 0 ∨ y0 = 1)  (hK : KV K (f_Mod_zeroAndSign_54 σ y0 y1)) : X 54 [.null, .null, .null] [.int y0, .int y1, .ref 15] σ := by
  unfold f_Mod_zeroAndSign_54 at hK
  refine hX.1 58 I_Mod_zeroAndSign_54 ok_Mod_zeroAndSign_54 _ _ _ ?_
  refine s_Mod_flag (bnd_g hK fun r1 e1 hK => ?_)
  exact hK
def f_Mod_zeroAndSign_45 (σ : Sg) (y0 : Int32) (y1 : Int32) (y2 : Int32) : Sg := (if (y1 &&& y0) = (0 : Int32) then (f_Mod_zeroAndSign_54 σ (0 : Int32) y2) else (f_Mod_zeroAndSign_54 σ (1 : Int32) y2))
abbrev w_Mod_zeroAndSign_45 : List (Nat × Option Nat) := [(15, some 4)]
theorem p_Mod_zeroAndSign_45 {P : Sg → Prop} (hP : WP w_Mod_zeroAndSign_45 P) {σ : Sg} {y0 : Int32} {y1 : Int32} {y2 : Int32} (h : P σ) : P (f_Mod_zeroAndSign_45 σ y0 y1 y2) := by
  unfold f_Mod_zeroAndSign_45
  refine ite_z (fun _ => ?_) (fun _ => ?_)
  · exact p_Mod_zeroAndSign_54 (wsub hP rfl) h
  · exact p_Mod_zeroAndSign_54 (wsub hP rfl) h
set_option maxRecDepth 100000 in
set_option maxHeartbeats 4000000 in
theorem b_Mod_zeroAndSign_45 {l : Launch} {ad : Nat → Nat} {D : va_G} {cI : ClassId} {K : Option Value → Sg → Prop} {X : Nat → List Value → List Value → Sg → Prop} (hX : Cl l ad D cI mi_Mod_zeroAndSign pt_Mod K X) {σ : Sg} {y0 : Int32} {y1 : Int32} {y2 : Int32}   (hK : KV K (f_Mod_zeroAndSign_45 σ y0 y1 y2)) : X 45 [.null, .null, .null] [.int y0, .int y1, .int y2, .ref 15] σ := by
  unfold f_Mod_zeroAndSign_45 at hK
  refine hX.1 53 I_Mod_zeroAndSign_45 ok_Mod_zeroAndSign_45 _ _ _ ?_
  refine And.intro (fun h1 => ?_) (fun h1 => ?_)
  · have hK := ite_p hK h1
    refine hX.1 54 I_Mod_zeroAndSign_53 ok_Mod_zeroAndSign_53 _ _ _ ?_
    exact b_Mod_zeroAndSign_54 hX (Or.inl rfl)  hK
  · have hK := ite_n hK h1
    exact b_Mod_zeroAndSign_54 hX (Or.inr rfl)  hK
def f_Mod_zeroAndSign_25 (σ : Sg) (x1 : Int32) (x2 : Int32) (y0 : Int32) (y1 : Int32) : Sg := (bnd (f_Mod_flag σ y1 y0) fun r1 => (if x2 = (0 : Int32) then (f_Mod_zeroAndSign_45 r1 (128 : Int32) x1 (128 : Int32)) else (f_Mod_zeroAndSign_45 r1 (32768 : Int32) x1 (128 : Int32))))
abbrev w_Mod_zeroAndSign_25 : List (Nat × Option Nat) := [(15, some 4)]
theorem p_Mod_zeroAndSign_25 {P : Sg → Prop} (hP : WP w_Mod_zeroAndSign_25 P) {σ : Sg} {x1 : Int32} {x2 : Int32} {y0 : Int32} {y1 : Int32} (h : P σ) : P (f_Mod_zeroAndSign_25 σ x1 x2 y0 y1) := by
  unfold f_Mod_zeroAndSign_25
  refine bnd_zz (Z := P) (p_Mod_flag (wsub hP rfl) h) fun r1 e1 q1 => ?_
  refine ite_z (fun _ => ?_) (fun _ => ?_)
  · exact p_Mod_zeroAndSign_45 (wsub hP rfl) q1
  · exact p_Mod_zeroAndSign_45 (wsub hP rfl) q1
set_option maxRecDepth 100000 in
set_option maxHeartbeats 4000000 in
theorem b_Mod_zeroAndSign_25 {l : Launch} {ad : Nat → Nat} {D : va_G} {cI : ClassId} {K : Option Value → Sg → Prop} {X : Nat → List Value → List Value → Sg → Prop} (hX : Cl l ad D cI mi_Mod_zeroAndSign pt_Mod K X) {σ : Sg} {x1 : Int32} {x2 : Int32} {y0 : Int32} {y1 : Int32} (z_y0 : y0 = 0 ∨ y0 = 1)  (hK : KV K (f_Mod_zeroAndSign_25 σ x1 x2 y0 y1)) : X 25 [.ref 15, .int x1, .int x2] [.int y0, .int y1, .ref 15] σ := by
  unfold f_Mod_zeroAndSign_25 at hK
  refine hX.1 42 I_Mod_zeroAndSign_25 ok_Mod_zeroAndSign_25 _ _ _ ?_
  refine s_Mod_flag (bnd_g hK fun r1 e1 hK => ?_)
  refine And.intro (fun h2 => ?_) (fun h2 => ?_)
  · have hK := ite_p hK h2
    refine hX.1 45 I_Mod_zeroAndSign_42 ok_Mod_zeroAndSign_42 _ _ _ ?_
    refine hX.fg [0, 1, 2] ?_
    exact b_Mod_zeroAndSign_45 hX  hK
  · have hK := ite_n hK h2
    refine hX.fg [0, 1, 2] ?_
    exact b_Mod_zeroAndSign_45 hX  hK
def f_Mod_zeroAndSign_16 (σ : Sg) (x1 : Int32) (x2 : Int32) (y0 : Int32) (y1 : Int32) (y2 : Int32) : Sg := (if (y1 &&& y0) = (0 : Int32) then (f_Mod_zeroAndSign_25 σ x1 x2 (1 : Int32) y2) else (f_Mod_zeroAndSign_25 σ x1 x2 (0 : Int32) y2))
abbrev w_Mod_zeroAndSign_16 : List (Nat × Option Nat) := [(15, some 4)]
theorem p_Mod_zeroAndSign_16 {P : Sg → Prop} (hP : WP w_Mod_zeroAndSign_16 P) {σ : Sg} {x1 : Int32} {x2 : Int32} {y0 : Int32} {y1 : Int32} {y2 : Int32} (h : P σ) : P (f_Mod_zeroAndSign_16 σ x1 x2 y0 y1 y2) := by
  unfold f_Mod_zeroAndSign_16
  refine ite_z (fun _ => ?_) (fun _ => ?_)
  · exact p_Mod_zeroAndSign_25 (wsub hP rfl) h
  · exact p_Mod_zeroAndSign_25 (wsub hP rfl) h
set_option maxRecDepth 100000 in
set_option maxHeartbeats 4000000 in
theorem b_Mod_zeroAndSign_16 {l : Launch} {ad : Nat → Nat} {D : va_G} {cI : ClassId} {K : Option Value → Sg → Prop} {X : Nat → List Value → List Value → Sg → Prop} (hX : Cl l ad D cI mi_Mod_zeroAndSign pt_Mod K X) {σ : Sg} {x1 : Int32} {x2 : Int32} {y0 : Int32} {y1 : Int32} {y2 : Int32}   (hK : KV K (f_Mod_zeroAndSign_16 σ x1 x2 y0 y1 y2)) : X 16 [.ref 15, .int x1, .int x2] [.int y0, .int y1, .int y2, .ref 15] σ := by
  unfold f_Mod_zeroAndSign_16 at hK
  refine hX.1 24 I_Mod_zeroAndSign_16 ok_Mod_zeroAndSign_16 _ _ _ ?_
  refine And.intro (fun h1 => ?_) (fun h1 => ?_)
  · have hK := ite_p hK h1
    exact b_Mod_zeroAndSign_25 hX (Or.inr rfl)  hK
  · have hK := ite_n hK h1
    refine hX.1 25 I_Mod_zeroAndSign_24 ok_Mod_zeroAndSign_24 _ _ _ ?_
    exact b_Mod_zeroAndSign_25 hX (Or.inl rfl)  hK
def f_Mod_zeroAndSign (σ : Sg) (a1 : Int32) (a2 : Int32) : Sg := (if a2 = (0 : Int32) then (f_Mod_zeroAndSign_16 σ a1 a2 (255 : Int32) a1 (64 : Int32)) else (f_Mod_zeroAndSign_16 σ a1 a2 (65535 : Int32) a1 (64 : Int32)))
abbrev w_Mod_zeroAndSign : List (Nat × Option Nat) := [(15, some 4)]
theorem p_Mod_zeroAndSign {P : Sg → Prop} (hP : WP w_Mod_zeroAndSign P) {σ : Sg} {a1 : Int32} {a2 : Int32} (h : P σ) : P (f_Mod_zeroAndSign σ a1 a2) := by
  unfold f_Mod_zeroAndSign
  refine ite_z (fun _ => ?_) (fun _ => ?_)
  · exact p_Mod_zeroAndSign_16 (wsub hP rfl) h
  · exact p_Mod_zeroAndSign_16 (wsub hP rfl) h
set_option maxRecDepth 100000 in
set_option maxHeartbeats 4000000 in
theorem s_Mod_zeroAndSign {l : Launch} {ad : Nat → Nat} {D : va_G} {cI : ClassId} {σ : Sg} {a1 : Int32} {a2 : Int32} {K : Option Value → Sg → Prop}   (hK : KV K (f_Mod_zeroAndSign σ a1 a2)) : MetJ l ad D cI mi_Mod_zeroAndSign [.ref 15, .int a1, .int a2] σ K := by
  refine met_of mi_Mod_zeroAndSign pt_Mod pt_Mod_in rfl pl_Mod rfl (Nat.le_of_ble_eq_true rfl) fun X hX => ?_
  have hX : Cl l ad D cI mi_Mod_zeroAndSign pt_Mod K X := hX
  show X 0 [.ref 15, .int a1, .int a2] [] σ
  unfold f_Mod_zeroAndSign at hK
  refine hX.1 13 I_Mod_zeroAndSign_0 ok_Mod_zeroAndSign_0 _ _ _ ?_
  refine And.intro (fun h1 => ?_) (fun h1 => ?_)
  · have hK := ite_p hK h1
    refine hX.1 16 I_Mod_zeroAndSign_13 ok_Mod_zeroAndSign_13 _ _ _ ?_
    exact b_Mod_zeroAndSign_16 hX  hK
  · have hK := ite_n hK h1
    exact b_Mod_zeroAndSign_16 hX  hK
def I_Mod_signed_0 : List IT := [(0, .iload_n 1, 1, 0, 0, []), (1, .ifCond .eq 13, 3, 0, 14, []), (4, .iload_n 0, 1, 0, 0, []), (5, .ldc 99, 2, 32768, 0, []), (7, .ixor, 1, 0, 0, []), (8, .ldc 99, 2, 32768, 0, []), (10, .isub, 1, 0, 0, []), (11, .goto 12, 3, 0, 23, [])]
theorem ok_Mod_signed_0 : blkOK b_Mod_signed pt_Mod 14 I_Mod_signed_0 = true := by decide +kernel
def I_Mod_signed_14 : List IT := [(14, .iload_n 0, 1, 0, 0, []), (15, .sipush 128, 3, 128, 0, []), (18, .ixor, 1, 0, 0, []), (19, .sipush 128, 3, 128, 0, []), (22, .isub, 1, 0, 0, [])]
theorem ok_Mod_signed_14 : blkOK b_Mod_signed pt_Mod 23 I_Mod_signed_14 = true := by decide +kernel
def I_Mod_signed_23 : List IT := [(23, .ireturn, 1, 0, 0, [])]
theorem ok_Mod_signed_23 : blkOK b_Mod_signed pt_Mod 24 I_Mod_signed_23 = true := by decide +kernel
def f_Mod_signed (σ : Sg) (a1 : Int32) (a2 : Int32) : Int32 × Sg := (if a2 = (0 : Int32) then (((a1 ^^^ (128 : Int32)) - (128 : Int32)), σ) else (((a1 ^^^ (32768 : Int32)) - (32768 : Int32)), σ))
abbrev w_Mod_signed : List (Nat × Option Nat) := []
theorem p_Mod_signed {P : Sg → Prop} (hP : WP w_Mod_signed P) {σ : Sg} {a1 : Int32} {a2 : Int32} (h : P σ) : PP P (f_Mod_signed σ a1 a2) := by
  unfold f_Mod_signed
  refine ite_z (fun _ => ?_) (fun _ => ?_)
  · exact h
  · exact h
set_option maxRecDepth 100000 in
set_option maxHeartbeats 4000000 in
theorem s_Mod_signed {l : Launch} {ad : Nat → Nat} {D : va_G} {cI : ClassId} {σ : Sg} {a1 : Int32} {a2 : Int32} {K : Option Value → Sg → Prop}   (hK : KI K (f_Mod_signed σ a1 a2)) : MetJ l ad D cI mi_Mod_signed [.int a1, .int a2] σ K := by
  refine met_of mi_Mod_signed pt_Mod pt_Mod_in rfl pl_Mod rfl (Nat.le_of_ble_eq_true rfl) fun X hX => ?_
  have hX : Cl l ad D cI mi_Mod_signed pt_Mod K X := hX
  show X 0 [.int a1, .int a2] [] σ
  unfold f_Mod_signed at hK
  refine hX.1 14 I_Mod_signed_0 ok_Mod_signed_0 _ _ _ ?_
  refine And.intro (fun h1 => ?_) (fun h1 => ?_)
  · have hK := ite_p hK h1
    refine hX.1 23 I_Mod_signed_14 ok_Mod_signed_14 _ _ _ ?_
    refine hX.1 24 I_Mod_signed_23 ok_Mod_signed_23 _ _ _ ?_
    exact hK
  · have hK := ite_n hK h1
    refine hX.1 24 I_Mod_signed_23 ok_Mod_signed_23 _ _ _ ?_
    exact hK
def I_Mod_hasRoom_0 : List IT := [(0, .iload_n 1, 1, 0, 0, []), (1, .ifCond .eq 16, 3, 0, 17, []), (4, .iload_n 0, 1, 0, 0, []), (5, .sipush (-32768), 3, (-32768), 0, []), (8, .sipush 32767, 3, 32767, 0, []), (11, .invokestatic 100, 3, 0, 0, []), (14, .goto 11, 3, 0, 25, [])]
theorem ok_Mod_hasRoom_0 : blkOK b_Mod_hasRoom pt_Mod 17 I_Mod_hasRoom_0 = true := by decide +kernel
def I_Mod_hasRoom_17 : List IT := [(17, .iload_n 0, 1, 0, 0, []), (18, .bipush (-128), 2, (-128), 0, []), (20, .bipush 127, 2, 127, 0, []), (22, .invokestatic 100, 3, 0, 0, [])]
theorem ok_Mod_hasRoom_17 : blkOK b_Mod_hasRoom pt_Mod 25 I_Mod_hasRoom_17 = true := by decide +kernel
def I_Mod_hasRoom_25 : List IT := [(25, .ireturn, 1, 0, 0, [])]
theorem ok_Mod_hasRoom_25 : blkOK b_Mod_hasRoom pt_Mod 26 I_Mod_hasRoom_25 = true := by decide +kernel
def f_Mod_hasRoom (σ : Sg) (a1 : Int32) (a2 : Int32) : Int32 × Sg := (if a2 = (0 : Int32) then (bnd (f_Mod_in σ a1 (-128 : Int32) (127 : Int32)) fun r2 => (r2.1, r2.2)) else (bnd (f_Mod_in σ a1 (-32768 : Int32) (32767 : Int32)) fun r3 => (r3.1, r3.2)))
theorem z_Mod_hasRoom {σ : Sg} {a1 : Int32} {a2 : Int32}   : (f_Mod_hasRoom σ a1 a2).1 = 0 ∨ (f_Mod_hasRoom σ a1 a2).1 = 1 := by
  show Zb (f_Mod_hasRoom σ a1 a2)
  unfold f_Mod_hasRoom
  refine ite_z (fun h1 => ?_) (fun h1 => ?_)
  · refine bnd_zz (Z := Zb) (z_Mod_in) fun r2 e2 z2 => ?_
    exact z2
  · refine bnd_zz (Z := Zb) (z_Mod_in) fun r3 e3 z3 => ?_
    exact z3
abbrev w_Mod_hasRoom : List (Nat × Option Nat) := []
theorem p_Mod_hasRoom {P : Sg → Prop} (hP : WP w_Mod_hasRoom P) {σ : Sg} {a1 : Int32} {a2 : Int32} (h : P σ) : PP P (f_Mod_hasRoom σ a1 a2) := by
  unfold f_Mod_hasRoom
  refine ite_z (fun _ => ?_) (fun _ => ?_)
  · refine bnd_zz (Z := PP P) (p_Mod_in (wsub hP rfl) h) fun r2 e2 q2 => ?_
    exact q2
  · refine bnd_zz (Z := PP P) (p_Mod_in (wsub hP rfl) h) fun r3 e3 q3 => ?_
    exact q3
set_option maxRecDepth 100000 in
set_option maxHeartbeats 4000000 in
theorem s_Mod_hasRoom {l : Launch} {ad : Nat → Nat} {D : va_G} {cI : ClassId} {σ : Sg} {a1 : Int32} {a2 : Int32} {K : Option Value → Sg → Prop}   (hK : KI K (f_Mod_hasRoom σ a1 a2)) : MetJ l ad D cI mi_Mod_hasRoom [.int a1, .int a2] σ K := by
  refine met_of mi_Mod_hasRoom pt_Mod pt_Mod_in rfl pl_Mod rfl (Nat.le_of_ble_eq_true rfl) fun X hX => ?_
  have hX : Cl l ad D cI mi_Mod_hasRoom pt_Mod K X := hX
  show X 0 [.int a1, .int a2] [] σ
  unfold f_Mod_hasRoom at hK
  refine hX.1 17 I_Mod_hasRoom_0 ok_Mod_hasRoom_0 _ _ _ ?_
  refine And.intro (fun h1 => ?_) (fun h1 => ?_)
  · have hK := ite_p hK h1
    refine hX.1 25 I_Mod_hasRoom_17 ok_Mod_hasRoom_17 _ _ _ ?_
    refine s_Mod_in (bnd_g hK fun r2 e2 hK => ?_)
    have z2 : r2.1 = 0 ∨ r2.1 = 1 := by rw [← e2]; exact z_Mod_in
    refine hX.1 26 I_Mod_hasRoom_25 ok_Mod_hasRoom_25 _ _ _ ?_
    exact And.intro z2 hK
  · have hK := ite_n hK h1
    refine s_Mod_in (bnd_g hK fun r3 e3 hK => ?_)
    have z3 : r3.1 = 0 ∨ r3.1 = 1 := by rw [← e3]; exact z_Mod_in
    refine hX.1 26 I_Mod_hasRoom_25 ok_Mod_hasRoom_25 _ _ _ ?_
    exact And.intro z3 hK
def I_Mod_plus_0 : List IT := [(0, .iload_n 1, 1, 0, 0, []), (1, .iload_n 2, 1, 0, 0, []), (2, .iadd, 1, 0, 0, []), (3, .iload_n 3, 1, 0, 0, []), (4, .iadd, 1, 0, 0, []), (5, .istore 5, 2, 0, 0, []), (7, .aload_n 0, 1, 0, 0, []), (8, .iconst 1, 1, 1, 0, []), (9, .iload 5, 2, 0, 0, []), (11, .iload 4, 2, 0, 0, []), (13, .ifCond .eq 8, 3, 0, 21, []), (16, .ldc 32, 2, 65535, 0, []), (18, .goto 6, 3, 0, 24, [])]
theorem ok_Mod_plus_0 : blkOK b_Mod_plus pt_Mod 21 I_Mod_plus_0 = true := by decide +kernel
def I_Mod_plus_21 : List IT := [(21, .sipush 255, 3, 255, 0, [])]
theorem ok_Mod_plus_21 : blkOK b_Mod_plus pt_Mod 24 I_Mod_plus_21 = true := by decide +kernel
def I_Mod_plus_24 : List IT := [(24, .if_icmp .le 7, 3, 0, 31, []), (27, .iconst 1, 1, 1, 0, []), (28, .goto 4, 3, 0, 32, [])]
theorem ok_Mod_plus_24 : blkOK b_Mod_plus pt_Mod 31 I_Mod_plus_24 = true := by decide +kernel
def I_Mod_plus_31 : List IT := [(31, .iconst 0, 1, 0, 0, [])]
theorem ok_Mod_plus_31 : blkOK b_Mod_plus pt_Mod 32 I_Mod_plus_31 = true := by decide +kernel
def I_Mod_plus_32 : List IT := [(32, .invokevirtual 95, 3, 0, 0, []), (35, .aload_n 0, 1, 0, 0, []), (36, .sipush 2048, 3, 2048, 0, []), (39, .iload_n 1, 1, 0, 0, []), (40, .iload 4, 2, 0, 0, []), (42, .invokestatic 104, 3, 0, 0, []), (45, .iload_n 2, 1, 0, 0, []), (46, .iload 4, 2, 0, 0, []), (48, .invokestatic 104, 3, 0, 0, []), (51, .iadd, 1, 0, 0, []), (52, .iload_n 3, 1, 0, 0, []), (53, .iadd, 1, 0, 0, []), (54, .iload 4, 2, 0, 0, []), (56, .invokestatic 107, 3, 0, 0, []), (59, .ifCond .ne 7, 3, 0, 66, []), (62, .iconst 1, 1, 1, 0, []), (63, .goto 4, 3, 0, 67, [])]
theorem ok_Mod_plus_32 : blkOK b_Mod_plus pt_Mod 66 I_Mod_plus_32 = true := by decide +kernel
def I_Mod_plus_66 : List IT := [(66, .iconst 0, 1, 0, 0, [])]
theorem ok_Mod_plus_66 : blkOK b_Mod_plus pt_Mod 67 I_Mod_plus_66 = true := by decide +kernel
def I_Mod_plus_67 : List IT := [(67, .invokevirtual 95, 3, 0, 0, []), (70, .aload_n 0, 1, 0, 0, []), (71, .iload 5, 2, 0, 0, []), (73, .iload 4, 2, 0, 0, []), (75, .invokevirtual 111, 3, 0, 0, []), (78, .iload 5, 2, 0, 0, []), (80, .iload 4, 2, 0, 0, []), (82, .ifCond .eq 8, 3, 0, 90, []), (85, .ldc 32, 2, 65535, 0, []), (87, .goto 6, 3, 0, 93, [])]
theorem ok_Mod_plus_67 : blkOK b_Mod_plus pt_Mod 90 I_Mod_plus_67 = true := by decide +kernel
def I_Mod_plus_90 : List IT := [(90, .sipush 255, 3, 255, 0, [])]
theorem ok_Mod_plus_90 : blkOK b_Mod_plus pt_Mod 93 I_Mod_plus_90 = true := by decide +kernel
def I_Mod_plus_93 : List IT := [(93, .iand, 1, 0, 0, []), (94, .ireturn, 1, 0, 0, [])]
theorem ok_Mod_plus_93 : blkOK b_Mod_plus pt_Mod 95 I_Mod_plus_93 = true := by decide +kernel
def f_Mod_plus_67 (σ : Sg) (x4 : Int32) (x5 : Int32) (y0 : Int32) (y1 : Int32) : Int32 × Sg := (bnd (f_Mod_flag σ y1 y0) fun r1 => bnd (f_Mod_zeroAndSign r1 x5 x4) fun r2 => (if x4 = (0 : Int32) then ((x5 &&& (255 : Int32)), r2) else ((x5 &&& (65535 : Int32)), r2)))
abbrev w_Mod_plus_67 : List (Nat × Option Nat) := [(15, some 4)]
theorem p_Mod_plus_67 {P : Sg → Prop} (hP : WP w_Mod_plus_67 P) {σ : Sg} {x4 : Int32} {x5 : Int32} {y0 : Int32} {y1 : Int32} (h : P σ) : PP P (f_Mod_plus_67 σ x4 x5 y0 y1) := by
  unfold f_Mod_plus_67
  refine bnd_zz (Z := P) (p_Mod_flag (wsub hP rfl) h) fun r1 e1 q1 => ?_
  refine bnd_zz (Z := P) (p_Mod_zeroAndSign (wsub hP rfl) q1) fun r2 e2 q2 => ?_
  refine ite_z (fun _ => ?_) (fun _ => ?_)
  · exact q2
  · exact q2
set_option maxRecDepth 100000 in
set_option maxHeartbeats 4000000 in
theorem b_Mod_plus_67 {l : Launch} {ad : Nat → Nat} {D : va_G} {cI : ClassId} {K : Option Value → Sg → Prop} {X : Nat → List Value → List Value → Sg → Prop} (hX : Cl l ad D cI mi_Mod_plus pt_Mod K X) {σ : Sg} {x4 : Int32} {x5 : Int32} {y0 : Int32} {y1 : Int32} (z_y0 : y0 = 0 ∨ y0 = 1)  (hK : KI K (f_Mod_plus_67 σ x4 x5 y0 y1)) : X 67 [.ref 15, .null, .null, .null, .int x4, .int x5] [.int y0, .int y1, .ref 15] σ := by
  unfold f_Mod_plus_67 at hK
  refine hX.1 90 I_Mod_plus_67 ok_Mod_plus_67 _ _ _ ?_
  refine s_Mod_flag (bnd_g hK fun r1 e1 hK => ?_)
  refine s_Mod_zeroAndSign (bnd_g hK fun r2 e2 hK => ?_)
  refine And.intro (fun h3 => ?_) (fun h3 => ?_)
  · have hK := ite_p hK h3
    refine hX.1 93 I_Mod_plus_90 ok_Mod_plus_90 _ _ _ ?_
    refine hX.1 95 I_Mod_plus_93 ok_Mod_plus_93 _ _ _ ?_
    exact hK
  · have hK := ite_n hK h3
    refine hX.1 95 I_Mod_plus_93 ok_Mod_plus_93 _ _ _ ?_
    exact hK
def f_Mod_plus_32 (σ : Sg) (x1 : Int32) (x2 : Int32) (x3 : Int32) (x4 : Int32) (x5 : Int32) (y0 : Int32) (y1 : Int32) : Int32 × Sg := (bnd (f_Mod_flag σ y1 y0) fun r1 => bnd (f_Mod_signed r1 x1 x4) fun r2 => bnd (f_Mod_signed r2.2 x2 x4) fun r3 => bnd (f_Mod_hasRoom r3.2 ((r2.1 + r3.1) + x3) x4) fun r4 => (if r4.1 = (0 : Int32) then (f_Mod_plus_67 r4.2 x4 x5 (1 : Int32) (2048 : Int32)) else (f_Mod_plus_67 r4.2 x4 x5 (0 : Int32) (2048 : Int32))))
abbrev w_Mod_plus_32 : List (Nat × Option Nat) := [(15, some 4)]
theorem p_Mod_plus_32 {P : Sg → Prop} (hP : WP w_Mod_plus_32 P) {σ : Sg} {x1 : Int32} {x2 : Int32} {x3 : Int32} {x4 : Int32} {x5 : Int32} {y0 : Int32} {y1 : Int32} (h : P σ) : PP P (f_Mod_plus_32 σ x1 x2 x3 x4 x5 y0 y1) := by
  unfold f_Mod_plus_32
  refine bnd_zz (Z := P) (p_Mod_flag (wsub hP rfl) h) fun r1 e1 q1 => ?_
  refine bnd_zz (Z := PP P) (p_Mod_signed (wsub hP rfl) q1) fun r2 e2 q2 => ?_
  refine bnd_zz (Z := PP P) (p_Mod_signed (wsub hP rfl) q2) fun r3 e3 q3 => ?_
  refine bnd_zz (Z := PP P) (p_Mod_hasRoom (wsub hP rfl) q3) fun r4 e4 q4 => ?_
  refine ite_z (fun _ => ?_) (fun _ => ?_)
  · exact p_Mod_plus_67 (wsub hP rfl) q4
  · exact p_Mod_plus_67 (wsub hP rfl) q4
set_option maxRecDepth 100000 in
set_option maxHeartbeats 4000000 in
theorem b_Mod_plus_32 {l : Launch} {ad : Nat → Nat} {D : va_G} {cI : ClassId} {K : Option Value → Sg → Prop} {X : Nat → List Value → List Value → Sg → Prop} (hX : Cl l ad D cI mi_Mod_plus pt_Mod K X) {σ : Sg} {x1 : Int32} {x2 : Int32} {x3 : Int32} {x4 : Int32} {x5 : Int32} {y0 : Int32} {y1 : Int32} (z_y0 : y0 = 0 ∨ y0 = 1) (z_y1 : y1 = 0 ∨ y1 = 1)  (hK : KI K (f_Mod_plus_32 σ x1 x2 x3 x4 x5 y0 y1)) : X 32 [.ref 15, .int x1, .int x2, .int x3, .int x4, .int x5] [.int y0, .int y1, .ref 15] σ := by
  unfold f_Mod_plus_32 at hK
  refine hX.1 66 I_Mod_plus_32 ok_Mod_plus_32 _ _ _ ?_
  refine s_Mod_flag (bnd_g hK fun r1 e1 hK => ?_)
  refine s_Mod_signed (bnd_g hK fun r2 e2 hK => ?_)
  refine s_Mod_signed (bnd_g hK fun r3 e3 hK => ?_)
  refine s_Mod_hasRoom (bnd_g hK fun r4 e4 hK => ?_)
  have z4 : r4.1 = 0 ∨ r4.1 = 1 := by rw [← e4]; exact z_Mod_hasRoom
  refine And.intro (fun h5 => ?_) (fun h5 => ?_)
  · have hK := ite_p hK h5
    refine hX.fg [1, 2, 3] ?_
    exact b_Mod_plus_67 hX (Or.inr rfl)  hK
  · have hK := ite_n hK h5
    refine hX.1 67 I_Mod_plus_66 ok_Mod_plus_66 _ _ _ ?_
    refine hX.fg [1, 2, 3] ?_
    exact b_Mod_plus_67 hX (Or.inl rfl)  hK
def f_Mod_plus_24 (σ : Sg) (x1 : Int32) (x2 : Int32) (x3 : Int32) (x4 : Int32) (x5 : Int32) (y0 : Int32) (y1 : Int32) (y2 : Int32) : Int32 × Sg := (if y1 ≤ y0 then (f_Mod_plus_32 σ x1 x2 x3 x4 x5 (0 : Int32) y2) else (f_Mod_plus_32 σ x1 x2 x3 x4 x5 (1 : Int32) y2))
abbrev w_Mod_plus_24 : List (Nat × Option Nat) := [(15, some 4)]
theorem p_Mod_plus_24 {P : Sg → Prop} (hP : WP w_Mod_plus_24 P) {σ : Sg} {x1 : Int32} {x2 : Int32} {x3 : Int32} {x4 : Int32} {x5 : Int32} {y0 : Int32} {y1 : Int32} {y2 : Int32} (h : P σ) : PP P (f_Mod_plus_24 σ x1 x2 x3 x4 x5 y0 y1 y2) := by
  unfold f_Mod_plus_24
  refine ite_z (fun _ => ?_) (fun _ => ?_)
  · exact p_Mod_plus_32 (wsub hP rfl) h
  · exact p_Mod_plus_32 (wsub hP rfl) h
set_option maxRecDepth 100000 in
set_option maxHeartbeats 4000000 in
theorem b_Mod_plus_24 {l : Launch} {ad : Nat → Nat} {D : va_G} {cI : ClassId} {K : Option Value → Sg → Prop} {X : Nat → List Value → List Value → Sg → Prop} (hX : Cl l ad D cI mi_Mod_plus pt_Mod K X) {σ : Sg} {x1 : Int32} {x2 : Int32} {x3 : Int32} {x4 : Int32} {x5 : Int32} {y0 : Int32} {y1 : Int32} {y2 : Int32} (z_y2 : y2 = 0 ∨ y2 = 1)  (hK : KI K (f_Mod_plus_24 σ x1 x2 x3 x4 x5 y0 y1 y2)) : X 24 [.ref 15, .int x1, .int x2, .int x3, .int x4, .int x5] [.int y0, .int y1, .int y2, .ref 15] σ := by
  unfold f_Mod_plus_24 at hK
  refine hX.1 31 I_Mod_plus_24 ok_Mod_plus_24 _ _ _ ?_
  refine And.intro (fun h1 => ?_) (fun h1 => ?_)
  · have hK := ite_p hK h1
    refine hX.1 32 I_Mod_plus_31 ok_Mod_plus_31 _ _ _ ?_
    exact b_Mod_plus_32 hX (Or.inl rfl) z_y2  hK
  · have hK := ite_n hK h1
    exact b_Mod_plus_32 hX (Or.inr rfl) z_y2  hK
def f_Mod_plus (σ : Sg) (a1 : Int32) (a2 : Int32) (a3 : Int32) (a4 : Int32) : Int32 × Sg := (if a4 = (0 : Int32) then (f_Mod_plus_24 σ a1 a2 a3 a4 ((a1 + a2) + a3) (255 : Int32) ((a1 + a2) + a3) (1 : Int32)) else (f_Mod_plus_24 σ a1 a2 a3 a4 ((a1 + a2) + a3) (65535 : Int32) ((a1 + a2) + a3) (1 : Int32)))
abbrev w_Mod_plus : List (Nat × Option Nat) := [(15, some 4)]
theorem p_Mod_plus {P : Sg → Prop} (hP : WP w_Mod_plus P) {σ : Sg} {a1 : Int32} {a2 : Int32} {a3 : Int32} {a4 : Int32} (h : P σ) : PP P (f_Mod_plus σ a1 a2 a3 a4) := by
  unfold f_Mod_plus
  refine ite_z (fun _ => ?_) (fun _ => ?_)
  · exact p_Mod_plus_24 (wsub hP rfl) h
  · exact p_Mod_plus_24 (wsub hP rfl) h
set_option maxRecDepth 100000 in
set_option maxHeartbeats 4000000 in
theorem s_Mod_plus {l : Launch} {ad : Nat → Nat} {D : va_G} {cI : ClassId} {σ : Sg} {a1 : Int32} {a2 : Int32} {a3 : Int32} {a4 : Int32} {K : Option Value → Sg → Prop}   (hK : KI K (f_Mod_plus σ a1 a2 a3 a4)) : MetJ l ad D cI mi_Mod_plus [.ref 15, .int a1, .int a2, .int a3, .int a4] σ K := by
  refine met_of mi_Mod_plus pt_Mod pt_Mod_in rfl pl_Mod rfl (Nat.le_of_ble_eq_true rfl) fun X hX => ?_
  have hX : Cl l ad D cI mi_Mod_plus pt_Mod K X := hX
  show X 0 [.ref 15, .int a1, .int a2, .int a3, .int a4, .null] [] σ
  unfold f_Mod_plus at hK
  refine hX.1 21 I_Mod_plus_0 ok_Mod_plus_0 _ _ _ ?_
  refine And.intro (fun h1 => ?_) (fun h1 => ?_)
  · have hK := ite_p hK h1
    refine hX.1 24 I_Mod_plus_21 ok_Mod_plus_21 _ _ _ ?_
    exact b_Mod_plus_24 hX (Or.inr rfl)  hK
  · have hK := ite_n hK h1
    exact b_Mod_plus_24 hX (Or.inr rfl)  hK
