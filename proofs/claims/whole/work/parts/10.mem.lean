def I_Mem_has_0 : List IT := [(0, .iload_n 0, 1, 0, 0, []), (1, .ifCond .lt 14, 3, 0, 15, []), (4, .iload_n 0, 1, 0, 0, []), (5, .sipush 1024, 3, 1024, 0, []), (8, .if_icmp .ge 7, 3, 0, 15, []), (11, .iconst 1, 1, 1, 0, []), (12, .goto 4, 3, 0, 16, [])]
theorem ok_Mem_has_0 : blkOK b_Mem_has pt_Mem 15 I_Mem_has_0 = true := by decide +kernel
def I_Mem_has_15 : List IT := [(15, .iconst 0, 1, 0, 0, [])]
theorem ok_Mem_has_15 : blkOK b_Mem_has pt_Mem 16 I_Mem_has_15 = true := by decide +kernel
def I_Mem_has_16 : List IT := [(16, .ireturn, 1, 0, 0, [])]
theorem ok_Mem_has_16 : blkOK b_Mem_has pt_Mem 17 I_Mem_has_16 = true := by decide +kernel
def f_Mem_has (σ : Sg) (a1 : Int32) : Int32 × Sg := (if a1 < (0 : Int32) then ((0 : Int32), σ) else (if (1024 : Int32) ≤ a1 then ((0 : Int32), σ) else ((1 : Int32), σ)))
theorem z_Mem_has {σ : Sg} {a1 : Int32}   : (f_Mem_has σ a1).1 = 0 ∨ (f_Mem_has σ a1).1 = 1 := by
  show Zb (f_Mem_has σ a1)
  unfold f_Mem_has
  refine ite_z (fun h1 => ?_) (fun h1 => ?_)
  · exact (Or.inl rfl)
  · refine ite_z (fun h2 => ?_) (fun h2 => ?_)
    · exact (Or.inl rfl)
    · exact (Or.inr rfl)
abbrev w_Mem_has : List (Nat × Option Nat) := []
theorem p_Mem_has {P : Sg → Prop} (hP : WP w_Mem_has P) {σ : Sg} {a1 : Int32} (h : P σ) : PP P (f_Mem_has σ a1) := by
  unfold f_Mem_has
  refine ite_z (fun _ => ?_) (fun _ => ?_)
  · exact h
  · refine ite_z (fun _ => ?_) (fun _ => ?_)
    · exact h
    · exact h
set_option maxRecDepth 100000 in
set_option maxHeartbeats 4000000 in
theorem s_Mem_has {l : Launch} {ad : Nat → Nat} {D : va_G} {cI : ClassId} {σ : Sg} {a1 : Int32} {K : Option Value → Sg → Prop}   (hK : KI K (f_Mem_has σ a1)) : MetJ l ad D cI mi_Mem_has [.int a1] σ K := by
  refine met_of mi_Mem_has pt_Mem pt_Mem_in rfl pl_Mem rfl (Nat.le_of_ble_eq_true rfl) fun X hX => ?_
  have hX : Cl l ad D cI mi_Mem_has pt_Mem K X := hX
  show X 0 [.int a1] [] σ
  unfold f_Mem_has at hK
  refine hX.1 15 I_Mem_has_0 ok_Mem_has_0 _ _ _ ?_
  refine And.intro (fun h1 => ?_) (fun h1 => ?_)
  · have hK := ite_p hK h1
    refine hX.1 16 I_Mem_has_15 ok_Mem_has_15 _ _ _ ?_
    refine hX.1 17 I_Mem_has_16 ok_Mem_has_16 _ _ _ ?_
    exact And.intro (Or.inl rfl) hK
  · have hK := ite_n hK h1
    refine And.intro (fun h2 => ?_) (fun h2 => ?_)
    · have hK := ite_p hK h2
      refine hX.1 16 I_Mem_has_15 ok_Mem_has_15 _ _ _ ?_
      refine hX.1 17 I_Mem_has_16 ok_Mem_has_16 _ _ _ ?_
      exact And.intro (Or.inl rfl) hK
    · have hK := ite_n hK h2
      refine hX.1 17 I_Mem_has_16 ok_Mem_has_16 _ _ _ ?_
      exact And.intro (Or.inr rfl) hK
def I_Mem_byteAt_0 : List IT := [(0, .aload_n 0, 1, 0, 0, []), (1, .getfield 9, 3, 0, 0, []), (4, .iload_n 1, 1, 0, 0, []), (5, .sipush 1023, 3, 1023, 0, []), (8, .iand, 1, 0, 0, []), (9, .iaload, 1, 0, 0, []), (10, .ireturn, 1, 0, 0, [])]
theorem ok_Mem_byteAt_0 : blkOK b_Mem_byteAt pt_Mem 11 I_Mem_byteAt_0 = true := by decide +kernel
def f_Mem_byteAt (σ : Sg) (a1 : Int32) : Int32 × Sg := ((σ 2 (Int32.toNatClampNeg (a1 &&& (1023 : Int32)))), σ)
abbrev w_Mem_byteAt : List (Nat × Option Nat) := []
theorem p_Mem_byteAt {P : Sg → Prop} (hP : WP w_Mem_byteAt P) {σ : Sg} {a1 : Int32} (h : P σ) : PP P (f_Mem_byteAt σ a1) := by
  unfold f_Mem_byteAt
  exact h
set_option maxRecDepth 100000 in
set_option maxHeartbeats 4000000 in
theorem s_Mem_byteAt {l : Launch} {ad : Nat → Nat} {D : va_G} {cI : ClassId} {σ : Sg} {a1 : Int32} {K : Option Value → Sg → Prop}   (hK : KI K (f_Mem_byteAt σ a1)) : MetJ l ad D cI mi_Mem_byteAt [.ref 1, .int a1] σ K := by
  refine met_of mi_Mem_byteAt pt_Mem pt_Mem_in rfl pl_Mem rfl (Nat.le_of_ble_eq_true rfl) fun X hX => ?_
  have hX : Cl l ad D cI mi_Mem_byteAt pt_Mem K X := hX
  show X 0 [.ref 1, .int a1] [] σ
  unfold f_Mem_byteAt at hK
  refine hX.1 11 I_Mem_byteAt_0 ok_Mem_byteAt_0 _ _ _ ?_
  refine And.intro (pk_andIn _ 10 rfl (by decide)) ?_
  exact hK
def I_Mem_setByteAt_0 : List IT := [(0, .aload_n 0, 1, 0, 0, []), (1, .getfield 9, 3, 0, 0, []), (4, .iload_n 1, 1, 0, 0, []), (5, .sipush 1023, 3, 1023, 0, []), (8, .iand, 1, 0, 0, []), (9, .iload_n 2, 1, 0, 0, []), (10, .iastore, 1, 0, 0, []), (11, .return_, 1, 0, 0, [])]
theorem ok_Mem_setByteAt_0 : blkOK b_Mem_setByteAt pt_Mem 12 I_Mem_setByteAt_0 = true := by decide +kernel
def f_Mem_setByteAt (σ : Sg) (a1 : Int32) (a2 : Int32) : Sg := (bnd (up2 σ 2 (Int32.toNatClampNeg (a1 &&& (1023 : Int32))) a2) fun s1 => s1)
abbrev w_Mem_setByteAt : List (Nat × Option Nat) := [(2, none)]
theorem p_Mem_setByteAt {P : Sg → Prop} (hP : WP w_Mem_setByteAt P) {σ : Sg} {a1 : Int32} {a2 : Int32} (h : P σ) : P (f_Mem_setByteAt σ a1 a2) := by
  unfold f_Mem_setByteAt
  refine bnd_zz (Z := P) (hP _ _ _ _ (Or.inl (by decide)) h) fun s1 e1 q1 => ?_
  exact q1
set_option maxRecDepth 100000 in
set_option maxHeartbeats 4000000 in
theorem s_Mem_setByteAt {l : Launch} {ad : Nat → Nat} {D : va_G} {cI : ClassId} {σ : Sg} {a1 : Int32} {a2 : Int32} {K : Option Value → Sg → Prop}   (hK : KV K (f_Mem_setByteAt σ a1 a2)) : MetJ l ad D cI mi_Mem_setByteAt [.ref 1, .int a1, .int a2] σ K := by
  refine met_of mi_Mem_setByteAt pt_Mem pt_Mem_in rfl pl_Mem rfl (Nat.le_of_ble_eq_true rfl) fun X hX => ?_
  have hX : Cl l ad D cI mi_Mem_setByteAt pt_Mem K X := hX
  show X 0 [.ref 1, .int a1, .int a2] [] σ
  unfold f_Mem_setByteAt at hK
  refine hX.1 12 I_Mem_setByteAt_0 ok_Mem_setByteAt_0 _ _ _ ?_
  refine And.intro (pk_andIn _ 10 rfl (by decide)) (SG_g hK fun s1 e1 hK => ?_)
  exact hK
def I_Mem_fetch_0 : List IT := [(0, .bipush 16, 2, 16, 0, []), (2, .iload_n 1, 1, 0, 0, []), (3, .imul, 1, 0, 0, []), (4, .iload_n 2, 1, 0, 0, []), (5, .iadd, 1, 0, 0, []), (6, .istore 4, 2, 0, 0, []), (8, .aload_n 0, 1, 0, 0, []), (9, .getfield 9, 3, 0, 0, []), (12, .iload 4, 2, 0, 0, []), (14, .sipush 1023, 3, 1023, 0, []), (17, .iand, 1, 0, 0, []), (18, .iaload, 1, 0, 0, []), (19, .istore 5, 2, 0, 0, []), (21, .iload_n 3, 1, 0, 0, []), (22, .ifCond .eq 25, 3, 0, 47, []), (25, .iload 5, 2, 0, 0, []), (27, .aload_n 0, 1, 0, 0, []), (28, .getfield 9, 3, 0, 0, []), (31, .iload 4, 2, 0, 0, []), (33, .iconst 1, 1, 1, 0, []), (34, .iadd, 1, 0, 0, []), (35, .sipush 1023, 3, 1023, 0, []), (38, .iand, 1, 0, 0, []), (39, .iaload, 1, 0, 0, []), (40, .bipush 8, 2, 8, 0, []), (42, .ishl, 1, 0, 0, []), (43, .ior, 1, 0, 0, []), (44, .goto 5, 3, 0, 49, [])]
theorem ok_Mem_fetch_0 : blkOK b_Mem_fetch pt_Mem 47 I_Mem_fetch_0 = true := by decide +kernel
def I_Mem_fetch_47 : List IT := [(47, .iload 5, 2, 0, 0, [])]
theorem ok_Mem_fetch_47 : blkOK b_Mem_fetch pt_Mem 49 I_Mem_fetch_47 = true := by decide +kernel
def I_Mem_fetch_49 : List IT := [(49, .ireturn, 1, 0, 0, [])]
theorem ok_Mem_fetch_49 : blkOK b_Mem_fetch pt_Mem 50 I_Mem_fetch_49 = true := by decide +kernel
def f_Mem_fetch (σ : Sg) (a1 : Int32) (a2 : Int32) (a3 : Int32) : Int32 × Sg := (if a3 = (0 : Int32) then ((σ 2 (Int32.toNatClampNeg ((((16 : Int32) * a1) + a2) &&& (1023 : Int32)))), σ) else (((σ 2 (Int32.toNatClampNeg ((((16 : Int32) * a1) + a2) &&& (1023 : Int32)))) ||| ((σ 2 (Int32.toNatClampNeg (((((16 : Int32) * a1) + a2) + (1 : Int32)) &&& (1023 : Int32)))) <<< ((8 : Int32) &&& 31 : Int32))), σ))
abbrev w_Mem_fetch : List (Nat × Option Nat) := []
theorem p_Mem_fetch {P : Sg → Prop} (hP : WP w_Mem_fetch P) {σ : Sg} {a1 : Int32} {a2 : Int32} {a3 : Int32} (h : P σ) : PP P (f_Mem_fetch σ a1 a2 a3) := by
  unfold f_Mem_fetch
  refine ite_z (fun _ => ?_) (fun _ => ?_)
  · exact h
  · exact h
set_option maxRecDepth 100000 in
set_option maxHeartbeats 4000000 in
theorem s_Mem_fetch {l : Launch} {ad : Nat → Nat} {D : va_G} {cI : ClassId} {σ : Sg} {a1 : Int32} {a2 : Int32} {a3 : Int32} {K : Option Value → Sg → Prop}   (hK : KI K (f_Mem_fetch σ a1 a2 a3)) : MetJ l ad D cI mi_Mem_fetch [.ref 1, .int a1, .int a2, .int a3] σ K := by
  refine met_of mi_Mem_fetch pt_Mem pt_Mem_in rfl pl_Mem rfl (Nat.le_of_ble_eq_true rfl) fun X hX => ?_
  have hX : Cl l ad D cI mi_Mem_fetch pt_Mem K X := hX
  show X 0 [.ref 1, .int a1, .int a2, .int a3, .null, .null] [] σ
  unfold f_Mem_fetch at hK
  refine hX.1 47 I_Mem_fetch_0 ok_Mem_fetch_0 _ _ _ ?_
  refine And.intro (pk_andIn _ 10 rfl (by decide)) ?_
  refine And.intro (fun h1 => ?_) (fun h1 => ?_)
  · have hK := ite_p hK h1
    refine hX.1 49 I_Mem_fetch_47 ok_Mem_fetch_47 _ _ _ ?_
    refine hX.1 50 I_Mem_fetch_49 ok_Mem_fetch_49 _ _ _ ?_
    exact hK
  · have hK := ite_n hK h1
    refine And.intro (pk_andIn _ 10 rfl (by decide)) ?_
    refine hX.1 50 I_Mem_fetch_49 ok_Mem_fetch_49 _ _ _ ?_
    exact hK
def I_Mem_store_0 : List IT := [(0, .bipush 16, 2, 16, 0, []), (2, .iload_n 1, 1, 0, 0, []), (3, .imul, 1, 0, 0, []), (4, .iload_n 2, 1, 0, 0, []), (5, .iadd, 1, 0, 0, []), (6, .istore 5, 2, 0, 0, []), (8, .aload_n 0, 1, 0, 0, []), (9, .getfield 9, 3, 0, 0, []), (12, .iload 5, 2, 0, 0, []), (14, .sipush 1023, 3, 1023, 0, []), (17, .iand, 1, 0, 0, []), (18, .iload 4, 2, 0, 0, []), (20, .sipush 255, 3, 255, 0, []), (23, .iand, 1, 0, 0, []), (24, .iastore, 1, 0, 0, []), (25, .iload_n 3, 1, 0, 0, []), (26, .ifCond .eq 25, 3, 0, 51, []), (29, .aload_n 0, 1, 0, 0, []), (30, .getfield 9, 3, 0, 0, []), (33, .iload 5, 2, 0, 0, []), (35, .iconst 1, 1, 1, 0, []), (36, .iadd, 1, 0, 0, []), (37, .sipush 1023, 3, 1023, 0, []), (40, .iand, 1, 0, 0, []), (41, .iload 4, 2, 0, 0, []), (43, .bipush 8, 2, 8, 0, []), (45, .ishr, 1, 0, 0, []), (46, .sipush 255, 3, 255, 0, []), (49, .iand, 1, 0, 0, []), (50, .iastore, 1, 0, 0, [])]
theorem ok_Mem_store_0 : blkOK b_Mem_store pt_Mem 51 I_Mem_store_0 = true := by decide +kernel
def I_Mem_store_51 : List IT := [(51, .return_, 1, 0, 0, [])]
theorem ok_Mem_store_51 : blkOK b_Mem_store pt_Mem 52 I_Mem_store_51 = true := by decide +kernel
def f_Mem_store (σ : Sg) (a1 : Int32) (a2 : Int32) (a3 : Int32) (a4 : Int32) : Sg := (bnd (up2 σ 2 (Int32.toNatClampNeg ((((16 : Int32) * a1) + a2) &&& (1023 : Int32))) (a4 &&& (255 : Int32))) fun s1 => (if a3 = (0 : Int32) then s1 else (bnd (up2 s1 2 (Int32.toNatClampNeg (((((16 : Int32) * a1) + a2) + (1 : Int32)) &&& (1023 : Int32))) ((a4 >>> ((8 : Int32) &&& 31 : Int32)) &&& (255 : Int32))) fun s3 => s3)))
abbrev w_Mem_store : List (Nat × Option Nat) := [(2, none)]
theorem p_Mem_store {P : Sg → Prop} (hP : WP w_Mem_store P) {σ : Sg} {a1 : Int32} {a2 : Int32} {a3 : Int32} {a4 : Int32} (h : P σ) : P (f_Mem_store σ a1 a2 a3 a4) := by
  unfold f_Mem_store
  refine bnd_zz (Z := P) (hP _ _ _ _ (Or.inl (by decide)) h) fun s1 e1 q1 => ?_
  refine ite_z (fun _ => ?_) (fun _ => ?_)
  · exact q1
  · refine bnd_zz (Z := P) (hP _ _ _ _ (Or.inl (by decide)) q1) fun s3 e3 q3 => ?_
    exact q3
set_option maxRecDepth 100000 in
set_option maxHeartbeats 4000000 in
theorem s_Mem_store {l : Launch} {ad : Nat → Nat} {D : va_G} {cI : ClassId} {σ : Sg} {a1 : Int32} {a2 : Int32} {a3 : Int32} {a4 : Int32} {K : Option Value → Sg → Prop}   (hK : KV K (f_Mem_store σ a1 a2 a3 a4)) : MetJ l ad D cI mi_Mem_store [.ref 1, .int a1, .int a2, .int a3, .int a4] σ K := by
  refine met_of mi_Mem_store pt_Mem pt_Mem_in rfl pl_Mem rfl (Nat.le_of_ble_eq_true rfl) fun X hX => ?_
  have hX : Cl l ad D cI mi_Mem_store pt_Mem K X := hX
  show X 0 [.ref 1, .int a1, .int a2, .int a3, .int a4, .null] [] σ
  unfold f_Mem_store at hK
  refine hX.1 51 I_Mem_store_0 ok_Mem_store_0 _ _ _ ?_
  refine And.intro (pk_andIn _ 10 rfl (by decide)) (SG_g hK fun s1 e1 hK => ?_)
  refine And.intro (fun h2 => ?_) (fun h2 => ?_)
  · have hK := ite_p hK h2
    refine hX.1 52 I_Mem_store_51 ok_Mem_store_51 _ _ _ ?_
    exact hK
  · have hK := ite_n hK h2
    refine And.intro (pk_andIn _ 10 rfl (by decide)) (SG_g hK fun s3 e3 hK => ?_)
    refine hX.1 52 I_Mem_store_51 ok_Mem_store_51 _ _ _ ?_
    exact hK
