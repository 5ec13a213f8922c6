def I_Mod_getE_0 : List IT := [(0, .aload_n 0, 1, 0, 0, []), (1, .getfield 61, 3, 0, 0, []), (4, .ifCond .lt 15, 3, 0, 19, []), (7, .aload_n 0, 1, 0, 0, []), (8, .aload_n 0, 1, 0, 0, []), (9, .getfield 61, 3, 0, 0, []), (12, .iload_n 1, 1, 0, 0, []), (13, .invokevirtual 76, 3, 0, 0, []), (16, .goto 21, 3, 0, 37, [])]
theorem ok_Mod_getE_0 : blkOK b_Mod_getE pt_Mod 19 I_Mod_getE_0 = true := by decide +kernel
def I_Mod_getE_19 : List IT := [(19, .aload_n 0, 1, 0, 0, []), (20, .aload_n 0, 1, 0, 0, []), (21, .getfield 16, 3, 0, 0, []), (24, .aload_n 0, 1, 0, 0, []), (25, .getfield 73, 3, 0, 0, []), (28, .iaload, 1, 0, 0, []), (29, .aload_n 0, 1, 0, 0, []), (30, .getfield 67, 3, 0, 0, []), (33, .iload_n 1, 1, 0, 0, []), (34, .invokevirtual 80, 3, 0, 0, [])]
theorem ok_Mod_getE_19 : blkOK b_Mod_getE pt_Mod 37 I_Mod_getE_19 = true := by decide +kernel
def I_Mod_getE_37 : List IT := [(37, .ireturn, 1, 0, 0, [])]
theorem ok_Mod_getE_37 : blkOK b_Mod_getE pt_Mod 38 I_Mod_getE_37 = true := by decide +kernel
def f_Mod_getE (σ : Sg) (a1 : Int32) : Int32 × Sg := (if (σ 15 13) < (0 : Int32) then (bnd (f_Mod_get σ (σ 18 (Int32.toNatClampNeg (σ 15 15))) (σ 15 14) a1) fun r2 => (r2.1, r2.2)) else (bnd (f_Mod_getRegister σ (σ 15 13) a1) fun r3 => (r3.1, r3.2)))
abbrev w_Mod_getE : List (Nat × Option Nat) := []
theorem p_Mod_getE {P : Sg → Prop} (hP : WP w_Mod_getE P) {σ : Sg} {a1 : Int32} (h : P σ) : PP P (f_Mod_getE σ a1) := by
  unfold f_Mod_getE
  refine ite_z (fun _ => ?_) (fun _ => ?_)
  · refine bnd_zz (Z := PP P) (p_Mod_get (wsub hP rfl) h) fun r2 e2 q2 => ?_
    exact q2
  · refine bnd_zz (Z := PP P) (p_Mod_getRegister (wsub hP rfl) h) fun r3 e3 q3 => ?_
    exact q3
set_option maxRecDepth 100000 in
set_option maxHeartbeats 4000000 in
theorem s_Mod_getE {l : Launch} {ad : Nat → Nat} {D : va_G} {cI : ClassId} {σ : Sg} {a1 : Int32} {K : Option Value → Sg → Prop}  (EK0 : EK σ) (hK : KI K (f_Mod_getE σ a1)) : MetJ l ad D cI mi_Mod_getE [.ref 15, .int a1] σ K := by
  refine met_of mi_Mod_getE pt_Mod pt_Mod_in rfl pl_Mod rfl (Nat.le_of_ble_eq_true rfl) fun X hX => ?_
  have hX : Cl l ad D cI mi_Mod_getE pt_Mod K X := hX
  show X 0 [.ref 15, .int a1] [] σ
  unfold f_Mod_getE at hK
  refine hX.1 19 I_Mod_getE_0 ok_Mod_getE_0 _ _ _ ?_
  refine And.intro (fun h1 => ?_) (fun h1 => ?_)
  · have hK := ite_p hK h1
    refine hX.1 37 I_Mod_getE_19 ok_Mod_getE_19 _ _ _ ?_
    refine And.intro (EK_s EK0 h1) ?_
    refine s_Mod_get (bnd_g hK fun r2 e2 hK => ?_)
    refine hX.1 38 I_Mod_getE_37 ok_Mod_getE_37 _ _ _ ?_
    exact hK
  · have hK := ite_n hK h1
    refine s_Mod_getRegister (EK_r EK0 h1) (bnd_g hK fun r3 e3 hK => ?_)
    refine hX.1 38 I_Mod_getE_37 ok_Mod_getE_37 _ _ _ ?_
    exact hK
def I_Mod_setE_0 : List IT := [(0, .aload_n 0, 1, 0, 0, []), (1, .getfield 61, 3, 0, 0, []), (4, .ifCond .lt 16, 3, 0, 20, []), (7, .aload_n 0, 1, 0, 0, []), (8, .aload_n 0, 1, 0, 0, []), (9, .getfield 61, 3, 0, 0, []), (12, .iload_n 1, 1, 0, 0, []), (13, .iload_n 2, 1, 0, 0, []), (14, .invokevirtual 84, 3, 0, 0, []), (17, .goto 22, 3, 0, 39, [])]
theorem ok_Mod_setE_0 : blkOK b_Mod_setE pt_Mod 20 I_Mod_setE_0 = true := by decide +kernel
def I_Mod_setE_20 : List IT := [(20, .aload_n 0, 1, 0, 0, []), (21, .aload_n 0, 1, 0, 0, []), (22, .getfield 16, 3, 0, 0, []), (25, .aload_n 0, 1, 0, 0, []), (26, .getfield 73, 3, 0, 0, []), (29, .iaload, 1, 0, 0, []), (30, .aload_n 0, 1, 0, 0, []), (31, .getfield 67, 3, 0, 0, []), (34, .iload_n 1, 1, 0, 0, []), (35, .iload_n 2, 1, 0, 0, []), (36, .invokevirtual 88, 3, 0, 0, [])]
theorem ok_Mod_setE_20 : blkOK b_Mod_setE pt_Mod 39 I_Mod_setE_20 = true := by decide +kernel
def I_Mod_setE_39 : List IT := [(39, .return_, 1, 0, 0, [])]
theorem ok_Mod_setE_39 : blkOK b_Mod_setE pt_Mod 40 I_Mod_setE_39 = true := by decide +kernel
def f_Mod_setE (σ : Sg) (a1 : Int32) (a2 : Int32) : Sg := (if (σ 15 13) < (0 : Int32) then (bnd (f_Mod_set σ (σ 18 (Int32.toNatClampNeg (σ 15 15))) (σ 15 14) a1 a2) fun r2 => r2) else (bnd (f_Mod_setRegister σ (σ 15 13) a1 a2) fun r3 => r3))
abbrev w_Mod_setE : List (Nat × Option Nat) := [(16, none), (17, none)]
theorem p_Mod_setE {P : Sg → Prop} (hP : WP w_Mod_setE P) {σ : Sg} {a1 : Int32} {a2 : Int32} (h : P σ) : P (f_Mod_setE σ a1 a2) := by
  unfold f_Mod_setE
  refine ite_z (fun _ => ?_) (fun _ => ?_)
  · refine bnd_zz (Z := P) (p_Mod_set (wsub hP rfl) h) fun r2 e2 q2 => ?_
    exact q2
  · refine bnd_zz (Z := P) (p_Mod_setRegister (wsub hP rfl) h) fun r3 e3 q3 => ?_
    exact q3
set_option maxRecDepth 100000 in
set_option maxHeartbeats 4000000 in
theorem s_Mod_setE {l : Launch} {ad : Nat → Nat} {D : va_G} {cI : ClassId} {σ : Sg} {a1 : Int32} {a2 : Int32} {K : Option Value → Sg → Prop}  (EK0 : EK σ) (hK : KV K (f_Mod_setE σ a1 a2)) : MetJ l ad D cI mi_Mod_setE [.ref 15, .int a1, .int a2] σ K := by
  refine met_of mi_Mod_setE pt_Mod pt_Mod_in rfl pl_Mod rfl (Nat.le_of_ble_eq_true rfl) fun X hX => ?_
  have hX : Cl l ad D cI mi_Mod_setE pt_Mod K X := hX
  show X 0 [.ref 15, .int a1, .int a2] [] σ
  unfold f_Mod_setE at hK
  refine hX.1 20 I_Mod_setE_0 ok_Mod_setE_0 _ _ _ ?_
  refine And.intro (fun h1 => ?_) (fun h1 => ?_)
  · have hK := ite_p hK h1
    refine hX.1 39 I_Mod_setE_20 ok_Mod_setE_20 _ _ _ ?_
    refine And.intro (EK_s EK0 h1) ?_
    refine s_Mod_set (bnd_g hK fun r2 e2 hK => ?_)
    refine hX.1 40 I_Mod_setE_39 ok_Mod_setE_39 _ _ _ ?_
    exact hK
  · have hK := ite_n hK h1
    refine s_Mod_setRegister (EK_r EK0 h1) (bnd_g hK fun r3 e3 hK => ?_)
    refine hX.1 40 I_Mod_setE_39 ok_Mod_setE_39 _ _ _ ?_
    exact hK
def I_Mod_push_0 : List IT := [(0, .aload_n 0, 1, 0, 0, []), (1, .getfield 13, 3, 0, 0, []), (4, .iconst 4, 1, 4, 0, []), (5, .aload_n 0, 1, 0, 0, []), (6, .getfield 13, 3, 0, 0, []), (9, .iconst 4, 1, 4, 0, []), (10, .iaload, 1, 0, 0, []), (11, .iconst 2, 1, 2, 0, []), (12, .isub, 1, 0, 0, []), (13, .ldc 32, 2, 65535, 0, []), (15, .iand, 1, 0, 0, []), (16, .iastore, 1, 0, 0, []), (17, .aload_n 0, 1, 0, 0, []), (18, .aload_n 0, 1, 0, 0, []), (19, .getfield 16, 3, 0, 0, []), (22, .iconst 2, 1, 2, 0, []), (23, .iaload, 1, 0, 0, []), (24, .aload_n 0, 1, 0, 0, []), (25, .getfield 13, 3, 0, 0, []), (28, .iconst 4, 1, 4, 0, []), (29, .iaload, 1, 0, 0, []), (30, .iload_n 1, 1, 0, 0, []), (31, .invokevirtual 47, 3, 0, 0, []), (34, .return_, 1, 0, 0, [])]
theorem ok_Mod_push_0 : blkOK b_Mod_push pt_Mod 35 I_Mod_push_0 = true := by decide +kernel
def f_Mod_push (σ : Sg) (a1 : Int32) : Sg := (bnd (up2 σ 17 (Int32.toNatClampNeg (4 : Int32)) (((σ 17 (Int32.toNatClampNeg (4 : Int32))) - (2 : Int32)) &&& (65535 : Int32))) fun s1 => bnd (f_Mod_setWord s1 (s1 18 (Int32.toNatClampNeg (2 : Int32))) (s1 17 (Int32.toNatClampNeg (4 : Int32))) a1) fun r2 => r2)
abbrev w_Mod_push : List (Nat × Option Nat) := [(16, none), (17, none)]
theorem p_Mod_push {P : Sg → Prop} (hP : WP w_Mod_push P) {σ : Sg} {a1 : Int32} (h : P σ) : P (f_Mod_push σ a1) := by
  unfold f_Mod_push
  refine bnd_zz (Z := P) (hP _ _ _ _ (Or.inl (by decide)) h) fun s1 e1 q1 => ?_
  refine bnd_zz (Z := P) (p_Mod_setWord (wsub hP rfl) q1) fun r2 e2 q2 => ?_
  exact q2
set_option maxRecDepth 100000 in
set_option maxHeartbeats 4000000 in
theorem s_Mod_push {l : Launch} {ad : Nat → Nat} {D : va_G} {cI : ClassId} {σ : Sg} {a1 : Int32} {K : Option Value → Sg → Prop}   (hK : KV K (f_Mod_push σ a1)) : MetJ l ad D cI mi_Mod_push [.ref 15, .int a1] σ K := by
  refine met_of mi_Mod_push pt_Mod pt_Mod_in rfl pl_Mod rfl (Nat.le_of_ble_eq_true rfl) fun X hX => ?_
  have hX : Cl l ad D cI mi_Mod_push pt_Mod K X := hX
  show X 0 [.ref 15, .int a1] [] σ
  unfold f_Mod_push at hK
  refine hX.1 35 I_Mod_push_0 ok_Mod_push_0 _ _ _ ?_
  refine And.intro (vin (by decide)) ?_
  refine And.intro (vin (by decide)) (SG_g hK fun s1 e1 hK => ?_)
  refine And.intro (vin (by decide)) ?_
  refine And.intro (vin (by decide)) ?_
  refine s_Mod_setWord (bnd_g hK fun r2 e2 hK => ?_)
  exact hK
def I_Mod_pop_0 : List IT := [(0, .aload_n 0, 1, 0, 0, []), (1, .aload_n 0, 1, 0, 0, []), (2, .getfield 16, 3, 0, 0, []), (5, .iconst 2, 1, 2, 0, []), (6, .iaload, 1, 0, 0, []), (7, .aload_n 0, 1, 0, 0, []), (8, .getfield 13, 3, 0, 0, []), (11, .iconst 4, 1, 4, 0, []), (12, .iaload, 1, 0, 0, []), (13, .invokevirtual 44, 3, 0, 0, []), (16, .istore_n 1, 1, 0, 0, []), (17, .aload_n 0, 1, 0, 0, []), (18, .getfield 13, 3, 0, 0, []), (21, .iconst 4, 1, 4, 0, []), (22, .aload_n 0, 1, 0, 0, []), (23, .getfield 13, 3, 0, 0, []), (26, .iconst 4, 1, 4, 0, []), (27, .iaload, 1, 0, 0, []), (28, .iconst 2, 1, 2, 0, []), (29, .iadd, 1, 0, 0, []), (30, .ldc 32, 2, 65535, 0, []), (32, .iand, 1, 0, 0, []), (33, .iastore, 1, 0, 0, []), (34, .iload_n 1, 1, 0, 0, []), (35, .ireturn, 1, 0, 0, [])]
theorem ok_Mod_pop_0 : blkOK b_Mod_pop pt_Mod 36 I_Mod_pop_0 = true := by decide +kernel
def f_Mod_pop (σ : Sg)  : Int32 × Sg := (bnd (f_Mod_getWord σ (σ 18 (Int32.toNatClampNeg (2 : Int32))) (σ 17 (Int32.toNatClampNeg (4 : Int32)))) fun r1 => bnd (up2 r1.2 17 (Int32.toNatClampNeg (4 : Int32)) (((r1.2 17 (Int32.toNatClampNeg (4 : Int32))) + (2 : Int32)) &&& (65535 : Int32))) fun s2 => (r1.1, s2))
abbrev w_Mod_pop : List (Nat × Option Nat) := [(17, none)]
theorem p_Mod_pop {P : Sg → Prop} (hP : WP w_Mod_pop P) {σ : Sg}  (h : P σ) : PP P (f_Mod_pop σ ) := by
  unfold f_Mod_pop
  refine bnd_zz (Z := PP P) (p_Mod_getWord (wsub hP rfl) h) fun r1 e1 q1 => ?_
  refine bnd_zz (Z := P) (hP _ _ _ _ (Or.inl (by decide)) q1) fun s2 e2 q2 => ?_
  exact q2
set_option maxRecDepth 100000 in
set_option maxHeartbeats 4000000 in
theorem s_Mod_pop {l : Launch} {ad : Nat → Nat} {D : va_G} {cI : ClassId} {σ : Sg}  {K : Option Value → Sg → Prop}   (hK : KI K (f_Mod_pop σ )) : MetJ l ad D cI mi_Mod_pop [.ref 15] σ K := by
  refine met_of mi_Mod_pop pt_Mod pt_Mod_in rfl pl_Mod rfl (Nat.le_of_ble_eq_true rfl) fun X hX => ?_
  have hX : Cl l ad D cI mi_Mod_pop pt_Mod K X := hX
  show X 0 [.ref 15, .null] [] σ
  unfold f_Mod_pop at hK
  refine hX.1 36 I_Mod_pop_0 ok_Mod_pop_0 _ _ _ ?_
  refine And.intro (vin (by decide)) ?_
  refine And.intro (vin (by decide)) ?_
  refine s_Mod_getWord (bnd_g hK fun r1 e1 hK => ?_)
  refine And.intro (vin (by decide)) ?_
  refine And.intro (vin (by decide)) (SG_g hK fun s2 e2 hK => ?_)
  exact hK
def I_Mod_flag_0 : List IT := [(0, .aload_n 0, 1, 0, 0, []), (1, .iload_n 2, 1, 0, 0, []), (2, .ifCond .eq 12, 3, 0, 14, []), (5, .aload_n 0, 1, 0, 0, []), (6, .getfield 92, 3, 0, 0, []), (9, .iload_n 1, 1, 0, 0, []), (10, .ior, 1, 0, 0, []), (11, .goto 11, 3, 0, 22, [])]
theorem ok_Mod_flag_0 : blkOK b_Mod_flag pt_Mod 14 I_Mod_flag_0 = true := by decide +kernel
def I_Mod_flag_14 : List IT := [(14, .aload_n 0, 1, 0, 0, []), (15, .getfield 92, 3, 0, 0, []), (18, .iload_n 1, 1, 0, 0, []), (19, .iconst (-1), 1, (-1), 0, []), (20, .ixor, 1, 0, 0, []), (21, .iand, 1, 0, 0, [])]
theorem ok_Mod_flag_14 : blkOK b_Mod_flag pt_Mod 22 I_Mod_flag_14 = true := by decide +kernel
def I_Mod_flag_22 : List IT := [(22, .putfield 92, 3, 0, 0, []), (25, .return_, 1, 0, 0, [])]
theorem ok_Mod_flag_22 : blkOK b_Mod_flag pt_Mod 26 I_Mod_flag_22 = true := by decide +kernel
def f_Mod_flag (σ : Sg) (a1 : Int32) (a2 : Int32) : Sg := (if a2 = (0 : Int32) then (bnd (up2 σ 15 4 ((σ 15 4) &&& (a1 ^^^ (-1 : Int32)))) fun s2 => s2) else (bnd (up2 σ 15 4 ((σ 15 4) ||| a1)) fun s3 => s3))
abbrev w_Mod_flag : List (Nat × Option Nat) := [(15, some 4)]
theorem p_Mod_flag {P : Sg → Prop} (hP : WP w_Mod_flag P) {σ : Sg} {a1 : Int32} {a2 : Int32} (h : P σ) : P (f_Mod_flag σ a1 a2) := by
  unfold f_Mod_flag
  refine ite_z (fun _ => ?_) (fun _ => ?_)
  · refine bnd_zz (Z := P) (hP _ _ _ _ (Or.inr (by decide)) h) fun s2 e2 q2 => ?_
    exact q2
  · refine bnd_zz (Z := P) (hP _ _ _ _ (Or.inr (by decide)) h) fun s3 e3 q3 => ?_
    exact q3
set_option maxRecDepth 100000 in
set_option maxHeartbeats 4000000 in
theorem s_Mod_flag {l : Launch} {ad : Nat → Nat} {D : va_G} {cI : ClassId} {σ : Sg} {a1 : Int32} {a2 : Int32} {K : Option Value → Sg → Prop}   (hK : KV K (f_Mod_flag σ a1 a2)) : MetJ l ad D cI mi_Mod_flag [.ref 15, .int a1, .int a2] σ K := by
  refine met_of mi_Mod_flag pt_Mod pt_Mod_in rfl pl_Mod rfl (Nat.le_of_ble_eq_true rfl) fun X hX => ?_
  have hX : Cl l ad D cI mi_Mod_flag pt_Mod K X := hX
  show X 0 [.ref 15, .int a1, .int a2] [] σ
  unfold f_Mod_flag at hK
  refine hX.1 14 I_Mod_flag_0 ok_Mod_flag_0 _ _ _ ?_
  refine And.intro (fun h1 => ?_) (fun h1 => ?_)
  · have hK := ite_p hK h1
    refine hX.1 22 I_Mod_flag_14 ok_Mod_flag_14 _ _ _ ?_
    refine hX.1 26 I_Mod_flag_22 ok_Mod_flag_22 _ _ _ ?_
    refine And.intro trivial (SG_g hK fun s2 e2 hK => ?_)
    exact hK
  · have hK := ite_n hK h1
    refine hX.1 26 I_Mod_flag_22 ok_Mod_flag_22 _ _ _ ?_
    refine And.intro trivial (SG_g hK fun s3 e3 hK => ?_)
    exact hK
