def I_Mod_setWord_0 : List IT := [(0, .aload_n 0, 1, 0, 0, []), (1, .iload_n 1, 1, 0, 0, []), (2, .iload_n 2, 1, 0, 0, []), (3, .iload_n 3, 1, 0, 0, []), (4, .invokevirtual 40, 3, 0, 0, []), (7, .aload_n 0, 1, 0, 0, []), (8, .iload_n 1, 1, 0, 0, []), (9, .iload_n 2, 1, 0, 0, []), (10, .iconst 1, 1, 1, 0, []), (11, .iadd, 1, 0, 0, []), (12, .iload_n 3, 1, 0, 0, []), (13, .bipush 8, 2, 8, 0, []), (15, .ishr, 1, 0, 0, []), (16, .invokevirtual 40, 3, 0, 0, []), (19, .return_, 1, 0, 0, [])]
theorem ok_Mod_setWord_0 : blkOK b_Mod_setWord pt_Mod 20 I_Mod_setWord_0 = true := by decide +kernel
def f_Mod_setWord (σ : Sg) (a1 : Int32) (a2 : Int32) (a3 : Int32) : Sg := (bnd (f_Mod_setByte σ a1 a2 a3) fun r1 => bnd (f_Mod_setByte r1 a1 (a2 + (1 : Int32)) (a3 >>> ((8 : Int32) &&& 31 : Int32))) fun r2 => r2)
abbrev w_Mod_setWord : List (Nat × Option Nat) := [(16, none)]
theorem p_Mod_setWord {P : Sg → Prop} (hP : WP w_Mod_setWord P) {σ : Sg} {a1 : Int32} {a2 : Int32} {a3 : Int32} (h : P σ) : P (f_Mod_setWord σ a1 a2 a3) := by
  unfold f_Mod_setWord
  refine bnd_zz (Z := P) (p_Mod_setByte (wsub hP rfl) h) fun r1 e1 q1 => ?_
  refine bnd_zz (Z := P) (p_Mod_setByte (wsub hP rfl) q1) fun r2 e2 q2 => ?_
  exact q2
set_option maxRecDepth 100000 in
set_option maxHeartbeats 4000000 in
theorem s_Mod_setWord {l : Launch} {ad : Nat → Nat} {D : va_G} {cI : ClassId} {σ : Sg} {a1 : Int32} {a2 : Int32} {a3 : Int32} {K : Option Value → Sg → Prop}   (hK : KV K (f_Mod_setWord σ a1 a2 a3)) : MetJ l ad D cI mi_Mod_setWord [.ref 15, .int a1, .int a2, .int a3] σ K := by
  refine met_of mi_Mod_setWord pt_Mod pt_Mod_in rfl pl_Mod rfl (Nat.le_of_ble_eq_true rfl) fun X hX => ?_
  have hX : Cl l ad D cI mi_Mod_setWord pt_Mod K X := hX
  show X 0 [.ref 15, .int a1, .int a2, .int a3] [] σ
  unfold f_Mod_setWord at hK
  refine hX.1 20 I_Mod_setWord_0 ok_Mod_setWord_0 _ _ _ ?_
  refine s_Mod_setByte (bnd_g hK fun r1 e1 hK => ?_)
  refine s_Mod_setByte (bnd_g hK fun r2 e2 hK => ?_)
  exact hK
def I_Mod_get_0 : List IT := [(0, .iload_n 3, 1, 0, 0, []), (1, .ifCond .eq 12, 3, 0, 13, []), (4, .aload_n 0, 1, 0, 0, []), (5, .iload_n 1, 1, 0, 0, []), (6, .iload_n 2, 1, 0, 0, []), (7, .invokevirtual 44, 3, 0, 0, []), (10, .goto 9, 3, 0, 19, [])]
theorem ok_Mod_get_0 : blkOK b_Mod_get pt_Mod 13 I_Mod_get_0 = true := by decide +kernel
def I_Mod_get_13 : List IT := [(13, .aload_n 0, 1, 0, 0, []), (14, .iload_n 1, 1, 0, 0, []), (15, .iload_n 2, 1, 0, 0, []), (16, .invokevirtual 37, 3, 0, 0, [])]
theorem ok_Mod_get_13 : blkOK b_Mod_get pt_Mod 19 I_Mod_get_13 = true := by decide +kernel
def I_Mod_get_19 : List IT := [(19, .ireturn, 1, 0, 0, [])]
theorem ok_Mod_get_19 : blkOK b_Mod_get pt_Mod 20 I_Mod_get_19 = true := by decide +kernel
def f_Mod_get (σ : Sg) (a1 : Int32) (a2 : Int32) (a3 : Int32) : Int32 × Sg := (if a3 = (0 : Int32) then (bnd (f_Mod_getByte σ a1 a2) fun r2 => (r2.1, r2.2)) else (bnd (f_Mod_getWord σ a1 a2) fun r3 => (r3.1, r3.2)))
abbrev w_Mod_get : List (Nat × Option Nat) := []
theorem p_Mod_get {P : Sg → Prop} (hP : WP w_Mod_get P) {σ : Sg} {a1 : Int32} {a2 : Int32} {a3 : Int32} (h : P σ) : PP P (f_Mod_get σ a1 a2 a3) := by
  unfold f_Mod_get
  refine ite_z (fun _ => ?_) (fun _ => ?_)
  · refine bnd_zz (Z := PP P) (p_Mod_getByte (wsub hP rfl) h) fun r2 e2 q2 => ?_
    exact q2
  · refine bnd_zz (Z := PP P) (p_Mod_getWord (wsub hP rfl) h) fun r3 e3 q3 => ?_
    exact q3
set_option maxRecDepth 100000 in
set_option maxHeartbeats 4000000 in
theorem s_Mod_get {l : Launch} {ad : Nat → Nat} {D : va_G} {cI : ClassId} {σ : Sg} {a1 : Int32} {a2 : Int32} {a3 : Int32} {K : Option Value → Sg → Prop}   (hK : KI K (f_Mod_get σ a1 a2 a3)) : MetJ l ad D cI mi_Mod_get [.ref 15, .int a1, .int a2, .int a3] σ K := by
  refine met_of mi_Mod_get pt_Mod pt_Mod_in rfl pl_Mod rfl (Nat.le_of_ble_eq_true rfl) fun X hX => ?_
  have hX : Cl l ad D cI mi_Mod_get pt_Mod K X := hX
  show X 0 [.ref 15, .int a1, .int a2, .int a3] [] σ
  unfold f_Mod_get at hK
  refine hX.1 13 I_Mod_get_0 ok_Mod_get_0 _ _ _ ?_
  refine And.intro (fun h1 => ?_) (fun h1 => ?_)
  · have hK := ite_p hK h1
    refine hX.1 19 I_Mod_get_13 ok_Mod_get_13 _ _ _ ?_
    refine s_Mod_getByte (bnd_g hK fun r2 e2 hK => ?_)
    refine hX.1 20 I_Mod_get_19 ok_Mod_get_19 _ _ _ ?_
    exact hK
  · have hK := ite_n hK h1
    refine s_Mod_getWord (bnd_g hK fun r3 e3 hK => ?_)
    refine hX.1 20 I_Mod_get_19 ok_Mod_get_19 _ _ _ ?_
    exact hK
def I_Mod_set_0 : List IT := [(0, .iload 4, 2, 0, 0, []), (2, .ifCond .eq 13, 3, 0, 15, []), (5, .aload_n 0, 1, 0, 0, []), (6, .iload_n 1, 1, 0, 0, []), (7, .iload_n 2, 1, 0, 0, []), (8, .iload_n 3, 1, 0, 0, []), (9, .invokevirtual 47, 3, 0, 0, []), (12, .goto 10, 3, 0, 22, [])]
theorem ok_Mod_set_0 : blkOK b_Mod_set pt_Mod 15 I_Mod_set_0 = true := by decide +kernel
def I_Mod_set_15 : List IT := [(15, .aload_n 0, 1, 0, 0, []), (16, .iload_n 1, 1, 0, 0, []), (17, .iload_n 2, 1, 0, 0, []), (18, .iload_n 3, 1, 0, 0, []), (19, .invokevirtual 40, 3, 0, 0, [])]
theorem ok_Mod_set_15 : blkOK b_Mod_set pt_Mod 22 I_Mod_set_15 = true := by decide +kernel
def I_Mod_set_22 : List IT := [(22, .return_, 1, 0, 0, [])]
theorem ok_Mod_set_22 : blkOK b_Mod_set pt_Mod 23 I_Mod_set_22 = true := by decide +kernel
def f_Mod_set (σ : Sg) (a1 : Int32) (a2 : Int32) (a3 : Int32) (a4 : Int32) : Sg := (if a4 = (0 : Int32) then (bnd (f_Mod_setByte σ a1 a2 a3) fun r2 => r2) else (bnd (f_Mod_setWord σ a1 a2 a3) fun r3 => r3))
abbrev w_Mod_set : List (Nat × Option Nat) := [(16, none)]
theorem p_Mod_set {P : Sg → Prop} (hP : WP w_Mod_set P) {σ : Sg} {a1 : Int32} {a2 : Int32} {a3 : Int32} {a4 : Int32} (h : P σ) : P (f_Mod_set σ a1 a2 a3 a4) := by
  unfold f_Mod_set
  refine ite_z (fun _ => ?_) (fun _ => ?_)
  · refine bnd_zz (Z := P) (p_Mod_setByte (wsub hP rfl) h) fun r2 e2 q2 => ?_
    exact q2
  · refine bnd_zz (Z := P) (p_Mod_setWord (wsub hP rfl) h) fun r3 e3 q3 => ?_
    exact q3
set_option maxRecDepth 100000 in
set_option maxHeartbeats 4000000 in
theorem s_Mod_set {l : Launch} {ad : Nat → Nat} {D : va_G} {cI : ClassId} {σ : Sg} {a1 : Int32} {a2 : Int32} {a3 : Int32} {a4 : Int32} {K : Option Value → Sg → Prop}   (hK : KV K (f_Mod_set σ a1 a2 a3 a4)) : MetJ l ad D cI mi_Mod_set [.ref 15, .int a1, .int a2, .int a3, .int a4] σ K := by
  refine met_of mi_Mod_set pt_Mod pt_Mod_in rfl pl_Mod rfl (Nat.le_of_ble_eq_true rfl) fun X hX => ?_
  have hX : Cl l ad D cI mi_Mod_set pt_Mod K X := hX
  show X 0 [.ref 15, .int a1, .int a2, .int a3, .int a4] [] σ
  unfold f_Mod_set at hK
  refine hX.1 15 I_Mod_set_0 ok_Mod_set_0 _ _ _ ?_
  refine And.intro (fun h1 => ?_) (fun h1 => ?_)
  · have hK := ite_p hK h1
    refine hX.1 22 I_Mod_set_15 ok_Mod_set_15 _ _ _ ?_
    refine s_Mod_setByte (bnd_g hK fun r2 e2 hK => ?_)
    refine hX.1 23 I_Mod_set_22 ok_Mod_set_22 _ _ _ ?_
    exact hK
  · have hK := ite_n hK h1
    refine s_Mod_setWord (bnd_g hK fun r3 e3 hK => ?_)
    refine hX.1 23 I_Mod_set_22 ok_Mod_set_22 _ _ _ ?_
    exact hK
def I_Mod_next_0 : List IT := [(0, .aload_n 0, 1, 0, 0, []), (1, .aload_n 0, 1, 0, 0, []), (2, .getfield 16, 3, 0, 0, []), (5, .iconst 1, 1, 1, 0, []), (6, .iaload, 1, 0, 0, []), (7, .aload_n 0, 1, 0, 0, []), (8, .getfield 22, 3, 0, 0, []), (11, .invokevirtual 37, 3, 0, 0, []), (14, .istore_n 1, 1, 0, 0, []), (15, .aload_n 0, 1, 0, 0, []), (16, .aload_n 0, 1, 0, 0, []), (17, .getfield 22, 3, 0, 0, []), (20, .iconst 1, 1, 1, 0, []), (21, .iadd, 1, 0, 0, []), (22, .ldc 32, 2, 65535, 0, []), (24, .iand, 1, 0, 0, []), (25, .putfield 22, 3, 0, 0, []), (28, .iload_n 1, 1, 0, 0, []), (29, .ireturn, 1, 0, 0, [])]
theorem ok_Mod_next_0 : blkOK b_Mod_next pt_Mod 30 I_Mod_next_0 = true := by decide +kernel
def f_Mod_next (σ : Sg)  : Int32 × Sg := (bnd (f_Mod_getByte σ (σ 18 (Int32.toNatClampNeg (1 : Int32))) (σ 15 3)) fun r1 => bnd (up2 r1.2 15 3 (((r1.2 15 3) + (1 : Int32)) &&& (65535 : Int32))) fun s2 => (r1.1, s2))
abbrev w_Mod_next : List (Nat × Option Nat) := [(15, some 3)]
theorem p_Mod_next {P : Sg → Prop} (hP : WP w_Mod_next P) {σ : Sg}  (h : P σ) : PP P (f_Mod_next σ ) := by
  unfold f_Mod_next
  refine bnd_zz (Z := PP P) (p_Mod_getByte (wsub hP rfl) h) fun r1 e1 q1 => ?_
  refine bnd_zz (Z := P) (hP _ _ _ _ (Or.inr (by decide)) q1) fun s2 e2 q2 => ?_
  exact q2
set_option maxRecDepth 100000 in
set_option maxHeartbeats 4000000 in
theorem s_Mod_next {l : Launch} {ad : Nat → Nat} {D : va_G} {cI : ClassId} {σ : Sg}  {K : Option Value → Sg → Prop}   (hK : KI K (f_Mod_next σ )) : MetJ l ad D cI mi_Mod_next [.ref 15] σ K := by
  refine met_of mi_Mod_next pt_Mod pt_Mod_in rfl pl_Mod rfl (Nat.le_of_ble_eq_true rfl) fun X hX => ?_
  have hX : Cl l ad D cI mi_Mod_next pt_Mod K X := hX
  show X 0 [.ref 15, .null] [] σ
  unfold f_Mod_next at hK
  refine hX.1 30 I_Mod_next_0 ok_Mod_next_0 _ _ _ ?_
  refine And.intro (vin (by decide)) ?_
  refine s_Mod_getByte (bnd_g hK fun r1 e1 hK => ?_)
  refine And.intro trivial (SG_g hK fun s2 e2 hK => ?_)
  exact hK
theorem nx_ok {σ : Sg} (h : MB (f_Mod_next σ).2) : ¬ (f_Mod_next σ).1 < 0 := h _
def I_Mod_nextWord_0 : List IT := [(0, .aload_n 0, 1, 0, 0, []), (1, .invokevirtual 50, 3, 0, 0, []), (4, .istore_n 1, 1, 0, 0, []), (5, .iload_n 1, 1, 0, 0, []), (6, .sipush 256, 3, 256, 0, []), (9, .aload_n 0, 1, 0, 0, []), (10, .invokevirtual 50, 3, 0, 0, []), (13, .imul, 1, 0, 0, []), (14, .iadd, 1, 0, 0, []), (15, .ireturn, 1, 0, 0, [])]
theorem ok_Mod_nextWord_0 : blkOK b_Mod_nextWord pt_Mod 16 I_Mod_nextWord_0 = true := by decide +kernel
def f_Mod_nextWord (σ : Sg)  : Int32 × Sg := (bnd (f_Mod_next σ) fun r1 => bnd (f_Mod_next r1.2) fun r2 => ((r1.1 + ((256 : Int32) * r2.1)), r2.2))
abbrev w_Mod_nextWord : List (Nat × Option Nat) := [(15, some 3)]
theorem p_Mod_nextWord {P : Sg → Prop} (hP : WP w_Mod_nextWord P) {σ : Sg}  (h : P σ) : PP P (f_Mod_nextWord σ ) := by
  unfold f_Mod_nextWord
  refine bnd_zz (Z := PP P) (p_Mod_next (wsub hP rfl) h) fun r1 e1 q1 => ?_
  refine bnd_zz (Z := PP P) (p_Mod_next (wsub hP rfl) q1) fun r2 e2 q2 => ?_
  exact q2
set_option maxRecDepth 100000 in
set_option maxHeartbeats 4000000 in
theorem s_Mod_nextWord {l : Launch} {ad : Nat → Nat} {D : va_G} {cI : ClassId} {σ : Sg}  {K : Option Value → Sg → Prop}   (hK : KI K (f_Mod_nextWord σ )) : MetJ l ad D cI mi_Mod_nextWord [.ref 15] σ K := by
  refine met_of mi_Mod_nextWord pt_Mod pt_Mod_in rfl pl_Mod rfl (Nat.le_of_ble_eq_true rfl) fun X hX => ?_
  have hX : Cl l ad D cI mi_Mod_nextWord pt_Mod K X := hX
  show X 0 [.ref 15, .null] [] σ
  unfold f_Mod_nextWord at hK
  refine hX.1 16 I_Mod_nextWord_0 ok_Mod_nextWord_0 _ _ _ ?_
  refine s_Mod_next (bnd_g hK fun r1 e1 hK => ?_)
  refine s_Mod_next (bnd_g hK fun r2 e2 hK => ?_)
  exact hK
