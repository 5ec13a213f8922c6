def I_Mod_answerKey_0 : List IT := [(0, .aload_n 0, 1, 0, 0, []), (1, .getfield 261, 3, 0, 0, []), (4, .ifCond .ne 5, 3, 0, 9, []), (7, .iconst 0, 1, 0, 0, []), (8, .ireturn, 1, 0, 0, [])]
theorem ok_Mod_answerKey_0 : blkOK b_Mod_answerKey pt_Mod 9 I_Mod_answerKey_0 = true := by decide +kernel
def I_Mod_answerKey_9 : List IT := [(9, .aload_n 0, 1, 0, 0, []), (10, .getfield 19, 3, 0, 0, []), (13, .iconst 0, 1, 0, 0, []), (14, .iaload, 1, 0, 0, []), (15, .istore_n 1, 1, 0, 0, []), (16, .aload_n 0, 1, 0, 0, []), (17, .aload_n 0, 1, 0, 0, []), (18, .getfield 261, 3, 0, 0, []), (21, .iconst 1, 1, 1, 0, []), (22, .isub, 1, 0, 0, []), (23, .putfield 261, 3, 0, 0, []), (26, .iconst 0, 1, 0, 0, []), (27, .istore_n 2, 1, 0, 0, [])]
theorem ok_Mod_answerKey_9 : blkOK b_Mod_answerKey pt_Mod 28 I_Mod_answerKey_9 = true := by decide +kernel
def I_Mod_answerKey_28 : List IT := [(28, .iload_n 2, 1, 0, 0, []), (29, .aload_n 0, 1, 0, 0, []), (30, .getfield 261, 3, 0, 0, []), (33, .if_icmp .ge 23, 3, 0, 56, []), (36, .aload_n 0, 1, 0, 0, []), (37, .getfield 19, 3, 0, 0, []), (40, .iload_n 2, 1, 0, 0, []), (41, .aload_n 0, 1, 0, 0, []), (42, .getfield 19, 3, 0, 0, []), (45, .iload_n 2, 1, 0, 0, []), (46, .iconst 1, 1, 1, 0, []), (47, .iadd, 1, 0, 0, []), (48, .iaload, 1, 0, 0, []), (49, .iastore, 1, 0, 0, []), (50, .iinc 2 1, 3, 1, 0, []), (53, .goto (-25), 3, 0, 28, [])]
theorem ok_Mod_answerKey_28 : blkOK b_Mod_answerKey pt_Mod 56 I_Mod_answerKey_28 = true := by decide +kernel
def I_Mod_answerKey_56 : List IT := [(56, .aload_n 0, 1, 0, 0, []), (57, .getfield 261, 3, 0, 0, []), (60, .ifCond .le 8, 3, 0, 68, []), (63, .aload_n 0, 1, 0, 0, []), (64, .iconst 1, 1, 1, 0, []), (65, .invokevirtual 252, 3, 0, 0, [])]
theorem ok_Mod_answerKey_56 : blkOK b_Mod_answerKey pt_Mod 68 I_Mod_answerKey_56 = true := by decide +kernel
def I_Mod_answerKey_68 : List IT := [(68, .iload_n 1, 1, 0, 0, []), (69, .ireturn, 1, 0, 0, [])]
theorem ok_Mod_answerKey_68 : blkOK b_Mod_answerKey pt_Mod 70 I_Mod_answerKey_68 = true := by decide +kernel
def f_Mod_answerKey_28_c3 (σ : Sg) (x1 : Int32) : Int32 × Sg := (if (σ 15 28) ≤ (0 : Int32) then (x1, σ) else (bnd (f_Mod_request σ (1 : Int32)) fun r3 => (x1, r3)))
abbrev w_Mod_answerKey_28_c3 : List (Nat × Option Nat) := [(15, some 17)]
theorem p_Mod_answerKey_28_c3 {P : Sg → Prop} (hP : WP w_Mod_answerKey_28_c3 P) {σ : Sg} {x1 : Int32} (h : P σ) : PP P (f_Mod_answerKey_28_c3 σ x1) := by
  unfold f_Mod_answerKey_28_c3
  refine ite_z (fun _ => ?_) (fun _ => ?_)
  · exact h
  · refine bnd_zz (Z := P) (p_Mod_request (wsub hP rfl) h) fun r3 e3 q3 => ?_
    exact q3
set_option maxRecDepth 100000 in
set_option maxHeartbeats 4000000 in
theorem b_Mod_answerKey_28_c3 {l : Launch} {ad : Nat → Nat} {D : va_G} {cI : ClassId} {K : Option Value → Sg → Prop} {X : Nat → List Value → List Value → Sg → Prop} (hX : Cl l ad D cI mi_Mod_answerKey pt_Mod K X) {σ : Sg} {x1 : Int32}  (hk : σ 15 28 ≤ 3) (hK : KI K (f_Mod_answerKey_28_c3 σ x1)) : X 28 [.ref 15, .int x1, .int ((((0 : Int32) + (1 : Int32)) + (1 : Int32)) + (1 : Int32))] [] σ := by
  unfold f_Mod_answerKey_28_c3 at hK
  refine hX.1 56 I_Mod_answerKey_28 ok_Mod_answerKey_28 _ _ _ ?_
  refine And.intro (fun _ => ?_) (fun h => absurd hk h)
  refine hX.1 68 I_Mod_answerKey_56 ok_Mod_answerKey_56 _ _ _ ?_
  refine And.intro (fun h2 => ?_) (fun h2 => ?_)
  · have hK := ite_p hK h2
    refine hX.1 70 I_Mod_answerKey_68 ok_Mod_answerKey_68 _ _ _ ?_
    exact hK
  · have hK := ite_n hK h2
    refine s_Mod_request (bnd_g hK fun r3 e3 hK => ?_)
    refine hX.1 70 I_Mod_answerKey_68 ok_Mod_answerKey_68 _ _ _ ?_
    exact hK
def f_Mod_answerKey_28_c2 (σ : Sg) (x1 : Int32) : Int32 × Sg := (if (σ 15 28) ≤ (((0 : Int32) + (1 : Int32)) + (1 : Int32)) then (if (σ 15 28) ≤ (0 : Int32) then (x1, σ) else (bnd (f_Mod_request σ (1 : Int32)) fun r3 => (x1, r3))) else (bnd (up2 σ 19 (Int32.toNatClampNeg (((0 : Int32) + (1 : Int32)) + (1 : Int32))) (σ 19 (Int32.toNatClampNeg ((((0 : Int32) + (1 : Int32)) + (1 : Int32)) + (1 : Int32))))) fun s4 => (f_Mod_answerKey_28_c3 s4 x1)))
abbrev w_Mod_answerKey_28_c2 : List (Nat × Option Nat) := [(15, some 17), (19, none)]
theorem p_Mod_answerKey_28_c2 {P : Sg → Prop} (hP : WP w_Mod_answerKey_28_c2 P) {σ : Sg} {x1 : Int32} (h : P σ) : PP P (f_Mod_answerKey_28_c2 σ x1) := by
  unfold f_Mod_answerKey_28_c2
  refine ite_z (fun _ => ?_) (fun _ => ?_)
  · refine ite_z (fun _ => ?_) (fun _ => ?_)
    · exact h
    · refine bnd_zz (Z := P) (p_Mod_request (wsub hP rfl) h) fun r3 e3 q3 => ?_
      exact q3
  · refine bnd_zz (Z := P) (hP _ _ _ _ (Or.inl (by decide)) h) fun s4 e4 q4 => ?_
    exact p_Mod_answerKey_28_c3 (wsub hP rfl) q4
set_option maxRecDepth 100000 in
set_option maxHeartbeats 4000000 in
theorem b_Mod_answerKey_28_c2 {l : Launch} {ad : Nat → Nat} {D : va_G} {cI : ClassId} {K : Option Value → Sg → Prop} {X : Nat → List Value → List Value → Sg → Prop} (hX : Cl l ad D cI mi_Mod_answerKey pt_Mod K X) {σ : Sg} {x1 : Int32}  (hk : σ 15 28 ≤ 3) (hK : KI K (f_Mod_answerKey_28_c2 σ x1)) : X 28 [.ref 15, .int x1, .int (((0 : Int32) + (1 : Int32)) + (1 : Int32))] [] σ := by
  unfold f_Mod_answerKey_28_c2 at hK
  refine hX.1 56 I_Mod_answerKey_28 ok_Mod_answerKey_28 _ _ _ ?_
  refine And.intro (fun h1 => ?_) (fun h1 => ?_)
  · have hK := ite_p hK h1
    refine hX.1 68 I_Mod_answerKey_56 ok_Mod_answerKey_56 _ _ _ ?_
    refine And.intro (fun h2 => ?_) (fun h2 => ?_)
    · have hK := ite_p hK h2
      refine hX.1 70 I_Mod_answerKey_68 ok_Mod_answerKey_68 _ _ _ ?_
      exact hK
    · have hK := ite_n hK h2
      refine s_Mod_request (bnd_g hK fun r3 e3 hK => ?_)
      refine hX.1 70 I_Mod_answerKey_68 ok_Mod_answerKey_68 _ _ _ ?_
      exact hK
  · have hK := ite_n hK h1
    refine And.intro (vin (by decide)) ?_
    refine And.intro (vin (by decide)) (SG_g hK fun s4 e4 hK => ?_)
    exact b_Mod_answerKey_28_c3 hX  (by subst_vars; exact hk) hK
def f_Mod_answerKey_28_c1 (σ : Sg) (x1 : Int32) : Int32 × Sg := (if (σ 15 28) ≤ ((0 : Int32) + (1 : Int32)) then (if (σ 15 28) ≤ (0 : Int32) then (x1, σ) else (bnd (f_Mod_request σ (1 : Int32)) fun r3 => (x1, r3))) else (bnd (up2 σ 19 (Int32.toNatClampNeg ((0 : Int32) + (1 : Int32))) (σ 19 (Int32.toNatClampNeg (((0 : Int32) + (1 : Int32)) + (1 : Int32))))) fun s4 => (f_Mod_answerKey_28_c2 s4 x1)))
abbrev w_Mod_answerKey_28_c1 : List (Nat × Option Nat) := [(15, some 17), (19, none)]
theorem p_Mod_answerKey_28_c1 {P : Sg → Prop} (hP : WP w_Mod_answerKey_28_c1 P) {σ : Sg} {x1 : Int32} (h : P σ) : PP P (f_Mod_answerKey_28_c1 σ x1) := by
  unfold f_Mod_answerKey_28_c1
  refine ite_z (fun _ => ?_) (fun _ => ?_)
  · refine ite_z (fun _ => ?_) (fun _ => ?_)
    · exact h
    · refine bnd_zz (Z := P) (p_Mod_request (wsub hP rfl) h) fun r3 e3 q3 => ?_
      exact q3
  · refine bnd_zz (Z := P) (hP _ _ _ _ (Or.inl (by decide)) h) fun s4 e4 q4 => ?_
    exact p_Mod_answerKey_28_c2 (wsub hP rfl) q4
set_option maxRecDepth 100000 in
set_option maxHeartbeats 4000000 in
theorem b_Mod_answerKey_28_c1 {l : Launch} {ad : Nat → Nat} {D : va_G} {cI : ClassId} {K : Option Value → Sg → Prop} {X : Nat → List Value → List Value → Sg → Prop} (hX : Cl l ad D cI mi_Mod_answerKey pt_Mod K X) {σ : Sg} {x1 : Int32}  (hk : σ 15 28 ≤ 3) (hK : KI K (f_Mod_answerKey_28_c1 σ x1)) : X 28 [.ref 15, .int x1, .int ((0 : Int32) + (1 : Int32))] [] σ := by
  unfold f_Mod_answerKey_28_c1 at hK
  refine hX.1 56 I_Mod_answerKey_28 ok_Mod_answerKey_28 _ _ _ ?_
  refine And.intro (fun h1 => ?_) (fun h1 => ?_)
  · have hK := ite_p hK h1
    refine hX.1 68 I_Mod_answerKey_56 ok_Mod_answerKey_56 _ _ _ ?_
    refine And.intro (fun h2 => ?_) (fun h2 => ?_)
    · have hK := ite_p hK h2
      refine hX.1 70 I_Mod_answerKey_68 ok_Mod_answerKey_68 _ _ _ ?_
      exact hK
    · have hK := ite_n hK h2
      refine s_Mod_request (bnd_g hK fun r3 e3 hK => ?_)
      refine hX.1 70 I_Mod_answerKey_68 ok_Mod_answerKey_68 _ _ _ ?_
      exact hK
  · have hK := ite_n hK h1
    refine And.intro (vin (by decide)) ?_
    refine And.intro (vin (by decide)) (SG_g hK fun s4 e4 hK => ?_)
    exact b_Mod_answerKey_28_c2 hX  (by subst_vars; exact hk) hK
def f_Mod_answerKey_28_c0 (σ : Sg) (x1 : Int32) : Int32 × Sg := (if (σ 15 28) ≤ (0 : Int32) then (if (σ 15 28) ≤ (0 : Int32) then (x1, σ) else (bnd (f_Mod_request σ (1 : Int32)) fun r3 => (x1, r3))) else (bnd (up2 σ 19 (Int32.toNatClampNeg (0 : Int32)) (σ 19 (Int32.toNatClampNeg ((0 : Int32) + (1 : Int32))))) fun s4 => (f_Mod_answerKey_28_c1 s4 x1)))
abbrev w_Mod_answerKey_28_c0 : List (Nat × Option Nat) := [(15, some 17), (19, none)]
theorem p_Mod_answerKey_28_c0 {P : Sg → Prop} (hP : WP w_Mod_answerKey_28_c0 P) {σ : Sg} {x1 : Int32} (h : P σ) : PP P (f_Mod_answerKey_28_c0 σ x1) := by
  unfold f_Mod_answerKey_28_c0
  refine ite_z (fun _ => ?_) (fun _ => ?_)
  · refine ite_z (fun _ => ?_) (fun _ => ?_)
    · exact h
    · refine bnd_zz (Z := P) (p_Mod_request (wsub hP rfl) h) fun r3 e3 q3 => ?_
      exact q3
  · refine bnd_zz (Z := P) (hP _ _ _ _ (Or.inl (by decide)) h) fun s4 e4 q4 => ?_
    exact p_Mod_answerKey_28_c1 (wsub hP rfl) q4
set_option maxRecDepth 100000 in
set_option maxHeartbeats 4000000 in
theorem b_Mod_answerKey_28_c0 {l : Launch} {ad : Nat → Nat} {D : va_G} {cI : ClassId} {K : Option Value → Sg → Prop} {X : Nat → List Value → List Value → Sg → Prop} (hX : Cl l ad D cI mi_Mod_answerKey pt_Mod K X) {σ : Sg} {x1 : Int32}  (hk : σ 15 28 ≤ 3) (hK : KI K (f_Mod_answerKey_28_c0 σ x1)) : X 28 [.ref 15, .int x1, .int (0 : Int32)] [] σ := by
  unfold f_Mod_answerKey_28_c0 at hK
  refine hX.1 56 I_Mod_answerKey_28 ok_Mod_answerKey_28 _ _ _ ?_
  refine And.intro (fun h1 => ?_) (fun h1 => ?_)
  · have hK := ite_p hK h1
    refine hX.1 68 I_Mod_answerKey_56 ok_Mod_answerKey_56 _ _ _ ?_
    refine And.intro (fun h2 => ?_) (fun h2 => ?_)
    · have hK := ite_p hK h2
      refine hX.1 70 I_Mod_answerKey_68 ok_Mod_answerKey_68 _ _ _ ?_
      exact hK
    · have hK := ite_n hK h2
      refine s_Mod_request (bnd_g hK fun r3 e3 hK => ?_)
      refine hX.1 70 I_Mod_answerKey_68 ok_Mod_answerKey_68 _ _ _ ?_
      exact hK
  · have hK := ite_n hK h1
    refine And.intro (vin (by decide)) ?_
    refine And.intro (vin (by decide)) (SG_g hK fun s4 e4 hK => ?_)
    exact b_Mod_answerKey_28_c1 hX  (by subst_vars; exact hk) hK
def f_Mod_answerKey (σ : Sg)  : Int32 × Sg := (if (σ 15 28) = (0 : Int32) then ((0 : Int32), σ) else (bnd (up2 σ 15 28 ((σ 15 28) - (1 : Int32))) fun s2 => (f_Mod_answerKey_28_c0 s2 (σ 19 (Int32.toNatClampNeg (0 : Int32))))))
abbrev w_Mod_answerKey : List (Nat × Option Nat) := [(15, some 17), (15, some 28), (19, none)]
theorem p_Mod_answerKey {P : Sg → Prop} (hP : WP w_Mod_answerKey P) {σ : Sg}  (h : P σ) : PP P (f_Mod_answerKey σ ) := by
  unfold f_Mod_answerKey
  refine ite_z (fun _ => ?_) (fun _ => ?_)
  · exact h
  · refine bnd_zz (Z := P) (hP _ _ _ _ (Or.inr (by decide)) h) fun s2 e2 q2 => ?_
    exact p_Mod_answerKey_28_c0 (wsub hP rfl) q2
set_option maxRecDepth 100000 in
set_option maxHeartbeats 4000000 in
theorem s_Mod_answerKey {l : Launch} {ad : Nat → Nat} {D : va_G} {cI : ClassId} {σ : Sg}  {K : Option Value → Sg → Prop}  (hk : σ 15 28 - 1 ≤ 3) (hK : KI K (f_Mod_answerKey σ )) : MetJ l ad D cI mi_Mod_answerKey [.ref 15] σ K := by
  refine met_of mi_Mod_answerKey pt_Mod pt_Mod_in rfl pl_Mod rfl (Nat.le_of_ble_eq_true rfl) fun X hX => ?_
  have hX : Cl l ad D cI mi_Mod_answerKey pt_Mod K X := hX
  show X 0 [.ref 15, .null, .null] [] σ
  unfold f_Mod_answerKey at hK
  refine hX.1 9 I_Mod_answerKey_0 ok_Mod_answerKey_0 _ _ _ ?_
  refine And.intro (fun h1 => ?_) (fun h1 => ?_)
  · have hK := ite_p hK h1
    exact hK
  · have hK := ite_n hK h1
    refine hX.1 28 I_Mod_answerKey_9 ok_Mod_answerKey_9 _ _ _ ?_
    refine And.intro (vin (by decide)) ?_
    refine And.intro trivial (SG_g hK fun s2 e2 hK => ?_)
    exact b_Mod_answerKey_28_c0 hX  (by subst_vars; exact hk) hK
def I_Mod_answer_0 : List IT := [(0, .iload_n 1, 1, 0, 0, []), (1, .bipush 32, 2, 32, 0, []), (3, .if_icmp .ne 22, 3, 0, 25, []), (6, .aload_n 0, 1, 0, 0, []), (7, .getfield 264, 3, 0, 0, []), (10, .ifCond .eq 10, 3, 0, 20, []), (13, .aload_n 0, 1, 0, 0, []), (14, .getfield 138, 3, 0, 0, []), (17, .goto 7, 3, 0, 24, [])]
theorem ok_Mod_answer_0 : blkOK b_Mod_answer pt_Mod 20 I_Mod_answer_0 = true := by decide +kernel
def I_Mod_answer_20 : List IT := [(20, .aload_n 0, 1, 0, 0, []), (21, .getfield 135, 3, 0, 0, [])]
theorem ok_Mod_answer_20 : blkOK b_Mod_answer pt_Mod 24 I_Mod_answer_20 = true := by decide +kernel
def I_Mod_answer_24 : List IT := [(24, .ireturn, 1, 0, 0, [])]
theorem ok_Mod_answer_24 : blkOK b_Mod_answer pt_Mod 25 I_Mod_answer_24 = true := by decide +kernel
def I_Mod_answer_25 : List IT := [(25, .iload_n 1, 1, 0, 0, []), (26, .bipush 33, 2, 33, 0, []), (28, .if_icmp .ne 8, 3, 0, 36, []), (31, .aload_n 0, 1, 0, 0, []), (32, .getfield 29, 3, 0, 0, []), (35, .ireturn, 1, 0, 0, [])]
theorem ok_Mod_answer_25 : blkOK b_Mod_answer pt_Mod 36 I_Mod_answer_25 = true := by decide +kernel
def I_Mod_answer_36 : List IT := [(36, .iload_n 1, 1, 0, 0, []), (37, .bipush 64, 2, 64, 0, []), (39, .if_icmp .ne 8, 3, 0, 47, []), (42, .aload_n 0, 1, 0, 0, []), (43, .invokevirtual 267, 3, 0, 0, []), (46, .ireturn, 1, 0, 0, [])]
theorem ok_Mod_answer_36 : blkOK b_Mod_answer pt_Mod 47 I_Mod_answer_36 = true := by decide +kernel
def I_Mod_answer_47 : List IT := [(47, .iload_n 1, 1, 0, 0, []), (48, .bipush 96, 2, 96, 0, []), (50, .if_icmp .ne 8, 3, 0, 58, []), (53, .aload_n 0, 1, 0, 0, []), (54, .invokevirtual 270, 3, 0, 0, []), (57, .ireturn, 1, 0, 0, [])]
theorem ok_Mod_answer_47 : blkOK b_Mod_answer pt_Mod 58 I_Mod_answer_47 = true := by decide +kernel
def I_Mod_answer_58 : List IT := [(58, .iload_n 1, 1, 0, 0, []), (59, .bipush 100, 2, 100, 0, []), (61, .if_icmp .ne 16, 3, 0, 77, []), (64, .aload_n 0, 1, 0, 0, []), (65, .getfield 261, 3, 0, 0, []), (68, .ifCond .le 7, 3, 0, 75, []), (71, .iconst 1, 1, 1, 0, []), (72, .goto 4, 3, 0, 76, [])]
theorem ok_Mod_answer_58 : blkOK b_Mod_answer pt_Mod 75 I_Mod_answer_58 = true := by decide +kernel
def I_Mod_answer_75 : List IT := [(75, .iconst 0, 1, 0, 0, [])]
theorem ok_Mod_answer_75 : blkOK b_Mod_answer pt_Mod 76 I_Mod_answer_75 = true := by decide +kernel
def I_Mod_answer_76 : List IT := [(76, .ireturn, 1, 0, 0, [])]
theorem ok_Mod_answer_76 : blkOK b_Mod_answer pt_Mod 77 I_Mod_answer_76 = true := by decide +kernel
def I_Mod_answer_77 : List IT := [(77, .iload_n 1, 1, 0, 0, []), (78, .bipush 8, 2, 8, 0, []), (80, .if_icmp .eq 7, 3, 0, 87, []), (83, .sipush 255, 3, 255, 0, []), (86, .ireturn, 1, 0, 0, [])]
theorem ok_Mod_answer_77 : blkOK b_Mod_answer pt_Mod 87 I_Mod_answer_77 = true := by decide +kernel
def I_Mod_answer_87 : List IT := [(87, .aload_n 0, 1, 0, 0, []), (88, .getfield 273, 3, 0, 0, []), (91, .ifCond .eq 7, 3, 0, 98, []), (94, .iconst 2, 1, 2, 0, []), (95, .goto 4, 3, 0, 99, [])]
theorem ok_Mod_answer_87 : blkOK b_Mod_answer pt_Mod 98 I_Mod_answer_87 = true := by decide +kernel
def I_Mod_answer_98 : List IT := [(98, .iconst 0, 1, 0, 0, [])]
theorem ok_Mod_answer_98 : blkOK b_Mod_answer pt_Mod 99 I_Mod_answer_98 = true := by decide +kernel
def I_Mod_answer_99 : List IT := [(99, .istore_n 2, 1, 0, 0, []), (100, .aload_n 0, 1, 0, 0, []), (101, .iconst 0, 1, 0, 0, []), (102, .putfield 273, 3, 0, 0, []), (105, .iload_n 2, 1, 0, 0, []), (106, .ireturn, 1, 0, 0, [])]
theorem ok_Mod_answer_99 : blkOK b_Mod_answer pt_Mod 107 I_Mod_answer_99 = true := by decide +kernel
def f_Mod_answer (σ : Sg) (a1 : Int32) : Int32 × Sg := (if a1 = (32 : Int32) then (if (σ 15 20) = (0 : Int32) then ((σ 15 17), σ) else ((σ 15 18), σ)) else (if a1 = (33 : Int32) then ((σ 15 19), σ) else (if a1 = (64 : Int32) then (bnd (f_Mod_answerTimer σ) fun r5 => (r5.1, r5.2)) else (if a1 = (96 : Int32) then (bnd (f_Mod_answerKey σ) fun r7 => (r7.1, r7.2)) else (if a1 = (100 : Int32) then (if (σ 15 28) ≤ (0 : Int32) then ((0 : Int32), σ) else ((1 : Int32), σ)) else (if a1 = (8 : Int32) then (if (σ 15 35) = (0 : Int32) then (bnd (up2 σ 15 35 (0 : Int32)) fun s12 => ((0 : Int32), s12)) else (bnd (up2 σ 15 35 (0 : Int32)) fun s13 => ((2 : Int32), s13))) else ((255 : Int32), σ)))))))
abbrev w_Mod_answer : List (Nat × Option Nat) := [(15, some 17), (15, some 26), (15, some 27), (15, some 28), (15, some 35), (19, none)]
theorem p_Mod_answer {P : Sg → Prop} (hP : WP w_Mod_answer P) {σ : Sg} {a1 : Int32} (h : P σ) : PP P (f_Mod_answer σ a1) := by
  unfold f_Mod_answer
  refine ite_z (fun _ => ?_) (fun _ => ?_)
  · refine ite_z (fun _ => ?_) (fun _ => ?_)
    · exact h
    · exact h
  · refine ite_z (fun _ => ?_) (fun _ => ?_)
    · exact h
    · refine ite_z (fun _ => ?_) (fun _ => ?_)
      · refine bnd_zz (Z := PP P) (p_Mod_answerTimer (wsub hP rfl) h) fun r5 e5 q5 => ?_
        exact q5
      · refine ite_z (fun _ => ?_) (fun _ => ?_)
        · refine bnd_zz (Z := PP P) (p_Mod_answerKey (wsub hP rfl) h) fun r7 e7 q7 => ?_
          exact q7
        · refine ite_z (fun _ => ?_) (fun _ => ?_)
          · refine ite_z (fun _ => ?_) (fun _ => ?_)
            · exact h
            · exact h
          · refine ite_z (fun _ => ?_) (fun _ => ?_)
            · refine ite_z (fun _ => ?_) (fun _ => ?_)
              · refine bnd_zz (Z := P) (hP _ _ _ _ (Or.inr (by decide)) h) fun s12 e12 q12 => ?_
                exact q12
              · refine bnd_zz (Z := P) (hP _ _ _ _ (Or.inr (by decide)) h) fun s13 e13 q13 => ?_
                exact q13
            · exact h
set_option maxRecDepth 100000 in
set_option maxHeartbeats 4000000 in
theorem s_Mod_answer {l : Launch} {ad : Nat → Nat} {D : va_G} {cI : ClassId} {σ : Sg} {a1 : Int32} {K : Option Value → Sg → Prop}  (KY0 : KY σ) (hK : KI K (f_Mod_answer σ a1)) : MetJ l ad D cI mi_Mod_answer [.ref 15, .int a1] σ K := by
  refine met_of mi_Mod_answer pt_Mod pt_Mod_in rfl pl_Mod rfl (Nat.le_of_ble_eq_true rfl) fun X hX => ?_
  have hX : Cl l ad D cI mi_Mod_answer pt_Mod K X := hX
  show X 0 [.ref 15, .int a1, .null] [] σ
  unfold f_Mod_answer at hK
  refine hX.1 20 I_Mod_answer_0 ok_Mod_answer_0 _ _ _ ?_
  refine And.intro (fun h1 => ?_) (fun h1 => ?_)
  · have hK := ite_p hK h1
    refine And.intro (fun h2 => ?_) (fun h2 => ?_)
    · have hK := ite_p hK h2
      refine hX.1 24 I_Mod_answer_20 ok_Mod_answer_20 _ _ _ ?_
      refine hX.1 25 I_Mod_answer_24 ok_Mod_answer_24 _ _ _ ?_
      exact hK
    · have hK := ite_n hK h2
      refine hX.1 25 I_Mod_answer_24 ok_Mod_answer_24 _ _ _ ?_
      exact hK
  · have hK := ite_n hK h1
    refine hX.1 36 I_Mod_answer_25 ok_Mod_answer_25 _ _ _ ?_
    refine And.intro (fun h3 => ?_) (fun h3 => ?_)
    · have hK := ite_p hK h3
      exact hK
    · have hK := ite_n hK h3
      refine hX.1 47 I_Mod_answer_36 ok_Mod_answer_36 _ _ _ ?_
      refine And.intro (fun h4 => ?_) (fun h4 => ?_)
      · have hK := ite_p hK h4
        refine s_Mod_answerTimer (bnd_g hK fun r5 e5 hK => ?_)
        exact hK
      · have hK := ite_n hK h4
        refine hX.1 58 I_Mod_answer_47 ok_Mod_answer_47 _ _ _ ?_
        refine And.intro (fun h6 => ?_) (fun h6 => ?_)
        · have hK := ite_p hK h6
          refine s_Mod_answerKey (KY_1 KY0) (bnd_g hK fun r7 e7 hK => ?_)
          exact hK
        · have hK := ite_n hK h6
          refine hX.1 75 I_Mod_answer_58 ok_Mod_answer_58 _ _ _ ?_
          refine And.intro (fun h8 => ?_) (fun h8 => ?_)
          · have hK := ite_p hK h8
            refine And.intro (fun h9 => ?_) (fun h9 => ?_)
            · have hK := ite_p hK h9
              refine hX.1 76 I_Mod_answer_75 ok_Mod_answer_75 _ _ _ ?_
              refine hX.1 77 I_Mod_answer_76 ok_Mod_answer_76 _ _ _ ?_
              exact hK
            · have hK := ite_n hK h9
              refine hX.1 77 I_Mod_answer_76 ok_Mod_answer_76 _ _ _ ?_
              exact hK
          · have hK := ite_n hK h8
            refine hX.1 87 I_Mod_answer_77 ok_Mod_answer_77 _ _ _ ?_
            refine And.intro (fun h10 => ?_) (fun h10 => ?_)
            · have hK := ite_p hK h10
              refine hX.1 98 I_Mod_answer_87 ok_Mod_answer_87 _ _ _ ?_
              refine And.intro (fun h11 => ?_) (fun h11 => ?_)
              · have hK := ite_p hK h11
                refine hX.1 99 I_Mod_answer_98 ok_Mod_answer_98 _ _ _ ?_
                refine hX.1 107 I_Mod_answer_99 ok_Mod_answer_99 _ _ _ ?_
                refine And.intro (Or.inl rfl) (SG_g hK fun s12 e12 hK => ?_)
                exact hK
              · have hK := ite_n hK h11
                refine hX.1 107 I_Mod_answer_99 ok_Mod_answer_99 _ _ _ ?_
                refine And.intro (Or.inl rfl) (SG_g hK fun s13 e13 hK => ?_)
                exact hK
            · have hK := ite_n hK h10
              exact hK
def I_Mod_giveController_0 : List IT := [(0, .iload_n 1, 1, 0, 0, []), (1, .bipush 32, 2, 32, 0, []), (3, .if_icmp .ne 18, 3, 0, 21, []), (6, .aload_n 0, 1, 0, 0, []), (7, .aload_n 0, 1, 0, 0, []), (8, .getfield 138, 3, 0, 0, []), (11, .aload_n 0, 1, 0, 0, []), (12, .getfield 138, 3, 0, 0, []), (15, .iconst 1, 1, 1, 0, []), (16, .isub, 1, 0, 0, []), (17, .iand, 1, 0, 0, []), (18, .putfield 138, 3, 0, 0, [])]
theorem ok_Mod_giveController_0 : blkOK b_Mod_giveController pt_Mod 21 I_Mod_giveController_0 = true := by decide +kernel
def I_Mod_giveController_21 : List IT := [(21, .iload_n 1, 1, 0, 0, []), (22, .bipush 10, 2, 10, 0, []), (24, .if_icmp .eq 9, 3, 0, 33, []), (27, .iload_n 1, 1, 0, 0, []), (28, .bipush 11, 2, 11, 0, []), (30, .if_icmp .ne 18, 3, 0, 48, [])]
theorem ok_Mod_giveController_21 : blkOK b_Mod_giveController pt_Mod 33 I_Mod_giveController_21 = true := by decide +kernel
def I_Mod_giveController_33 : List IT := [(33, .aload_n 0, 1, 0, 0, []), (34, .iload_n 1, 1, 0, 0, []), (35, .bipush 11, 2, 11, 0, []), (37, .if_icmp .ne 7, 3, 0, 44, []), (40, .iconst 1, 1, 1, 0, []), (41, .goto 4, 3, 0, 45, [])]
theorem ok_Mod_giveController_33 : blkOK b_Mod_giveController pt_Mod 44 I_Mod_giveController_33 = true := by decide +kernel
def I_Mod_giveController_44 : List IT := [(44, .iconst 0, 1, 0, 0, [])]
theorem ok_Mod_giveController_44 : blkOK b_Mod_giveController pt_Mod 45 I_Mod_giveController_44 = true := by decide +kernel
def I_Mod_giveController_45 : List IT := [(45, .putfield 264, 3, 0, 0, [])]
theorem ok_Mod_giveController_45 : blkOK b_Mod_giveController pt_Mod 48 I_Mod_giveController_45 = true := by decide +kernel
def I_Mod_giveController_48 : List IT := [(48, .return_, 1, 0, 0, [])]
theorem ok_Mod_giveController_48 : blkOK b_Mod_giveController pt_Mod 49 I_Mod_giveController_48 = true := by decide +kernel
def f_Mod_giveController_33 (σ : Sg) (x1 : Int32) : Sg := (if x1 = (11 : Int32) then (bnd (up2 σ 15 20 (1 : Int32)) fun s2 => s2) else (bnd (up2 σ 15 20 (0 : Int32)) fun s3 => s3))
abbrev w_Mod_giveController_33 : List (Nat × Option Nat) := [(15, some 20)]
theorem p_Mod_giveController_33 {P : Sg → Prop} (hP : WP w_Mod_giveController_33 P) {σ : Sg} {x1 : Int32} (h : P σ) : P (f_Mod_giveController_33 σ x1) := by
  unfold f_Mod_giveController_33
  refine ite_z (fun _ => ?_) (fun _ => ?_)
  · refine bnd_zz (Z := P) (hP _ _ _ _ (Or.inr (by decide)) h) fun s2 e2 q2 => ?_
    exact q2
  · refine bnd_zz (Z := P) (hP _ _ _ _ (Or.inr (by decide)) h) fun s3 e3 q3 => ?_
    exact q3
set_option maxRecDepth 100000 in
set_option maxHeartbeats 4000000 in
theorem b_Mod_giveController_33 {l : Launch} {ad : Nat → Nat} {D : va_G} {cI : ClassId} {K : Option Value → Sg → Prop} {X : Nat → List Value → List Value → Sg → Prop} (hX : Cl l ad D cI mi_Mod_giveController pt_Mod K X) {σ : Sg} {x1 : Int32}   (hK : KV K (f_Mod_giveController_33 σ x1)) : X 33 [.ref 15, .int x1] [] σ := by
  unfold f_Mod_giveController_33 at hK
  refine hX.1 44 I_Mod_giveController_33 ok_Mod_giveController_33 _ _ _ ?_
  refine And.intro (fun h1 => ?_) (fun h1 => ?_)
  · have hK := ite_p hK h1
    refine hX.1 48 I_Mod_giveController_45 ok_Mod_giveController_45 _ _ _ ?_
    refine And.intro (Or.inr rfl) (SG_g hK fun s2 e2 hK => ?_)
    refine hX.1 49 I_Mod_giveController_48 ok_Mod_giveController_48 _ _ _ ?_
    exact hK
  · have hK := ite_n hK h1
    refine hX.1 45 I_Mod_giveController_44 ok_Mod_giveController_44 _ _ _ ?_
    refine hX.1 48 I_Mod_giveController_45 ok_Mod_giveController_45 _ _ _ ?_
    refine And.intro (Or.inl rfl) (SG_g hK fun s3 e3 hK => ?_)
    refine hX.1 49 I_Mod_giveController_48 ok_Mod_giveController_48 _ _ _ ?_
    exact hK
def f_Mod_giveController_21 (σ : Sg) (x1 : Int32) : Sg := (if x1 = (10 : Int32) then (f_Mod_giveController_33 σ x1) else (if x1 = (11 : Int32) then (f_Mod_giveController_33 σ x1) else σ))
abbrev w_Mod_giveController_21 : List (Nat × Option Nat) := [(15, some 20)]
theorem p_Mod_giveController_21 {P : Sg → Prop} (hP : WP w_Mod_giveController_21 P) {σ : Sg} {x1 : Int32} (h : P σ) : P (f_Mod_giveController_21 σ x1) := by
  unfold f_Mod_giveController_21
  refine ite_z (fun _ => ?_) (fun _ => ?_)
  · exact p_Mod_giveController_33 (wsub hP rfl) h
  · refine ite_z (fun _ => ?_) (fun _ => ?_)
    · exact p_Mod_giveController_33 (wsub hP rfl) h
    · exact h
set_option maxRecDepth 100000 in
set_option maxHeartbeats 4000000 in
theorem b_Mod_giveController_21 {l : Launch} {ad : Nat → Nat} {D : va_G} {cI : ClassId} {K : Option Value → Sg → Prop} {X : Nat → List Value → List Value → Sg → Prop} (hX : Cl l ad D cI mi_Mod_giveController pt_Mod K X) {σ : Sg} {x1 : Int32}   (hK : KV K (f_Mod_giveController_21 σ x1)) : X 21 [.ref 15, .int x1] [] σ := by
  unfold f_Mod_giveController_21 at hK
  refine hX.1 33 I_Mod_giveController_21 ok_Mod_giveController_21 _ _ _ ?_
  refine And.intro (fun h1 => ?_) (fun h1 => ?_)
  · have hK := ite_p hK h1
    exact b_Mod_giveController_33 hX  hK
  · have hK := ite_n hK h1
    refine And.intro (fun h2 => ?_) (fun h2 => ?_)
    · have hK := ite_p hK h2
      exact b_Mod_giveController_33 hX  hK
    · have hK := ite_n hK h2
      refine hX.1 49 I_Mod_giveController_48 ok_Mod_giveController_48 _ _ _ ?_
      exact hK
def f_Mod_giveController (σ : Sg) (a1 : Int32) : Sg := (if a1 = (32 : Int32) then (bnd (up2 σ 15 18 ((σ 15 18) &&& ((σ 15 18) - (1 : Int32)))) fun s2 => (f_Mod_giveController_21 s2 a1)) else (f_Mod_giveController_21 σ a1))
abbrev w_Mod_giveController : List (Nat × Option Nat) := [(15, some 18), (15, some 20)]
theorem p_Mod_giveController {P : Sg → Prop} (hP : WP w_Mod_giveController P) {σ : Sg} {a1 : Int32} (h : P σ) : P (f_Mod_giveController σ a1) := by
  unfold f_Mod_giveController
  refine ite_z (fun _ => ?_) (fun _ => ?_)
  · refine bnd_zz (Z := P) (hP _ _ _ _ (Or.inr (by decide)) h) fun s2 e2 q2 => ?_
    exact p_Mod_giveController_21 (wsub hP rfl) q2
  · exact p_Mod_giveController_21 (wsub hP rfl) h
set_option maxRecDepth 100000 in
set_option maxHeartbeats 4000000 in
theorem s_Mod_giveController {l : Launch} {ad : Nat → Nat} {D : va_G} {cI : ClassId} {σ : Sg} {a1 : Int32} {K : Option Value → Sg → Prop}   (hK : KV K (f_Mod_giveController σ a1)) : MetJ l ad D cI mi_Mod_giveController [.ref 15, .int a1] σ K := by
  refine met_of mi_Mod_giveController pt_Mod pt_Mod_in rfl pl_Mod rfl (Nat.le_of_ble_eq_true rfl) fun X hX => ?_
  have hX : Cl l ad D cI mi_Mod_giveController pt_Mod K X := hX
  show X 0 [.ref 15, .int a1] [] σ
  unfold f_Mod_giveController at hK
  refine hX.1 21 I_Mod_giveController_0 ok_Mod_giveController_0 _ _ _ ?_
  refine And.intro (fun h1 => ?_) (fun h1 => ?_)
  · have hK := ite_p hK h1
    refine And.intro trivial (SG_g hK fun s2 e2 hK => ?_)
    exact b_Mod_giveController_21 hX  hK
  · have hK := ite_n hK h1
    exact b_Mod_giveController_21 hX  hK
def I_Mod_giveTimer_0 : List IT := [(0, .aload_n 0, 1, 0, 0, []), (1, .getfield 276, 3, 0, 0, []), (4, .ifCond .eq 52, 3, 0, 56, []), (7, .aload_n 0, 1, 0, 0, []), (8, .aload_n 0, 1, 0, 0, []), (9, .getfield 279, 3, 0, 0, []), (12, .sipush 256, 3, 256, 0, []), (15, .iload_n 1, 1, 0, 0, []), (16, .imul, 1, 0, 0, []), (17, .iadd, 1, 0, 0, []), (18, .ifCond .ne 9, 3, 0, 27, []), (21, .ldc_w 282, 3, 65536, 0, []), (24, .goto 13, 3, 0, 37, [])]
theorem ok_Mod_giveTimer_0 : blkOK b_Mod_giveTimer pt_Mod 27 I_Mod_giveTimer_0 = true := by decide +kernel
def I_Mod_giveTimer_27 : List IT := [(27, .aload_n 0, 1, 0, 0, []), (28, .getfield 279, 3, 0, 0, []), (31, .sipush 256, 3, 256, 0, []), (34, .iload_n 1, 1, 0, 0, []), (35, .imul, 1, 0, 0, []), (36, .iadd, 1, 0, 0, [])]
theorem ok_Mod_giveTimer_27 : blkOK b_Mod_giveTimer pt_Mod 37 I_Mod_giveTimer_27 = true := by decide +kernel
def I_Mod_giveTimer_37 : List IT := [(37, .putfield 249, 3, 0, 0, []), (40, .aload_n 0, 1, 0, 0, []), (41, .aload_n 0, 1, 0, 0, []), (42, .getfield 249, 3, 0, 0, []), (45, .putfield 246, 3, 0, 0, []), (48, .aload_n 0, 1, 0, 0, []), (49, .iconst 1, 1, 1, 0, []), (50, .putfield 243, 3, 0, 0, []), (53, .goto 8, 3, 0, 61, [])]
theorem ok_Mod_giveTimer_37 : blkOK b_Mod_giveTimer pt_Mod 56 I_Mod_giveTimer_37 = true := by decide +kernel
def I_Mod_giveTimer_56 : List IT := [(56, .aload_n 0, 1, 0, 0, []), (57, .iload_n 1, 1, 0, 0, []), (58, .putfield 279, 3, 0, 0, [])]
theorem ok_Mod_giveTimer_56 : blkOK b_Mod_giveTimer pt_Mod 61 I_Mod_giveTimer_56 = true := by decide +kernel
def I_Mod_giveTimer_61 : List IT := [(61, .aload_n 0, 1, 0, 0, []), (62, .aload_n 0, 1, 0, 0, []), (63, .getfield 276, 3, 0, 0, []), (66, .ifCond .ne 7, 3, 0, 73, []), (69, .iconst 1, 1, 1, 0, []), (70, .goto 4, 3, 0, 74, [])]
theorem ok_Mod_giveTimer_61 : blkOK b_Mod_giveTimer pt_Mod 73 I_Mod_giveTimer_61 = true := by decide +kernel
def I_Mod_giveTimer_73 : List IT := [(73, .iconst 0, 1, 0, 0, [])]
theorem ok_Mod_giveTimer_73 : blkOK b_Mod_giveTimer pt_Mod 74 I_Mod_giveTimer_73 = true := by decide +kernel
def I_Mod_giveTimer_74 : List IT := [(74, .putfield 276, 3, 0, 0, []), (77, .return_, 1, 0, 0, [])]
theorem ok_Mod_giveTimer_74 : blkOK b_Mod_giveTimer pt_Mod 78 I_Mod_giveTimer_74 = true := by decide +kernel
def f_Mod_giveTimer_61 (σ : Sg)  : Sg := (if (σ 15 25) = (0 : Int32) then (bnd (up2 σ 15 25 (1 : Int32)) fun s2 => s2) else (bnd (up2 σ 15 25 (0 : Int32)) fun s3 => s3))
abbrev w_Mod_giveTimer_61 : List (Nat × Option Nat) := [(15, some 25)]
theorem p_Mod_giveTimer_61 {P : Sg → Prop} (hP : WP w_Mod_giveTimer_61 P) {σ : Sg}  (h : P σ) : P (f_Mod_giveTimer_61 σ ) := by
  unfold f_Mod_giveTimer_61
  refine ite_z (fun _ => ?_) (fun _ => ?_)
  · refine bnd_zz (Z := P) (hP _ _ _ _ (Or.inr (by decide)) h) fun s2 e2 q2 => ?_
    exact q2
  · refine bnd_zz (Z := P) (hP _ _ _ _ (Or.inr (by decide)) h) fun s3 e3 q3 => ?_
    exact q3
set_option maxRecDepth 100000 in
set_option maxHeartbeats 4000000 in
theorem b_Mod_giveTimer_61 {l : Launch} {ad : Nat → Nat} {D : va_G} {cI : ClassId} {K : Option Value → Sg → Prop} {X : Nat → List Value → List Value → Sg → Prop} (hX : Cl l ad D cI mi_Mod_giveTimer pt_Mod K X) {σ : Sg}    (hK : KV K (f_Mod_giveTimer_61 σ )) : X 61 [.ref 15, .null] [] σ := by
  unfold f_Mod_giveTimer_61 at hK
  refine hX.1 73 I_Mod_giveTimer_61 ok_Mod_giveTimer_61 _ _ _ ?_
  refine And.intro (fun h1 => ?_) (fun h1 => ?_)
  · have hK := ite_p hK h1
    refine hX.1 78 I_Mod_giveTimer_74 ok_Mod_giveTimer_74 _ _ _ ?_
    refine And.intro (Or.inr rfl) (SG_g hK fun s2 e2 hK => ?_)
    exact hK
  · have hK := ite_n hK h1
    refine hX.1 74 I_Mod_giveTimer_73 ok_Mod_giveTimer_73 _ _ _ ?_
    refine hX.1 78 I_Mod_giveTimer_74 ok_Mod_giveTimer_74 _ _ _ ?_
    refine And.intro (Or.inl rfl) (SG_g hK fun s3 e3 hK => ?_)
    exact hK
def f_Mod_giveTimer_37 (σ : Sg) (y0 : Int32) : Sg := (bnd (up2 σ 15 22 y0) fun s1 => bnd (up2 s1 15 23 (s1 15 22)) fun s2 => bnd (up2 s2 15 21 (1 : Int32)) fun s3 => (f_Mod_giveTimer_61 s3))
abbrev w_Mod_giveTimer_37 : List (Nat × Option Nat) := [(15, some 21), (15, some 22), (15, some 23), (15, some 25)]
theorem p_Mod_giveTimer_37 {P : Sg → Prop} (hP : WP w_Mod_giveTimer_37 P) {σ : Sg} {y0 : Int32} (h : P σ) : P (f_Mod_giveTimer_37 σ y0) := by
  unfold f_Mod_giveTimer_37
  refine bnd_zz (Z := P) (hP _ _ _ _ (Or.inr (by decide)) h) fun s1 e1 q1 => ?_
  refine bnd_zz (Z := P) (hP _ _ _ _ (Or.inr (by decide)) q1) fun s2 e2 q2 => ?_
  refine bnd_zz (Z := P) (hP _ _ _ _ (Or.inr (by decide)) q2) fun s3 e3 q3 => ?_
  exact p_Mod_giveTimer_61 (wsub hP rfl) q3
set_option maxRecDepth 100000 in
set_option maxHeartbeats 4000000 in
theorem b_Mod_giveTimer_37 {l : Launch} {ad : Nat → Nat} {D : va_G} {cI : ClassId} {K : Option Value → Sg → Prop} {X : Nat → List Value → List Value → Sg → Prop} (hX : Cl l ad D cI mi_Mod_giveTimer pt_Mod K X) {σ : Sg} {y0 : Int32}   (hK : KV K (f_Mod_giveTimer_37 σ y0)) : X 37 [.ref 15, .null] [.int y0, .ref 15] σ := by
  unfold f_Mod_giveTimer_37 at hK
  refine hX.1 56 I_Mod_giveTimer_37 ok_Mod_giveTimer_37 _ _ _ ?_
  refine And.intro trivial (SG_g hK fun s1 e1 hK => ?_)
  refine And.intro trivial (SG_g hK fun s2 e2 hK => ?_)
  refine And.intro (Or.inr rfl) (SG_g hK fun s3 e3 hK => ?_)
  exact b_Mod_giveTimer_61 hX  hK
def f_Mod_giveTimer (σ : Sg) (a1 : Int32) : Sg := (if (σ 15 25) = (0 : Int32) then (bnd (up2 σ 15 24 a1) fun s2 => (f_Mod_giveTimer_61 s2)) else (if ((σ 15 24) + ((256 : Int32) * a1)) = (0 : Int32) then (f_Mod_giveTimer_37 σ (65536 : Int32)) else (f_Mod_giveTimer_37 σ ((σ 15 24) + ((256 : Int32) * a1)))))
abbrev w_Mod_giveTimer : List (Nat × Option Nat) := [(15, some 21), (15, some 22), (15, some 23), (15, some 24), (15, some 25)]
theorem p_Mod_giveTimer {P : Sg → Prop} (hP : WP w_Mod_giveTimer P) {σ : Sg} {a1 : Int32} (h : P σ) : P (f_Mod_giveTimer σ a1) := by
  unfold f_Mod_giveTimer
  refine ite_z (fun _ => ?_) (fun _ => ?_)
  · refine bnd_zz (Z := P) (hP _ _ _ _ (Or.inr (by decide)) h) fun s2 e2 q2 => ?_
    exact p_Mod_giveTimer_61 (wsub hP rfl) q2
  · refine ite_z (fun _ => ?_) (fun _ => ?_)
    · exact p_Mod_giveTimer_37 (wsub hP rfl) h
    · exact p_Mod_giveTimer_37 (wsub hP rfl) h
set_option maxRecDepth 100000 in
set_option maxHeartbeats 4000000 in
theorem s_Mod_giveTimer {l : Launch} {ad : Nat → Nat} {D : va_G} {cI : ClassId} {σ : Sg} {a1 : Int32} {K : Option Value → Sg → Prop}   (hK : KV K (f_Mod_giveTimer σ a1)) : MetJ l ad D cI mi_Mod_giveTimer [.ref 15, .int a1] σ K := by
  refine met_of mi_Mod_giveTimer pt_Mod pt_Mod_in rfl pl_Mod rfl (Nat.le_of_ble_eq_true rfl) fun X hX => ?_
  have hX : Cl l ad D cI mi_Mod_giveTimer pt_Mod K X := hX
  show X 0 [.ref 15, .int a1] [] σ
  unfold f_Mod_giveTimer at hK
  refine hX.1 27 I_Mod_giveTimer_0 ok_Mod_giveTimer_0 _ _ _ ?_
  refine And.intro (fun h1 => ?_) (fun h1 => ?_)
  · have hK := ite_p hK h1
    refine hX.1 61 I_Mod_giveTimer_56 ok_Mod_giveTimer_56 _ _ _ ?_
    refine And.intro trivial (SG_g hK fun s2 e2 hK => ?_)
    refine hX.fg [1] ?_
    exact b_Mod_giveTimer_61 hX  hK
  · have hK := ite_n hK h1
    refine And.intro (fun h3 => ?_) (fun h3 => ?_)
    · have hK := ite_p hK h3
      refine hX.fg [1] ?_
      exact b_Mod_giveTimer_37 hX  hK
    · have hK := ite_n hK h3
      refine hX.1 37 I_Mod_giveTimer_27 ok_Mod_giveTimer_27 _ _ _ ?_
      refine hX.fg [1] ?_
      exact b_Mod_giveTimer_37 hX  hK
def I_Mod_giveChannel_0 : List IT := [(0, .iload_n 1, 1, 0, 0, []), (1, .iconst 2, 1, 2, 0, []), (2, .if_icmp .ne 15, 3, 0, 17, []), (5, .aload_n 0, 1, 0, 0, []), (6, .getfield 283, 3, 0, 0, []), (9, .ifCond .ne 8, 3, 0, 17, []), (12, .aload_n 0, 1, 0, 0, []), (13, .iload_n 2, 1, 0, 0, []), (14, .putfield 286, 3, 0, 0, [])]
theorem ok_Mod_giveChannel_0 : blkOK b_Mod_giveChannel pt_Mod 17 I_Mod_giveChannel_0 = true := by decide +kernel
def I_Mod_giveChannel_17 : List IT := [(17, .iload_n 1, 1, 0, 0, []), (18, .iconst 3, 1, 3, 0, []), (19, .if_icmp .ne 39, 3, 0, 58, []), (22, .aload_n 0, 1, 0, 0, []), (23, .aload_n 0, 1, 0, 0, []), (24, .getfield 283, 3, 0, 0, []), (27, .ifCond .eq 19, 3, 0, 46, []), (30, .aload_n 0, 1, 0, 0, []), (31, .getfield 289, 3, 0, 0, []), (34, .sipush 255, 3, 255, 0, []), (37, .iand, 1, 0, 0, []), (38, .iload_n 2, 1, 0, 0, []), (39, .bipush 8, 2, 8, 0, []), (41, .ishl, 1, 0, 0, []), (42, .ior, 1, 0, 0, []), (43, .goto 12, 3, 0, 55, [])]
theorem ok_Mod_giveChannel_17 : blkOK b_Mod_giveChannel pt_Mod 46 I_Mod_giveChannel_17 = true := by decide +kernel
def I_Mod_giveChannel_46 : List IT := [(46, .aload_n 0, 1, 0, 0, []), (47, .getfield 289, 3, 0, 0, []), (50, .ldc 57, 2, 65280, 0, []), (52, .iand, 1, 0, 0, []), (53, .iload_n 2, 1, 0, 0, []), (54, .ior, 1, 0, 0, [])]
theorem ok_Mod_giveChannel_46 : blkOK b_Mod_giveChannel pt_Mod 55 I_Mod_giveChannel_46 = true := by decide +kernel
def I_Mod_giveChannel_55 : List IT := [(55, .putfield 289, 3, 0, 0, [])]
theorem ok_Mod_giveChannel_55 : blkOK b_Mod_giveChannel pt_Mod 58 I_Mod_giveChannel_55 = true := by decide +kernel
def I_Mod_giveChannel_58 : List IT := [(58, .aload_n 0, 1, 0, 0, []), (59, .aload_n 0, 1, 0, 0, []), (60, .getfield 283, 3, 0, 0, []), (63, .ifCond .ne 7, 3, 0, 70, []), (66, .iconst 1, 1, 1, 0, []), (67, .goto 4, 3, 0, 71, [])]
theorem ok_Mod_giveChannel_58 : blkOK b_Mod_giveChannel pt_Mod 70 I_Mod_giveChannel_58 = true := by decide +kernel
def I_Mod_giveChannel_70 : List IT := [(70, .iconst 0, 1, 0, 0, [])]
theorem ok_Mod_giveChannel_70 : blkOK b_Mod_giveChannel pt_Mod 71 I_Mod_giveChannel_70 = true := by decide +kernel
def I_Mod_giveChannel_71 : List IT := [(71, .putfield 283, 3, 0, 0, []), (74, .return_, 1, 0, 0, [])]
theorem ok_Mod_giveChannel_71 : blkOK b_Mod_giveChannel pt_Mod 75 I_Mod_giveChannel_71 = true := by decide +kernel
def f_Mod_giveChannel_58 (σ : Sg)  : Sg := (if (σ 15 33) = (0 : Int32) then (bnd (up2 σ 15 33 (1 : Int32)) fun s2 => s2) else (bnd (up2 σ 15 33 (0 : Int32)) fun s3 => s3))
abbrev w_Mod_giveChannel_58 : List (Nat × Option Nat) := [(15, some 33)]
theorem p_Mod_giveChannel_58 {P : Sg → Prop} (hP : WP w_Mod_giveChannel_58 P) {σ : Sg}  (h : P σ) : P (f_Mod_giveChannel_58 σ ) := by
  unfold f_Mod_giveChannel_58
  refine ite_z (fun _ => ?_) (fun _ => ?_)
  · refine bnd_zz (Z := P) (hP _ _ _ _ (Or.inr (by decide)) h) fun s2 e2 q2 => ?_
    exact q2
  · refine bnd_zz (Z := P) (hP _ _ _ _ (Or.inr (by decide)) h) fun s3 e3 q3 => ?_
    exact q3
set_option maxRecDepth 100000 in
set_option maxHeartbeats 4000000 in
theorem b_Mod_giveChannel_58 {l : Launch} {ad : Nat → Nat} {D : va_G} {cI : ClassId} {K : Option Value → Sg → Prop} {X : Nat → List Value → List Value → Sg → Prop} (hX : Cl l ad D cI mi_Mod_giveChannel pt_Mod K X) {σ : Sg}    (hK : KV K (f_Mod_giveChannel_58 σ )) : X 58 [.ref 15, .null, .null] [] σ := by
  unfold f_Mod_giveChannel_58 at hK
  refine hX.1 70 I_Mod_giveChannel_58 ok_Mod_giveChannel_58 _ _ _ ?_
  refine And.intro (fun h1 => ?_) (fun h1 => ?_)
  · have hK := ite_p hK h1
    refine hX.1 75 I_Mod_giveChannel_71 ok_Mod_giveChannel_71 _ _ _ ?_
    refine And.intro (Or.inr rfl) (SG_g hK fun s2 e2 hK => ?_)
    exact hK
  · have hK := ite_n hK h1
    refine hX.1 71 I_Mod_giveChannel_70 ok_Mod_giveChannel_70 _ _ _ ?_
    refine hX.1 75 I_Mod_giveChannel_71 ok_Mod_giveChannel_71 _ _ _ ?_
    refine And.intro (Or.inl rfl) (SG_g hK fun s3 e3 hK => ?_)
    exact hK
def f_Mod_giveChannel_55 (σ : Sg) (y0 : Int32) : Sg := (bnd (up2 σ 15 31 y0) fun s1 => (f_Mod_giveChannel_58 s1))
abbrev w_Mod_giveChannel_55 : List (Nat × Option Nat) := [(15, some 31), (15, some 33)]
theorem p_Mod_giveChannel_55 {P : Sg → Prop} (hP : WP w_Mod_giveChannel_55 P) {σ : Sg} {y0 : Int32} (h : P σ) : P (f_Mod_giveChannel_55 σ y0) := by
  unfold f_Mod_giveChannel_55
  refine bnd_zz (Z := P) (hP _ _ _ _ (Or.inr (by decide)) h) fun s1 e1 q1 => ?_
  exact p_Mod_giveChannel_58 (wsub hP rfl) q1
set_option maxRecDepth 100000 in
set_option maxHeartbeats 4000000 in
theorem b_Mod_giveChannel_55 {l : Launch} {ad : Nat → Nat} {D : va_G} {cI : ClassId} {K : Option Value → Sg → Prop} {X : Nat → List Value → List Value → Sg → Prop} (hX : Cl l ad D cI mi_Mod_giveChannel pt_Mod K X) {σ : Sg} {y0 : Int32}   (hK : KV K (f_Mod_giveChannel_55 σ y0)) : X 55 [.ref 15, .null, .null] [.int y0, .ref 15] σ := by
  unfold f_Mod_giveChannel_55 at hK
  refine hX.1 58 I_Mod_giveChannel_55 ok_Mod_giveChannel_55 _ _ _ ?_
  refine And.intro trivial (SG_g hK fun s1 e1 hK => ?_)
  exact b_Mod_giveChannel_58 hX  hK
def f_Mod_giveChannel_17 (σ : Sg) (x1 : Int32) (x2 : Int32) : Sg := (if x1 = (3 : Int32) then (if (σ 15 33) = (0 : Int32) then (f_Mod_giveChannel_55 σ (((σ 15 31) &&& (65280 : Int32)) ||| x2)) else (f_Mod_giveChannel_55 σ (((σ 15 31) &&& (255 : Int32)) ||| (x2 <<< ((8 : Int32) &&& 31 : Int32))))) else (f_Mod_giveChannel_58 σ))
abbrev w_Mod_giveChannel_17 : List (Nat × Option Nat) := [(15, some 31), (15, some 33)]
theorem p_Mod_giveChannel_17 {P : Sg → Prop} (hP : WP w_Mod_giveChannel_17 P) {σ : Sg} {x1 : Int32} {x2 : Int32} (h : P σ) : P (f_Mod_giveChannel_17 σ x1 x2) := by
  unfold f_Mod_giveChannel_17
  refine ite_z (fun _ => ?_) (fun _ => ?_)
  · refine ite_z (fun _ => ?_) (fun _ => ?_)
    · exact p_Mod_giveChannel_55 (wsub hP rfl) h
    · exact p_Mod_giveChannel_55 (wsub hP rfl) h
  · exact p_Mod_giveChannel_58 (wsub hP rfl) h
set_option maxRecDepth 100000 in
set_option maxHeartbeats 4000000 in
theorem b_Mod_giveChannel_17 {l : Launch} {ad : Nat → Nat} {D : va_G} {cI : ClassId} {K : Option Value → Sg → Prop} {X : Nat → List Value → List Value → Sg → Prop} (hX : Cl l ad D cI mi_Mod_giveChannel pt_Mod K X) {σ : Sg} {x1 : Int32} {x2 : Int32}   (hK : KV K (f_Mod_giveChannel_17 σ x1 x2)) : X 17 [.ref 15, .int x1, .int x2] [] σ := by
  unfold f_Mod_giveChannel_17 at hK
  refine hX.1 46 I_Mod_giveChannel_17 ok_Mod_giveChannel_17 _ _ _ ?_
  refine And.intro (fun h1 => ?_) (fun h1 => ?_)
  · have hK := ite_p hK h1
    refine And.intro (fun h2 => ?_) (fun h2 => ?_)
    · have hK := ite_p hK h2
      refine hX.1 55 I_Mod_giveChannel_46 ok_Mod_giveChannel_46 _ _ _ ?_
      refine hX.fg [1, 2] ?_
      exact b_Mod_giveChannel_55 hX  hK
    · have hK := ite_n hK h2
      refine hX.fg [1, 2] ?_
      exact b_Mod_giveChannel_55 hX  hK
  · have hK := ite_n hK h1
    refine hX.fg [1, 2] ?_
    exact b_Mod_giveChannel_58 hX  hK
def f_Mod_giveChannel (σ : Sg) (a1 : Int32) (a2 : Int32) : Sg := (if a1 = (2 : Int32) then (if (σ 15 33) = (0 : Int32) then (bnd (up2 σ 15 30 a2) fun s3 => (f_Mod_giveChannel_17 s3 a1 a2)) else (f_Mod_giveChannel_17 σ a1 a2)) else (f_Mod_giveChannel_17 σ a1 a2))
abbrev w_Mod_giveChannel : List (Nat × Option Nat) := [(15, some 30), (15, some 31), (15, some 33)]
theorem p_Mod_giveChannel {P : Sg → Prop} (hP : WP w_Mod_giveChannel P) {σ : Sg} {a1 : Int32} {a2 : Int32} (h : P σ) : P (f_Mod_giveChannel σ a1 a2) := by
  unfold f_Mod_giveChannel
  refine ite_z (fun _ => ?_) (fun _ => ?_)
  · refine ite_z (fun _ => ?_) (fun _ => ?_)
    · refine bnd_zz (Z := P) (hP _ _ _ _ (Or.inr (by decide)) h) fun s3 e3 q3 => ?_
      exact p_Mod_giveChannel_17 (wsub hP rfl) q3
    · exact p_Mod_giveChannel_17 (wsub hP rfl) h
  · exact p_Mod_giveChannel_17 (wsub hP rfl) h
set_option maxRecDepth 100000 in
set_option maxHeartbeats 4000000 in
theorem s_Mod_giveChannel {l : Launch} {ad : Nat → Nat} {D : va_G} {cI : ClassId} {σ : Sg} {a1 : Int32} {a2 : Int32} {K : Option Value → Sg → Prop}   (hK : KV K (f_Mod_giveChannel σ a1 a2)) : MetJ l ad D cI mi_Mod_giveChannel [.ref 15, .int a1, .int a2] σ K := by
  refine met_of mi_Mod_giveChannel pt_Mod pt_Mod_in rfl pl_Mod rfl (Nat.le_of_ble_eq_true rfl) fun X hX => ?_
  have hX : Cl l ad D cI mi_Mod_giveChannel pt_Mod K X := hX
  show X 0 [.ref 15, .int a1, .int a2] [] σ
  unfold f_Mod_giveChannel at hK
  refine hX.1 17 I_Mod_giveChannel_0 ok_Mod_giveChannel_0 _ _ _ ?_
  refine And.intro (fun h1 => ?_) (fun h1 => ?_)
  · have hK := ite_p hK h1
    refine And.intro (fun h2 => ?_) (fun h2 => ?_)
    · have hK := ite_p hK h2
      refine And.intro trivial (SG_g hK fun s3 e3 hK => ?_)
      exact b_Mod_giveChannel_17 hX  hK
    · have hK := ite_n hK h2
      exact b_Mod_giveChannel_17 hX  hK
  · have hK := ite_n hK h1
    exact b_Mod_giveChannel_17 hX  hK
