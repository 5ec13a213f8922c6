def I_Mod_tickTimer_0 : List IT := [(0, .aload_n 0, 1, 0, 0, []), (1, .getfield 243, 3, 0, 0, []), (4, .ifCond .ne 4, 3, 0, 8, []), (7, .return_, 1, 0, 0, [])]
theorem ok_Mod_tickTimer_0 : blkOK b_Mod_tickTimer pt_Mod 8 I_Mod_tickTimer_0 = true := by decide +kernel
def I_Mod_tickTimer_8 : List IT := [(8, .aload_n 0, 1, 0, 0, []), (9, .aload_n 0, 1, 0, 0, []), (10, .getfield 246, 3, 0, 0, []), (13, .iconst 1, 1, 1, 0, []), (14, .isub, 1, 0, 0, []), (15, .putfield 246, 3, 0, 0, []), (18, .aload_n 0, 1, 0, 0, []), (19, .getfield 246, 3, 0, 0, []), (22, .ifCond .ne 16, 3, 0, 38, []), (25, .aload_n 0, 1, 0, 0, []), (26, .aload_n 0, 1, 0, 0, []), (27, .getfield 249, 3, 0, 0, []), (30, .putfield 246, 3, 0, 0, []), (33, .aload_n 0, 1, 0, 0, []), (34, .iconst 0, 1, 0, 0, []), (35, .invokevirtual 252, 3, 0, 0, [])]
theorem ok_Mod_tickTimer_8 : blkOK b_Mod_tickTimer pt_Mod 38 I_Mod_tickTimer_8 = true := by decide +kernel
def I_Mod_tickTimer_38 : List IT := [(38, .return_, 1, 0, 0, [])]
theorem ok_Mod_tickTimer_38 : blkOK b_Mod_tickTimer pt_Mod 39 I_Mod_tickTimer_38 = true := by decide +kernel
def f_Mod_tickTimer (σ : Sg)  : Sg := (if (σ 15 21) = (0 : Int32) then σ else (bnd (up2 σ 15 23 ((σ 15 23) - (1 : Int32))) fun s2 => (if (s2 15 23) = (0 : Int32) then (bnd (up2 s2 15 23 (s2 15 22)) fun s4 => bnd (f_Mod_request s4 (0 : Int32)) fun r5 => r5) else s2)))
abbrev w_Mod_tickTimer : List (Nat × Option Nat) := [(15, some 17), (15, some 23)]
theorem p_Mod_tickTimer {P : Sg → Prop} (hP : WP w_Mod_tickTimer P) {σ : Sg}  (h : P σ) : P (f_Mod_tickTimer σ ) := by
  unfold f_Mod_tickTimer
  refine ite_z (fun _ => ?_) (fun _ => ?_)
  · exact h
  · refine bnd_zz (Z := P) (hP _ _ _ _ (Or.inr (by decide)) h) fun s2 e2 q2 => ?_
    refine ite_z (fun _ => ?_) (fun _ => ?_)
    · refine bnd_zz (Z := P) (hP _ _ _ _ (Or.inr (by decide)) q2) fun s4 e4 q4 => ?_
      refine bnd_zz (Z := P) (p_Mod_request (wsub hP rfl) q4) fun r5 e5 q5 => ?_
      exact q5
    · exact q2
set_option maxRecDepth 100000 in
set_option maxHeartbeats 4000000 in
theorem s_Mod_tickTimer {l : Launch} {ad : Nat → Nat} {D : va_G} {cI : ClassId} {σ : Sg}  {K : Option Value → Sg → Prop}   (hK : KV K (f_Mod_tickTimer σ )) : MetJ l ad D cI mi_Mod_tickTimer [.ref 15] σ K := by
  refine met_of mi_Mod_tickTimer pt_Mod pt_Mod_in rfl pl_Mod rfl (Nat.le_of_ble_eq_true rfl) fun X hX => ?_
  have hX : Cl l ad D cI mi_Mod_tickTimer pt_Mod K X := hX
  show X 0 [.ref 15] [] σ
  unfold f_Mod_tickTimer at hK
  refine hX.1 8 I_Mod_tickTimer_0 ok_Mod_tickTimer_0 _ _ _ ?_
  refine And.intro (fun h1 => ?_) (fun h1 => ?_)
  · have hK := ite_p hK h1
    exact hK
  · have hK := ite_n hK h1
    refine hX.1 38 I_Mod_tickTimer_8 ok_Mod_tickTimer_8 _ _ _ ?_
    refine And.intro trivial (SG_g hK fun s2 e2 hK => ?_)
    refine And.intro (fun h3 => ?_) (fun h3 => ?_)
    · have hK := ite_p hK h3
      refine And.intro trivial (SG_g hK fun s4 e4 hK => ?_)
      refine s_Mod_request (bnd_g hK fun r5 e5 hK => ?_)
      refine hX.1 39 I_Mod_tickTimer_38 ok_Mod_tickTimer_38 _ _ _ ?_
      exact hK
    · have hK := ite_n hK h3
      refine hX.1 39 I_Mod_tickTimer_38 ok_Mod_tickTimer_38 _ _ _ ?_
      exact hK
def I_Mod_oneStep_0 : List IT := [(0, .aload_n 0, 1, 0, 0, []), (1, .invokevirtual 307, 3, 0, 0, []), (4, .aload_n 0, 1, 0, 0, []), (5, .getfield 161, 3, 0, 0, []), (8, .istore_n 1, 1, 0, 0, []), (9, .aload_n 0, 1, 0, 0, []), (10, .iconst 0, 1, 0, 0, []), (11, .putfield 161, 3, 0, 0, []), (14, .aload_n 0, 1, 0, 0, []), (15, .sipush 512, 3, 512, 0, []), (18, .invokevirtual 114, 3, 0, 0, []), (21, .ifCond .eq 14, 3, 0, 35, []), (24, .iload_n 1, 1, 0, 0, []), (25, .ifCond .ne 10, 3, 0, 35, []), (28, .aload_n 0, 1, 0, 0, []), (29, .invokevirtual 310, 3, 0, 0, []), (32, .goto 4, 3, 0, 36, [])]
theorem ok_Mod_oneStep_0 : blkOK b_Mod_oneStep pt_Mod 35 I_Mod_oneStep_0 = true := by decide +kernel
def I_Mod_oneStep_35 : List IT := [(35, .iconst (-1), 1, (-1), 0, [])]
theorem ok_Mod_oneStep_35 : blkOK b_Mod_oneStep pt_Mod 36 I_Mod_oneStep_35 = true := by decide +kernel
def I_Mod_oneStep_36 : List IT := [(36, .istore_n 2, 1, 0, 0, []), (37, .iload_n 2, 1, 0, 0, []), (38, .ifCond .lt 45, 3, 0, 83, []), (41, .aload_n 0, 1, 0, 0, []), (42, .aload_n 0, 1, 0, 0, []), (43, .getfield 135, 3, 0, 0, []), (46, .iconst 1, 1, 1, 0, []), (47, .iload_n 2, 1, 0, 0, []), (48, .ishl, 1, 0, 0, []), (49, .iconst (-1), 1, (-1), 0, []), (50, .ixor, 1, 0, 0, []), (51, .iand, 1, 0, 0, []), (52, .putfield 135, 3, 0, 0, []), (55, .aload_n 0, 1, 0, 0, []), (56, .aload_n 0, 1, 0, 0, []), (57, .getfield 138, 3, 0, 0, []), (60, .iconst 1, 1, 1, 0, []), (61, .iload_n 2, 1, 0, 0, []), (62, .ishl, 1, 0, 0, []), (63, .ior, 1, 0, 0, []), (64, .putfield 138, 3, 0, 0, []), (67, .aload_n 0, 1, 0, 0, []), (68, .iconst 0, 1, 0, 0, []), (69, .putfield 210, 3, 0, 0, []), (72, .aload_n 0, 1, 0, 0, []), (73, .bipush 8, 2, 8, 0, []), (75, .iload_n 2, 1, 0, 0, []), (76, .iadd, 1, 0, 0, []), (77, .invokevirtual 170, 3, 0, 0, []), (80, .goto 14, 3, 0, 94, [])]
theorem ok_Mod_oneStep_36 : blkOK b_Mod_oneStep pt_Mod 83 I_Mod_oneStep_36 = true := by decide +kernel
def I_Mod_oneStep_83 : List IT := [(83, .aload_n 0, 1, 0, 0, []), (84, .getfield 210, 3, 0, 0, []), (87, .ifCond .ne 7, 3, 0, 94, []), (90, .aload_n 0, 1, 0, 0, []), (91, .invokevirtual 313, 3, 0, 0, [])]
theorem ok_Mod_oneStep_83 : blkOK b_Mod_oneStep pt_Mod 94 I_Mod_oneStep_83 = true := by decide +kernel
def I_Mod_oneStep_94 : List IT := [(94, .return_, 1, 0, 0, [])]
theorem ok_Mod_oneStep_94 : blkOK b_Mod_oneStep pt_Mod 95 I_Mod_oneStep_94 = true := by decide +kernel
def f_Mod_oneStep_36 (σ : Sg) (y0 : Int32) : Sg := (if y0 < (0 : Int32) then (if (σ 15 5) = (0 : Int32) then (bnd (f_Mod_instruct σ) fun r3 => r3) else σ) else (bnd (up2 σ 15 17 ((σ 15 17) &&& (((1 : Int32) <<< (y0 &&& 31 : Int32)) ^^^ (-1 : Int32)))) fun s4 => bnd (up2 s4 15 18 ((s4 15 18) ||| ((1 : Int32) <<< (y0 &&& 31 : Int32)))) fun s5 => bnd (up2 s5 15 5 (0 : Int32)) fun s6 => bnd (f_Mod_interrupt s6 ((8 : Int32) + y0)) fun r7 => r7))
abbrev w_Mod_oneStep_36 : List (Nat × Option Nat) := [(15, some 3), (15, some 4), (15, some 5), (15, some 6), (15, some 7), (15, some 9), (15, some 10), (15, some 11), (15, some 12), (15, some 13), (15, some 14), (15, some 15), (15, some 16), (15, some 17), (15, some 18), (15, some 19), (15, some 20), (15, some 21), (15, some 22), (15, some 23), (15, some 24), (15, some 25), (15, some 26), (15, some 27), (15, some 28), (15, some 30), (15, some 31), (15, some 32), (15, some 33), (15, some 34), (15, some 35), (16, none), (17, none), (18, none), (19, none)]
theorem p_Mod_oneStep_36 {P : Sg → Prop} (hP : WP w_Mod_oneStep_36 P) {σ : Sg} {y0 : Int32} (h : P σ) : P (f_Mod_oneStep_36 σ y0) := by
  unfold f_Mod_oneStep_36
  refine ite_z (fun _ => ?_) (fun _ => ?_)
  · refine ite_z (fun _ => ?_) (fun _ => ?_)
    · refine bnd_zz (Z := P) (p_Mod_instruct (wsub hP rfl) h) fun r3 e3 q3 => ?_
      exact q3
    · exact h
  · refine bnd_zz (Z := P) (hP _ _ _ _ (Or.inr (by decide)) h) fun s4 e4 q4 => ?_
    refine bnd_zz (Z := P) (hP _ _ _ _ (Or.inr (by decide)) q4) fun s5 e5 q5 => ?_
    refine bnd_zz (Z := P) (hP _ _ _ _ (Or.inr (by decide)) q5) fun s6 e6 q6 => ?_
    refine bnd_zz (Z := P) (p_Mod_interrupt (wsub hP rfl) q6) fun r7 e7 q7 => ?_
    exact q7
set_option maxRecDepth 100000 in
set_option maxHeartbeats 4000000 in
theorem b_Mod_oneStep_36 {l : Launch} {ad : Nat → Nat} {D : va_G} {cI : ClassId} {K : Option Value → Sg → Prop} {X : Nat → List Value → List Value → Sg → Prop} (hX : Cl l ad D cI mi_Mod_oneStep pt_Mod K X) {σ : Sg} {y0 : Int32}  (KY0 : KY σ) (MB0 : MB σ) (hK : KV K (f_Mod_oneStep_36 σ y0)) : X 36 [.ref 15, .null, .null] [.int y0] σ := by
  unfold f_Mod_oneStep_36 at hK
  refine hX.1 83 I_Mod_oneStep_36 ok_Mod_oneStep_36 _ _ _ ?_
  refine And.intro (fun h1 => ?_) (fun h1 => ?_)
  · have hK := ite_p hK h1
    refine hX.1 94 I_Mod_oneStep_83 ok_Mod_oneStep_83 _ _ _ ?_
    refine And.intro (fun h2 => ?_) (fun h2 => ?_)
    · have hK := ite_p hK h2
      refine s_Mod_instruct KY0 MB0 (bnd_g hK fun r3 e3 hK => ?_)
      refine hX.1 95 I_Mod_oneStep_94 ok_Mod_oneStep_94 _ _ _ ?_
      exact hK
    · have hK := ite_n hK h2
      refine hX.1 95 I_Mod_oneStep_94 ok_Mod_oneStep_94 _ _ _ ?_
      exact hK
  · have hK := ite_n hK h1
    refine And.intro trivial (SG_g hK fun s4 e4 hK => ?_)
    refine And.intro trivial (SG_g hK fun s5 e5 hK => ?_)
    refine And.intro (Or.inl rfl) (SG_g hK fun s6 e6 hK => ?_)
    refine s_Mod_interrupt (bnd_g hK fun r7 e7 hK => ?_)
    refine hX.1 95 I_Mod_oneStep_94 ok_Mod_oneStep_94 _ _ _ ?_
    exact hK
def f_Mod_oneStep_35 (σ : Sg)  : Sg := (f_Mod_oneStep_36 σ (-1 : Int32))
abbrev w_Mod_oneStep_35 : List (Nat × Option Nat) := [(15, some 3), (15, some 4), (15, some 5), (15, some 6), (15, some 7), (15, some 9), (15, some 10), (15, some 11), (15, some 12), (15, some 13), (15, some 14), (15, some 15), (15, some 16), (15, some 17), (15, some 18), (15, some 19), (15, some 20), (15, some 21), (15, some 22), (15, some 23), (15, some 24), (15, some 25), (15, some 26), (15, some 27), (15, some 28), (15, some 30), (15, some 31), (15, some 32), (15, some 33), (15, some 34), (15, some 35), (16, none), (17, none), (18, none), (19, none)]
theorem p_Mod_oneStep_35 {P : Sg → Prop} (hP : WP w_Mod_oneStep_35 P) {σ : Sg}  (h : P σ) : P (f_Mod_oneStep_35 σ ) := by
  unfold f_Mod_oneStep_35
  exact p_Mod_oneStep_36 (wsub hP rfl) h
set_option maxRecDepth 100000 in
set_option maxHeartbeats 4000000 in
theorem b_Mod_oneStep_35 {l : Launch} {ad : Nat → Nat} {D : va_G} {cI : ClassId} {K : Option Value → Sg → Prop} {X : Nat → List Value → List Value → Sg → Prop} (hX : Cl l ad D cI mi_Mod_oneStep pt_Mod K X) {σ : Sg}   (KY0 : KY σ) (MB0 : MB σ) (hK : KV K (f_Mod_oneStep_35 σ )) : X 35 [.ref 15, .null, .null] [] σ := by
  unfold f_Mod_oneStep_35 at hK
  refine hX.1 36 I_Mod_oneStep_35 ok_Mod_oneStep_35 _ _ _ ?_
  exact b_Mod_oneStep_36 hX KY0 MB0 hK
def f_Mod_oneStep (σ : Sg)  : Sg := (bnd (f_Mod_tickTimer σ) fun r1 => bnd (up2 r1 15 6 (0 : Int32)) fun s2 => bnd (f_Mod_is s2 (512 : Int32)) fun r3 => (if r3.1 = (0 : Int32) then (f_Mod_oneStep_35 r3.2) else (if (r1 15 6) = (0 : Int32) then (bnd (f_Mod_given r3.2) fun r6 => (f_Mod_oneStep_36 r6.2 r6.1)) else (f_Mod_oneStep_35 r3.2))))
abbrev w_Mod_oneStep : List (Nat × Option Nat) := [(15, some 3), (15, some 4), (15, some 5), (15, some 6), (15, some 7), (15, some 9), (15, some 10), (15, some 11), (15, some 12), (15, some 13), (15, some 14), (15, some 15), (15, some 16), (15, some 17), (15, some 18), (15, some 19), (15, some 20), (15, some 21), (15, some 22), (15, some 23), (15, some 24), (15, some 25), (15, some 26), (15, some 27), (15, some 28), (15, some 30), (15, some 31), (15, some 32), (15, some 33), (15, some 34), (15, some 35), (16, none), (17, none), (18, none), (19, none)]
theorem p_Mod_oneStep {P : Sg → Prop} (hP : WP w_Mod_oneStep P) {σ : Sg}  (h : P σ) : P (f_Mod_oneStep σ ) := by
  unfold f_Mod_oneStep
  refine bnd_zz (Z := P) (p_Mod_tickTimer (wsub hP rfl) h) fun r1 e1 q1 => ?_
  refine bnd_zz (Z := P) (hP _ _ _ _ (Or.inr (by decide)) q1) fun s2 e2 q2 => ?_
  refine bnd_zz (Z := PP P) (p_Mod_is (wsub hP rfl) q2) fun r3 e3 q3 => ?_
  refine ite_z (fun _ => ?_) (fun _ => ?_)
  · exact p_Mod_oneStep_35 (wsub hP rfl) q3
  · refine ite_z (fun _ => ?_) (fun _ => ?_)
    · refine bnd_zz (Z := PP P) (p_Mod_given (wsub hP rfl) q3) fun r6 e6 q6 => ?_
      exact p_Mod_oneStep_36 (wsub hP rfl) q6
    · exact p_Mod_oneStep_35 (wsub hP rfl) q3
set_option maxRecDepth 100000 in
set_option maxHeartbeats 4000000 in
theorem s_Mod_oneStep {l : Launch} {ad : Nat → Nat} {D : va_G} {cI : ClassId} {σ : Sg}  {K : Option Value → Sg → Prop}  (KY0 : KY σ) (MB0 : MB σ) (hK : KV K (f_Mod_oneStep σ )) : MetJ l ad D cI mi_Mod_oneStep [.ref 15] σ K := by
  refine met_of mi_Mod_oneStep pt_Mod pt_Mod_in rfl pl_Mod rfl (Nat.le_of_ble_eq_true rfl) fun X hX => ?_
  have hX : Cl l ad D cI mi_Mod_oneStep pt_Mod K X := hX
  show X 0 [.ref 15, .null, .null] [] σ
  unfold f_Mod_oneStep at hK
  refine hX.1 35 I_Mod_oneStep_0 ok_Mod_oneStep_0 _ _ _ ?_
  refine s_Mod_tickTimer (bnd_g hK fun r1 e1 hK => ?_)
  have MB1 : MB r1 := by rw [← e1]; exact p_Mod_tickTimer (P := MB) (MBw rfl) MB0
  have KY1 : KY r1 := by rw [← e1]; exact p_Mod_tickTimer (P := KY) (KYw rfl) KY0
  refine And.intro (Or.inl rfl) (SG_g hK fun s2 e2 hK => ?_)
  have MB2 : MB s2 := by rw [← e2]; exact MBw (W := [(15, some 6)]) rfl _ _ _ _ (Or.inr (by decide)) MB1
  have KY2 : KY s2 := by rw [← e2]; exact KYw (W := [(15, some 6)]) rfl _ _ _ _ (Or.inr (by decide)) KY1
  refine s_Mod_is (bnd_g hK fun r3 e3 hK => ?_)
  have MB3 : MB r3.2 := by rw [← e3]; exact p_Mod_is (P := MB) (MBw rfl) MB2
  have KY3 : KY r3.2 := by rw [← e3]; exact p_Mod_is (P := KY) (KYw rfl) KY2
  have z3 : r3.1 = 0 ∨ r3.1 = 1 := by rw [← e3]; exact z_Mod_is
  refine And.intro (fun h4 => ?_) (fun h4 => ?_)
  · have hK := ite_p hK h4
    refine hX.fg [1] ?_
    exact b_Mod_oneStep_35 hX KY3 MB3 hK
  · have hK := ite_n hK h4
    refine And.intro (fun h5 => ?_) (fun h5 => ?_)
    · have hK := ite_p hK h5
      refine s_Mod_given (bnd_g hK fun r6 e6 hK => ?_)
      have MB6 : MB r6.2 := by rw [← e6]; exact p_Mod_given (P := MB) (MBw rfl) MB3
      have KY6 : KY r6.2 := by rw [← e6]; exact p_Mod_given (P := KY) (KYw rfl) KY3
      refine hX.fg [1] ?_
      exact b_Mod_oneStep_36 hX KY6 MB6 hK
    · have hK := ite_n hK h5
      refine hX.fg [1] ?_
      exact b_Mod_oneStep_35 hX KY3 MB3 hK
def I_Mod_poke_0 : List IT := [(0, .iload_n 1, 1, 0, 0, []), (1, .iconst 0, 1, 0, 0, []), (2, .sipush 1023, 3, 1023, 0, []), (5, .invokestatic 100, 3, 0, 0, []), (8, .ifCond .eq 14, 3, 0, 22, []), (11, .iload_n 2, 1, 0, 0, []), (12, .iconst 0, 1, 0, 0, []), (13, .sipush 255, 3, 255, 0, []), (16, .invokestatic 100, 3, 0, 0, []), (19, .ifCond .ne 5, 3, 0, 24, [])]
theorem ok_Mod_poke_0 : blkOK b_Mod_poke pt_Mod 22 I_Mod_poke_0 = true := by decide +kernel
def I_Mod_poke_22 : List IT := [(22, .iconst 0, 1, 0, 0, []), (23, .ireturn, 1, 0, 0, [])]
theorem ok_Mod_poke_22 : blkOK b_Mod_poke pt_Mod 24 I_Mod_poke_22 = true := by decide +kernel
def I_Mod_poke_24 : List IT := [(24, .aload_n 0, 1, 0, 0, []), (25, .getfield 7, 3, 0, 0, []), (28, .iload_n 1, 1, 0, 0, []), (29, .iload_n 2, 1, 0, 0, []), (30, .iastore, 1, 0, 0, []), (31, .iconst 1, 1, 1, 0, []), (32, .ireturn, 1, 0, 0, [])]
theorem ok_Mod_poke_24 : blkOK b_Mod_poke pt_Mod 33 I_Mod_poke_24 = true := by decide +kernel
def f_Mod_poke (σ : Sg) (a1 : Int32) (a2 : Int32) : Int32 × Sg := (bnd (f_Mod_in σ a1 (0 : Int32) (1023 : Int32)) fun r1 => (if r1.1 = (0 : Int32) then ((0 : Int32), r1.2) else (bnd (f_Mod_in r1.2 a2 (0 : Int32) (255 : Int32)) fun r3 => (if r3.1 = (0 : Int32) then ((0 : Int32), r3.2) else (bnd (up2 r3.2 16 (Int32.toNatClampNeg a1) a2) fun s5 => ((1 : Int32), s5))))))
theorem z_Mod_poke {σ : Sg} {a1 : Int32} {a2 : Int32}   : (f_Mod_poke σ a1 a2).1 = 0 ∨ (f_Mod_poke σ a1 a2).1 = 1 := by
  show Zb (f_Mod_poke σ a1 a2)
  unfold f_Mod_poke
  refine bnd_zz (Z := Zb) (z_Mod_in) fun r1 e1 z1 => ?_
  refine ite_z (fun h2 => ?_) (fun h2 => ?_)
  · exact (Or.inl rfl)
  · refine bnd_zz (Z := Zb) (z_Mod_in) fun r3 e3 z3 => ?_
    refine ite_z (fun h4 => ?_) (fun h4 => ?_)
    · exact (Or.inl rfl)
    · refine bnd_z fun s5 e5 => ?_
      exact (Or.inr rfl)
abbrev w_Mod_poke : List (Nat × Option Nat) := [(16, none)]
theorem p_Mod_poke {P : Sg → Prop} (hP : WP w_Mod_poke P) {σ : Sg} {a1 : Int32} {a2 : Int32} (h : P σ) : PP P (f_Mod_poke σ a1 a2) := by
  unfold f_Mod_poke
  refine bnd_zz (Z := PP P) (p_Mod_in (wsub hP rfl) h) fun r1 e1 q1 => ?_
  refine ite_z (fun _ => ?_) (fun _ => ?_)
  · exact q1
  · refine bnd_zz (Z := PP P) (p_Mod_in (wsub hP rfl) q1) fun r3 e3 q3 => ?_
    refine ite_z (fun _ => ?_) (fun _ => ?_)
    · exact q3
    · refine bnd_zz (Z := P) (hP _ _ _ _ (Or.inl (by decide)) q3) fun s5 e5 q5 => ?_
      exact q5
set_option maxRecDepth 100000 in
set_option maxHeartbeats 4000000 in
theorem s_Mod_poke {l : Launch} {ad : Nat → Nat} {D : va_G} {cI : ClassId} {σ : Sg} {a1 : Int32} {a2 : Int32} {K : Option Value → Sg → Prop}   (hK : KI K (f_Mod_poke σ a1 a2)) : MetJ l ad D cI mi_Mod_poke [.ref 15, .int a1, .int a2] σ K := by
  refine met_of mi_Mod_poke pt_Mod pt_Mod_in rfl pl_Mod rfl (Nat.le_of_ble_eq_true rfl) fun X hX => ?_
  have hX : Cl l ad D cI mi_Mod_poke pt_Mod K X := hX
  show X 0 [.ref 15, .int a1, .int a2] [] σ
  unfold f_Mod_poke at hK
  refine hX.1 22 I_Mod_poke_0 ok_Mod_poke_0 _ _ _ ?_
  refine s_Mod_in (bnd_g hK fun r1 e1 hK => ?_)
  have z1 : r1.1 = 0 ∨ r1.1 = 1 := by rw [← e1]; exact z_Mod_in
  refine And.intro (fun h2 => ?_) (fun h2 => ?_)
  · have hK := ite_p hK h2
    refine hX.1 24 I_Mod_poke_22 ok_Mod_poke_22 _ _ _ ?_
    exact And.intro (Or.inl rfl) hK
  · have hK := ite_n hK h2
    refine s_Mod_in (bnd_g hK fun r3 e3 hK => ?_)
    have z3 : r3.1 = 0 ∨ r3.1 = 1 := by rw [← e3]; exact z_Mod_in
    refine And.intro (fun h4 => ?_) (fun h4 => ?_)
    · have hK := ite_p hK h4
      refine hX.1 24 I_Mod_poke_22 ok_Mod_poke_22 _ _ _ ?_
      exact And.intro (Or.inl rfl) hK
    · have hK := ite_n hK h4
      refine hX.1 33 I_Mod_poke_24 ok_Mod_poke_24 _ _ _ ?_
      refine And.intro (by subst_vars; exact in_1024 (by assumption)) (SG_g hK fun s5 e5 hK => ?_)
      exact And.intro (Or.inr rfl) hK
