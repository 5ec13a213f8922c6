def I_Mod_give_0 : List IT := [(0, .iload_n 1, 1, 0, 0, []), (1, .bipush 32, 2, 32, 0, []), (3, .if_icmp .ne 8, 3, 0, 11, []), (6, .aload_n 0, 1, 0, 0, []), (7, .iload_n 2, 1, 0, 0, []), (8, .invokevirtual 292, 3, 0, 0, [])]
theorem ok_Mod_give_0 : blkOK b_Mod_give pt_Mod 11 I_Mod_give_0 = true := by decide +kernel
def I_Mod_give_11 : List IT := [(11, .iload_n 1, 1, 0, 0, []), (12, .bipush 33, 2, 33, 0, []), (14, .if_icmp .ne 8, 3, 0, 22, []), (17, .aload_n 0, 1, 0, 0, []), (18, .iload_n 2, 1, 0, 0, []), (19, .putfield 29, 3, 0, 0, [])]
theorem ok_Mod_give_11 : blkOK b_Mod_give pt_Mod 22 I_Mod_give_11 = true := by decide +kernel
def I_Mod_give_22 : List IT := [(22, .iload_n 1, 1, 0, 0, []), (23, .bipush 64, 2, 64, 0, []), (25, .if_icmp .ne 8, 3, 0, 33, []), (28, .aload_n 0, 1, 0, 0, []), (29, .iload_n 2, 1, 0, 0, []), (30, .invokevirtual 295, 3, 0, 0, [])]
theorem ok_Mod_give_22 : blkOK b_Mod_give pt_Mod 33 I_Mod_give_22 = true := by decide +kernel
def I_Mod_give_33 : List IT := [(33, .iload_n 1, 1, 0, 0, []), (34, .iconst 2, 1, 2, 0, []), (35, .if_icmp .eq 8, 3, 0, 43, []), (38, .iload_n 1, 1, 0, 0, []), (39, .iconst 3, 1, 3, 0, []), (40, .if_icmp .ne 9, 3, 0, 49, [])]
theorem ok_Mod_give_33 : blkOK b_Mod_give pt_Mod 43 I_Mod_give_33 = true := by decide +kernel
def I_Mod_give_43 : List IT := [(43, .aload_n 0, 1, 0, 0, []), (44, .iload_n 1, 1, 0, 0, []), (45, .iload_n 2, 1, 0, 0, []), (46, .invokevirtual 298, 3, 0, 0, [])]
theorem ok_Mod_give_43 : blkOK b_Mod_give pt_Mod 49 I_Mod_give_43 = true := by decide +kernel
def I_Mod_give_49 : List IT := [(49, .iload_n 1, 1, 0, 0, []), (50, .bipush 12, 2, 12, 0, []), (52, .if_icmp .ne 8, 3, 0, 60, []), (55, .aload_n 0, 1, 0, 0, []), (56, .iconst 0, 1, 0, 0, []), (57, .putfield 283, 3, 0, 0, [])]
theorem ok_Mod_give_49 : blkOK b_Mod_give pt_Mod 60 I_Mod_give_49 = true := by decide +kernel
def I_Mod_give_60 : List IT := [(60, .iload_n 1, 1, 0, 0, []), (61, .sipush 131, 3, 131, 0, []), (64, .if_icmp .ne 10, 3, 0, 74, []), (67, .aload_n 0, 1, 0, 0, []), (68, .iload_n 2, 1, 0, 0, []), (69, .iconst 3, 1, 3, 0, []), (70, .iand, 1, 0, 0, []), (71, .putfield 301, 3, 0, 0, [])]
theorem ok_Mod_give_60 : blkOK b_Mod_give pt_Mod 74 I_Mod_give_60 = true := by decide +kernel
def I_Mod_give_74 : List IT := [(74, .iload_n 1, 1, 0, 0, []), (75, .bipush 10, 2, 10, 0, []), (77, .if_icmp .ne 18, 3, 0, 95, []), (80, .aload_n 0, 1, 0, 0, []), (81, .iload_n 2, 1, 0, 0, []), (82, .iconst 4, 1, 4, 0, []), (83, .iand, 1, 0, 0, []), (84, .ifCond .ne 7, 3, 0, 91, []), (87, .iconst 1, 1, 1, 0, []), (88, .goto 4, 3, 0, 92, [])]
theorem ok_Mod_give_74 : blkOK b_Mod_give pt_Mod 91 I_Mod_give_74 = true := by decide +kernel
def I_Mod_give_91 : List IT := [(91, .iconst 0, 1, 0, 0, [])]
theorem ok_Mod_give_91 : blkOK b_Mod_give pt_Mod 92 I_Mod_give_91 = true := by decide +kernel
def I_Mod_give_92 : List IT := [(92, .putfield 304, 3, 0, 0, [])]
theorem ok_Mod_give_92 : blkOK b_Mod_give pt_Mod 95 I_Mod_give_92 = true := by decide +kernel
def I_Mod_give_95 : List IT := [(95, .return_, 1, 0, 0, [])]
theorem ok_Mod_give_95 : blkOK b_Mod_give pt_Mod 96 I_Mod_give_95 = true := by decide +kernel
def f_Mod_give_74 (σ : Sg) (x1 : Int32) (x2 : Int32) : Sg := (if x1 = (10 : Int32) then (if (x2 &&& (4 : Int32)) = (0 : Int32) then (bnd (up2 σ 15 34 (1 : Int32)) fun s3 => s3) else (bnd (up2 σ 15 34 (0 : Int32)) fun s4 => s4)) else σ)
abbrev w_Mod_give_74 : List (Nat × Option Nat) := [(15, some 34)]
theorem p_Mod_give_74 {P : Sg → Prop} (hP : WP w_Mod_give_74 P) {σ : Sg} {x1 : Int32} {x2 : Int32} (h : P σ) : P (f_Mod_give_74 σ x1 x2) := by
  unfold f_Mod_give_74
  refine ite_z (fun _ => ?_) (fun _ => ?_)
  · refine ite_z (fun _ => ?_) (fun _ => ?_)
    · refine bnd_zz (Z := P) (hP _ _ _ _ (Or.inr (by decide)) h) fun s3 e3 q3 => ?_
      exact q3
    · refine bnd_zz (Z := P) (hP _ _ _ _ (Or.inr (by decide)) h) fun s4 e4 q4 => ?_
      exact q4
  · exact h
set_option maxRecDepth 100000 in
set_option maxHeartbeats 4000000 in
theorem b_Mod_give_74 {l : Launch} {ad : Nat → Nat} {D : va_G} {cI : ClassId} {K : Option Value → Sg → Prop} {X : Nat → List Value → List Value → Sg → Prop} (hX : Cl l ad D cI mi_Mod_give pt_Mod K X) {σ : Sg} {x1 : Int32} {x2 : Int32}   (hK : KV K (f_Mod_give_74 σ x1 x2)) : X 74 [.ref 15, .int x1, .int x2] [] σ := by
  unfold f_Mod_give_74 at hK
  refine hX.1 91 I_Mod_give_74 ok_Mod_give_74 _ _ _ ?_
  refine And.intro (fun h1 => ?_) (fun h1 => ?_)
  · have hK := ite_p hK h1
    refine And.intro (fun h2 => ?_) (fun h2 => ?_)
    · have hK := ite_p hK h2
      refine hX.1 95 I_Mod_give_92 ok_Mod_give_92 _ _ _ ?_
      refine And.intro (Or.inr rfl) (SG_g hK fun s3 e3 hK => ?_)
      refine hX.1 96 I_Mod_give_95 ok_Mod_give_95 _ _ _ ?_
      exact hK
    · have hK := ite_n hK h2
      refine hX.1 92 I_Mod_give_91 ok_Mod_give_91 _ _ _ ?_
      refine hX.1 95 I_Mod_give_92 ok_Mod_give_92 _ _ _ ?_
      refine And.intro (Or.inl rfl) (SG_g hK fun s4 e4 hK => ?_)
      refine hX.1 96 I_Mod_give_95 ok_Mod_give_95 _ _ _ ?_
      exact hK
  · have hK := ite_n hK h1
    refine hX.1 96 I_Mod_give_95 ok_Mod_give_95 _ _ _ ?_
    exact hK
def f_Mod_give_60 (σ : Sg) (x1 : Int32) (x2 : Int32) : Sg := (if x1 = (131 : Int32) then (bnd (up2 σ 15 32 (x2 &&& (3 : Int32))) fun s2 => (f_Mod_give_74 s2 x1 x2)) else (f_Mod_give_74 σ x1 x2))
abbrev w_Mod_give_60 : List (Nat × Option Nat) := [(15, some 32), (15, some 34)]
theorem p_Mod_give_60 {P : Sg → Prop} (hP : WP w_Mod_give_60 P) {σ : Sg} {x1 : Int32} {x2 : Int32} (h : P σ) : P (f_Mod_give_60 σ x1 x2) := by
  unfold f_Mod_give_60
  refine ite_z (fun _ => ?_) (fun _ => ?_)
  · refine bnd_zz (Z := P) (hP _ _ _ _ (Or.inr (by decide)) h) fun s2 e2 q2 => ?_
    exact p_Mod_give_74 (wsub hP rfl) q2
  · exact p_Mod_give_74 (wsub hP rfl) h
set_option maxRecDepth 100000 in
set_option maxHeartbeats 4000000 in
theorem b_Mod_give_60 {l : Launch} {ad : Nat → Nat} {D : va_G} {cI : ClassId} {K : Option Value → Sg → Prop} {X : Nat → List Value → List Value → Sg → Prop} (hX : Cl l ad D cI mi_Mod_give pt_Mod K X) {σ : Sg} {x1 : Int32} {x2 : Int32}   (hK : KV K (f_Mod_give_60 σ x1 x2)) : X 60 [.ref 15, .int x1, .int x2] [] σ := by
  unfold f_Mod_give_60 at hK
  refine hX.1 74 I_Mod_give_60 ok_Mod_give_60 _ _ _ ?_
  refine And.intro (fun h1 => ?_) (fun h1 => ?_)
  · have hK := ite_p hK h1
    refine And.intro trivial (SG_g hK fun s2 e2 hK => ?_)
    exact b_Mod_give_74 hX  hK
  · have hK := ite_n hK h1
    exact b_Mod_give_74 hX  hK
def f_Mod_give_49 (σ : Sg) (x1 : Int32) (x2 : Int32) : Sg := (if x1 = (12 : Int32) then (bnd (up2 σ 15 33 (0 : Int32)) fun s2 => (f_Mod_give_60 s2 x1 x2)) else (f_Mod_give_60 σ x1 x2))
abbrev w_Mod_give_49 : List (Nat × Option Nat) := [(15, some 32), (15, some 33), (15, some 34)]
theorem p_Mod_give_49 {P : Sg → Prop} (hP : WP w_Mod_give_49 P) {σ : Sg} {x1 : Int32} {x2 : Int32} (h : P σ) : P (f_Mod_give_49 σ x1 x2) := by
  unfold f_Mod_give_49
  refine ite_z (fun _ => ?_) (fun _ => ?_)
  · refine bnd_zz (Z := P) (hP _ _ _ _ (Or.inr (by decide)) h) fun s2 e2 q2 => ?_
    exact p_Mod_give_60 (wsub hP rfl) q2
  · exact p_Mod_give_60 (wsub hP rfl) h
set_option maxRecDepth 100000 in
set_option maxHeartbeats 4000000 in
theorem b_Mod_give_49 {l : Launch} {ad : Nat → Nat} {D : va_G} {cI : ClassId} {K : Option Value → Sg → Prop} {X : Nat → List Value → List Value → Sg → Prop} (hX : Cl l ad D cI mi_Mod_give pt_Mod K X) {σ : Sg} {x1 : Int32} {x2 : Int32}   (hK : KV K (f_Mod_give_49 σ x1 x2)) : X 49 [.ref 15, .int x1, .int x2] [] σ := by
  unfold f_Mod_give_49 at hK
  refine hX.1 60 I_Mod_give_49 ok_Mod_give_49 _ _ _ ?_
  refine And.intro (fun h1 => ?_) (fun h1 => ?_)
  · have hK := ite_p hK h1
    refine And.intro (Or.inl rfl) (SG_g hK fun s2 e2 hK => ?_)
    exact b_Mod_give_60 hX  hK
  · have hK := ite_n hK h1
    exact b_Mod_give_60 hX  hK
def f_Mod_give_43 (σ : Sg) (x1 : Int32) (x2 : Int32) : Sg := (bnd (f_Mod_giveChannel σ x1 x2) fun r1 => (f_Mod_give_49 r1 x1 x2))
abbrev w_Mod_give_43 : List (Nat × Option Nat) := [(15, some 30), (15, some 31), (15, some 32), (15, some 33), (15, some 34)]
theorem p_Mod_give_43 {P : Sg → Prop} (hP : WP w_Mod_give_43 P) {σ : Sg} {x1 : Int32} {x2 : Int32} (h : P σ) : P (f_Mod_give_43 σ x1 x2) := by
  unfold f_Mod_give_43
  refine bnd_zz (Z := P) (p_Mod_giveChannel (wsub hP rfl) h) fun r1 e1 q1 => ?_
  exact p_Mod_give_49 (wsub hP rfl) q1
set_option maxRecDepth 100000 in
set_option maxHeartbeats 4000000 in
theorem b_Mod_give_43 {l : Launch} {ad : Nat → Nat} {D : va_G} {cI : ClassId} {K : Option Value → Sg → Prop} {X : Nat → List Value → List Value → Sg → Prop} (hX : Cl l ad D cI mi_Mod_give pt_Mod K X) {σ : Sg} {x1 : Int32} {x2 : Int32}   (hK : KV K (f_Mod_give_43 σ x1 x2)) : X 43 [.ref 15, .int x1, .int x2] [] σ := by
  unfold f_Mod_give_43 at hK
  refine hX.1 49 I_Mod_give_43 ok_Mod_give_43 _ _ _ ?_
  refine s_Mod_giveChannel (bnd_g hK fun r1 e1 hK => ?_)
  exact b_Mod_give_49 hX  hK
def f_Mod_give_33 (σ : Sg) (x1 : Int32) (x2 : Int32) : Sg := (if x1 = (2 : Int32) then (f_Mod_give_43 σ x1 x2) else (if x1 = (3 : Int32) then (f_Mod_give_43 σ x1 x2) else (f_Mod_give_49 σ x1 x2)))
abbrev w_Mod_give_33 : List (Nat × Option Nat) := [(15, some 30), (15, some 31), (15, some 32), (15, some 33), (15, some 34)]
theorem p_Mod_give_33 {P : Sg → Prop} (hP : WP w_Mod_give_33 P) {σ : Sg} {x1 : Int32} {x2 : Int32} (h : P σ) : P (f_Mod_give_33 σ x1 x2) := by
  unfold f_Mod_give_33
  refine ite_z (fun _ => ?_) (fun _ => ?_)
  · exact p_Mod_give_43 (wsub hP rfl) h
  · refine ite_z (fun _ => ?_) (fun _ => ?_)
    · exact p_Mod_give_43 (wsub hP rfl) h
    · exact p_Mod_give_49 (wsub hP rfl) h
set_option maxRecDepth 100000 in
set_option maxHeartbeats 4000000 in
theorem b_Mod_give_33 {l : Launch} {ad : Nat → Nat} {D : va_G} {cI : ClassId} {K : Option Value → Sg → Prop} {X : Nat → List Value → List Value → Sg → Prop} (hX : Cl l ad D cI mi_Mod_give pt_Mod K X) {σ : Sg} {x1 : Int32} {x2 : Int32}   (hK : KV K (f_Mod_give_33 σ x1 x2)) : X 33 [.ref 15, .int x1, .int x2] [] σ := by
  unfold f_Mod_give_33 at hK
  refine hX.1 43 I_Mod_give_33 ok_Mod_give_33 _ _ _ ?_
  refine And.intro (fun h1 => ?_) (fun h1 => ?_)
  · have hK := ite_p hK h1
    exact b_Mod_give_43 hX  hK
  · have hK := ite_n hK h1
    refine And.intro (fun h2 => ?_) (fun h2 => ?_)
    · have hK := ite_p hK h2
      exact b_Mod_give_43 hX  hK
    · have hK := ite_n hK h2
      exact b_Mod_give_49 hX  hK
def f_Mod_give_22 (σ : Sg) (x1 : Int32) (x2 : Int32) : Sg := (if x1 = (64 : Int32) then (bnd (f_Mod_giveTimer σ x2) fun r2 => (f_Mod_give_33 r2 x1 x2)) else (f_Mod_give_33 σ x1 x2))
abbrev w_Mod_give_22 : List (Nat × Option Nat) := [(15, some 21), (15, some 22), (15, some 23), (15, some 24), (15, some 25), (15, some 30), (15, some 31), (15, some 32), (15, some 33), (15, some 34)]
theorem p_Mod_give_22 {P : Sg → Prop} (hP : WP w_Mod_give_22 P) {σ : Sg} {x1 : Int32} {x2 : Int32} (h : P σ) : P (f_Mod_give_22 σ x1 x2) := by
  unfold f_Mod_give_22
  refine ite_z (fun _ => ?_) (fun _ => ?_)
  · refine bnd_zz (Z := P) (p_Mod_giveTimer (wsub hP rfl) h) fun r2 e2 q2 => ?_
    exact p_Mod_give_33 (wsub hP rfl) q2
  · exact p_Mod_give_33 (wsub hP rfl) h
set_option maxRecDepth 100000 in
set_option maxHeartbeats 4000000 in
theorem b_Mod_give_22 {l : Launch} {ad : Nat → Nat} {D : va_G} {cI : ClassId} {K : Option Value → Sg → Prop} {X : Nat → List Value → List Value → Sg → Prop} (hX : Cl l ad D cI mi_Mod_give pt_Mod K X) {σ : Sg} {x1 : Int32} {x2 : Int32}   (hK : KV K (f_Mod_give_22 σ x1 x2)) : X 22 [.ref 15, .int x1, .int x2] [] σ := by
  unfold f_Mod_give_22 at hK
  refine hX.1 33 I_Mod_give_22 ok_Mod_give_22 _ _ _ ?_
  refine And.intro (fun h1 => ?_) (fun h1 => ?_)
  · have hK := ite_p hK h1
    refine s_Mod_giveTimer (bnd_g hK fun r2 e2 hK => ?_)
    exact b_Mod_give_33 hX  hK
  · have hK := ite_n hK h1
    exact b_Mod_give_33 hX  hK
def f_Mod_give_11 (σ : Sg) (x1 : Int32) (x2 : Int32) : Sg := (if x1 = (33 : Int32) then (bnd (up2 σ 15 19 x2) fun s2 => (f_Mod_give_22 s2 x1 x2)) else (f_Mod_give_22 σ x1 x2))
abbrev w_Mod_give_11 : List (Nat × Option Nat) := [(15, some 19), (15, some 21), (15, some 22), (15, some 23), (15, some 24), (15, some 25), (15, some 30), (15, some 31), (15, some 32), (15, some 33), (15, some 34)]
theorem p_Mod_give_11 {P : Sg → Prop} (hP : WP w_Mod_give_11 P) {σ : Sg} {x1 : Int32} {x2 : Int32} (h : P σ) : P (f_Mod_give_11 σ x1 x2) := by
  unfold f_Mod_give_11
  refine ite_z (fun _ => ?_) (fun _ => ?_)
  · refine bnd_zz (Z := P) (hP _ _ _ _ (Or.inr (by decide)) h) fun s2 e2 q2 => ?_
    exact p_Mod_give_22 (wsub hP rfl) q2
  · exact p_Mod_give_22 (wsub hP rfl) h
set_option maxRecDepth 100000 in
set_option maxHeartbeats 4000000 in
theorem b_Mod_give_11 {l : Launch} {ad : Nat → Nat} {D : va_G} {cI : ClassId} {K : Option Value → Sg → Prop} {X : Nat → List Value → List Value → Sg → Prop} (hX : Cl l ad D cI mi_Mod_give pt_Mod K X) {σ : Sg} {x1 : Int32} {x2 : Int32}   (hK : KV K (f_Mod_give_11 σ x1 x2)) : X 11 [.ref 15, .int x1, .int x2] [] σ := by
  unfold f_Mod_give_11 at hK
  refine hX.1 22 I_Mod_give_11 ok_Mod_give_11 _ _ _ ?_
  refine And.intro (fun h1 => ?_) (fun h1 => ?_)
  · have hK := ite_p hK h1
    refine And.intro trivial (SG_g hK fun s2 e2 hK => ?_)
    exact b_Mod_give_22 hX  hK
  · have hK := ite_n hK h1
    exact b_Mod_give_22 hX  hK
def f_Mod_give (σ : Sg) (a1 : Int32) (a2 : Int32) : Sg := (if a1 = (32 : Int32) then (bnd (f_Mod_giveController σ a2) fun r2 => (f_Mod_give_11 r2 a1 a2)) else (f_Mod_give_11 σ a1 a2))
abbrev w_Mod_give : List (Nat × Option Nat) := [(15, some 18), (15, some 19), (15, some 20), (15, some 21), (15, some 22), (15, some 23), (15, some 24), (15, some 25), (15, some 30), (15, some 31), (15, some 32), (15, some 33), (15, some 34)]
theorem p_Mod_give {P : Sg → Prop} (hP : WP w_Mod_give P) {σ : Sg} {a1 : Int32} {a2 : Int32} (h : P σ) : P (f_Mod_give σ a1 a2) := by
  unfold f_Mod_give
  refine ite_z (fun _ => ?_) (fun _ => ?_)
  · refine bnd_zz (Z := P) (p_Mod_giveController (wsub hP rfl) h) fun r2 e2 q2 => ?_
    exact p_Mod_give_11 (wsub hP rfl) q2
  · exact p_Mod_give_11 (wsub hP rfl) h
set_option maxRecDepth 100000 in
set_option maxHeartbeats 4000000 in
theorem s_Mod_give {l : Launch} {ad : Nat → Nat} {D : va_G} {cI : ClassId} {σ : Sg} {a1 : Int32} {a2 : Int32} {K : Option Value → Sg → Prop}   (hK : KV K (f_Mod_give σ a1 a2)) : MetJ l ad D cI mi_Mod_give [.ref 15, .int a1, .int a2] σ K := by
  refine met_of mi_Mod_give pt_Mod pt_Mod_in rfl pl_Mod rfl (Nat.le_of_ble_eq_true rfl) fun X hX => ?_
  have hX : Cl l ad D cI mi_Mod_give pt_Mod K X := hX
  show X 0 [.ref 15, .int a1, .int a2] [] σ
  unfold f_Mod_give at hK
  refine hX.1 11 I_Mod_give_0 ok_Mod_give_0 _ _ _ ?_
  refine And.intro (fun h1 => ?_) (fun h1 => ?_)
  · have hK := ite_p hK h1
    refine s_Mod_giveController (bnd_g hK fun r2 e2 hK => ?_)
    exact b_Mod_give_11 hX  hK
  · have hK := ite_n hK h1
    exact b_Mod_give_11 hX  hK
def I_Mod_others_0 : List IT := [(0, .iload_n 1, 1, 0, 0, []), (1, .sipush 205, 3, 205, 0, []), (4, .if_icmp .ne 16, 3, 0, 20, []), (7, .aload_n 0, 1, 0, 0, []), (8, .invokevirtual 50, 3, 0, 0, []), (11, .istore_n 2, 1, 0, 0, []), (12, .aload_n 0, 1, 0, 0, []), (13, .iload_n 2, 1, 0, 0, []), (14, .invokevirtual 170, 3, 0, 0, []), (17, .goto 173, 3, 0, 190, [])]
theorem ok_Mod_others_0 : blkOK b_Mod_others pt_Mod 20 I_Mod_others_0 = true := by decide +kernel
def I_Mod_others_20 : List IT := [(20, .iload_n 1, 1, 0, 0, []), (21, .sipush 207, 3, 207, 0, []), (24, .if_icmp .ne 36, 3, 0, 60, []), (27, .aload_n 0, 1, 0, 0, []), (28, .aload_n 0, 1, 0, 0, []), (29, .invokevirtual 196, 3, 0, 0, []), (32, .putfield 22, 3, 0, 0, []), (35, .aload_n 0, 1, 0, 0, []), (36, .getfield 16, 3, 0, 0, []), (39, .iconst 1, 1, 1, 0, []), (40, .aload_n 0, 1, 0, 0, []), (41, .invokevirtual 196, 3, 0, 0, []), (44, .iastore, 1, 0, 0, []), (45, .aload_n 0, 1, 0, 0, []), (46, .aload_n 0, 1, 0, 0, []), (47, .invokevirtual 196, 3, 0, 0, []), (50, .sipush 3777, 3, 3777, 0, []), (53, .iand, 1, 0, 0, []), (54, .putfield 92, 3, 0, 0, []), (57, .goto 133, 3, 0, 190, [])]
theorem ok_Mod_others_20 : blkOK b_Mod_others pt_Mod 60 I_Mod_others_20 = true := by decide +kernel
def I_Mod_others_60 : List IT := [(60, .iload_n 1, 1, 0, 0, []), (61, .sipush 228, 3, 228, 0, []), (64, .if_icmp .ne 22, 3, 0, 86, []), (67, .aload_n 0, 1, 0, 0, []), (68, .invokevirtual 50, 3, 0, 0, []), (71, .istore_n 2, 1, 0, 0, []), (72, .aload_n 0, 1, 0, 0, []), (73, .iconst 0, 1, 0, 0, []), (74, .aload_n 0, 1, 0, 0, []), (75, .iload_n 2, 1, 0, 0, []), (76, .invokevirtual 202, 3, 0, 0, []), (79, .iconst 0, 1, 0, 0, []), (80, .invokevirtual 84, 3, 0, 0, []), (83, .goto 107, 3, 0, 190, [])]
theorem ok_Mod_others_60 : blkOK b_Mod_others pt_Mod 86 I_Mod_others_60 = true := by decide +kernel
def I_Mod_others_86 : List IT := [(86, .iload_n 1, 1, 0, 0, []), (87, .sipush 230, 3, 230, 0, []), (90, .if_icmp .ne 26, 3, 0, 116, []), (93, .aload_n 0, 1, 0, 0, []), (94, .invokevirtual 50, 3, 0, 0, []), (97, .istore_n 2, 1, 0, 0, []), (98, .aload_n 0, 1, 0, 0, []), (99, .iload_n 2, 1, 0, 0, []), (100, .aload_n 0, 1, 0, 0, []), (101, .getfield 13, 3, 0, 0, []), (104, .iconst 0, 1, 0, 0, []), (105, .iaload, 1, 0, 0, []), (106, .sipush 255, 3, 255, 0, []), (109, .iand, 1, 0, 0, []), (110, .invokevirtual 206, 3, 0, 0, []), (113, .goto 77, 3, 0, 190, [])]
theorem ok_Mod_others_86 : blkOK b_Mod_others pt_Mod 116 I_Mod_others_86 = true := by decide +kernel
def I_Mod_others_116 : List IT := [(116, .iload_n 1, 1, 0, 0, []), (117, .sipush 244, 3, 244, 0, []), (120, .if_icmp .ne 11, 3, 0, 131, []), (123, .aload_n 0, 1, 0, 0, []), (124, .iconst 1, 1, 1, 0, []), (125, .putfield 210, 3, 0, 0, []), (128, .goto 62, 3, 0, 190, [])]
theorem ok_Mod_others_116 : blkOK b_Mod_others pt_Mod 131 I_Mod_others_116 = true := by decide +kernel
def I_Mod_others_131 : List IT := [(131, .aload_n 0, 1, 0, 0, []), (132, .iload_n 1, 1, 0, 0, []), (133, .sipush 250, 3, 250, 0, []), (136, .if_icmp .ge 7, 3, 0, 143, []), (139, .iconst 1, 1, 1, 0, []), (140, .goto 19, 3, 0, 159, [])]
theorem ok_Mod_others_131 : blkOK b_Mod_others pt_Mod 143 I_Mod_others_131 = true := by decide +kernel
def I_Mod_others_143 : List IT := [(143, .iload_n 1, 1, 0, 0, []), (144, .sipush 252, 3, 252, 0, []), (147, .if_icmp .ge 9, 3, 0, 156, []), (150, .sipush 512, 3, 512, 0, []), (153, .goto 6, 3, 0, 159, [])]
theorem ok_Mod_others_143 : blkOK b_Mod_others pt_Mod 156 I_Mod_others_143 = true := by decide +kernel
def I_Mod_others_156 : List IT := [(156, .sipush 1024, 3, 1024, 0, [])]
theorem ok_Mod_others_156 : blkOK b_Mod_others pt_Mod 159 I_Mod_others_156 = true := by decide +kernel
def I_Mod_others_159 : List IT := [(159, .iload_n 1, 1, 0, 0, []), (160, .iconst 1, 1, 1, 0, []), (161, .iand, 1, 0, 0, []), (162, .iconst 1, 1, 1, 0, []), (163, .if_icmp .ne 7, 3, 0, 170, []), (166, .iconst 1, 1, 1, 0, []), (167, .goto 4, 3, 0, 171, [])]
theorem ok_Mod_others_159 : blkOK b_Mod_others pt_Mod 170 I_Mod_others_159 = true := by decide +kernel
def I_Mod_others_170 : List IT := [(170, .iconst 0, 1, 0, 0, [])]
theorem ok_Mod_others_170 : blkOK b_Mod_others pt_Mod 171 I_Mod_others_170 = true := by decide +kernel
def I_Mod_others_171 : List IT := [(171, .invokevirtual 95, 3, 0, 0, []), (174, .aload_n 0, 1, 0, 0, []), (175, .iload_n 1, 1, 0, 0, []), (176, .sipush 251, 3, 251, 0, []), (179, .if_icmp .ne 7, 3, 0, 186, []), (182, .iconst 1, 1, 1, 0, []), (183, .goto 4, 3, 0, 187, [])]
theorem ok_Mod_others_171 : blkOK b_Mod_others pt_Mod 186 I_Mod_others_171 = true := by decide +kernel
def I_Mod_others_186 : List IT := [(186, .iconst 0, 1, 0, 0, [])]
theorem ok_Mod_others_186 : blkOK b_Mod_others pt_Mod 187 I_Mod_others_186 = true := by decide +kernel
def I_Mod_others_187 : List IT := [(187, .putfield 161, 3, 0, 0, [])]
theorem ok_Mod_others_187 : blkOK b_Mod_others pt_Mod 190 I_Mod_others_187 = true := by decide +kernel
def I_Mod_others_190 : List IT := [(190, .return_, 1, 0, 0, [])]
theorem ok_Mod_others_190 : blkOK b_Mod_others pt_Mod 191 I_Mod_others_190 = true := by decide +kernel
def f_Mod_others_171 (σ : Sg) (x1 : Int32) (y0 : Int32) (y1 : Int32) : Sg := (bnd (f_Mod_flag σ y1 y0) fun r1 => (if x1 = (251 : Int32) then (bnd (up2 r1 15 6 (1 : Int32)) fun s3 => s3) else (bnd (up2 r1 15 6 (0 : Int32)) fun s4 => s4)))
abbrev w_Mod_others_171 : List (Nat × Option Nat) := [(15, some 4), (15, some 6)]
theorem p_Mod_others_171 {P : Sg → Prop} (hP : WP w_Mod_others_171 P) {σ : Sg} {x1 : Int32} {y0 : Int32} {y1 : Int32} (h : P σ) : P (f_Mod_others_171 σ x1 y0 y1) := by
  unfold f_Mod_others_171
  refine bnd_zz (Z := P) (p_Mod_flag (wsub hP rfl) h) fun r1 e1 q1 => ?_
  refine ite_z (fun _ => ?_) (fun _ => ?_)
  · refine bnd_zz (Z := P) (hP _ _ _ _ (Or.inr (by decide)) q1) fun s3 e3 q3 => ?_
    exact q3
  · refine bnd_zz (Z := P) (hP _ _ _ _ (Or.inr (by decide)) q1) fun s4 e4 q4 => ?_
    exact q4
set_option maxRecDepth 100000 in
set_option maxHeartbeats 4000000 in
theorem b_Mod_others_171 {l : Launch} {ad : Nat → Nat} {D : va_G} {cI : ClassId} {K : Option Value → Sg → Prop} {X : Nat → List Value → List Value → Sg → Prop} (hX : Cl l ad D cI mi_Mod_others pt_Mod K X) {σ : Sg} {x1 : Int32} {y0 : Int32} {y1 : Int32} (z_y0 : y0 = 0 ∨ y0 = 1)  (hK : KV K (f_Mod_others_171 σ x1 y0 y1)) : X 171 [.ref 15, .int x1, .null] [.int y0, .int y1, .ref 15] σ := by
  unfold f_Mod_others_171 at hK
  refine hX.1 186 I_Mod_others_171 ok_Mod_others_171 _ _ _ ?_
  refine s_Mod_flag (bnd_g hK fun r1 e1 hK => ?_)
  refine And.intro (fun h2 => ?_) (fun h2 => ?_)
  · have hK := ite_p hK h2
    refine hX.1 190 I_Mod_others_187 ok_Mod_others_187 _ _ _ ?_
    refine And.intro (Or.inr rfl) (SG_g hK fun s3 e3 hK => ?_)
    refine hX.1 191 I_Mod_others_190 ok_Mod_others_190 _ _ _ ?_
    exact hK
  · have hK := ite_n hK h2
    refine hX.1 187 I_Mod_others_186 ok_Mod_others_186 _ _ _ ?_
    refine hX.1 190 I_Mod_others_187 ok_Mod_others_187 _ _ _ ?_
    refine And.intro (Or.inl rfl) (SG_g hK fun s4 e4 hK => ?_)
    refine hX.1 191 I_Mod_others_190 ok_Mod_others_190 _ _ _ ?_
    exact hK
def f_Mod_others_159 (σ : Sg) (x1 : Int32) (y0 : Int32) : Sg := (if (x1 &&& (1 : Int32)) = (1 : Int32) then (f_Mod_others_171 σ x1 (1 : Int32) y0) else (f_Mod_others_171 σ x1 (0 : Int32) y0))
abbrev w_Mod_others_159 : List (Nat × Option Nat) := [(15, some 4), (15, some 6)]
theorem p_Mod_others_159 {P : Sg → Prop} (hP : WP w_Mod_others_159 P) {σ : Sg} {x1 : Int32} {y0 : Int32} (h : P σ) : P (f_Mod_others_159 σ x1 y0) := by
  unfold f_Mod_others_159
  refine ite_z (fun _ => ?_) (fun _ => ?_)
  · exact p_Mod_others_171 (wsub hP rfl) h
  · exact p_Mod_others_171 (wsub hP rfl) h
set_option maxRecDepth 100000 in
set_option maxHeartbeats 4000000 in
theorem b_Mod_others_159 {l : Launch} {ad : Nat → Nat} {D : va_G} {cI : ClassId} {K : Option Value → Sg → Prop} {X : Nat → List Value → List Value → Sg → Prop} (hX : Cl l ad D cI mi_Mod_others pt_Mod K X) {σ : Sg} {x1 : Int32} {y0 : Int32}   (hK : KV K (f_Mod_others_159 σ x1 y0)) : X 159 [.ref 15, .int x1, .null] [.int y0, .ref 15] σ := by
  unfold f_Mod_others_159 at hK
  refine hX.1 170 I_Mod_others_159 ok_Mod_others_159 _ _ _ ?_
  refine And.intro (fun h1 => ?_) (fun h1 => ?_)
  · have hK := ite_p hK h1
    exact b_Mod_others_171 hX (Or.inr rfl)  hK
  · have hK := ite_n hK h1
    refine hX.1 171 I_Mod_others_170 ok_Mod_others_170 _ _ _ ?_
    exact b_Mod_others_171 hX (Or.inl rfl)  hK
def f_Mod_others (σ : Sg) (a1 : Int32) : Sg := (if a1 = (205 : Int32) then (bnd (f_Mod_next σ) fun r2 => bnd (f_Mod_interrupt r2.2 r2.1) fun r3 => r3) else (if a1 = (207 : Int32) then (bnd (f_Mod_pop σ) fun r5 => bnd (up2 r5.2 15 3 r5.1) fun s6 => bnd (f_Mod_pop s6) fun r7 => bnd (up2 r7.2 18 (Int32.toNatClampNeg (1 : Int32)) r7.1) fun s8 => bnd (f_Mod_pop s8) fun r9 => bnd (up2 r9.2 15 4 (r9.1 &&& (3777 : Int32))) fun s10 => s10) else (if a1 = (228 : Int32) then (bnd (f_Mod_next σ) fun r12 => bnd (f_Mod_answer r12.2 r12.1) fun r13 => bnd (f_Mod_setRegister r13.2 (0 : Int32) r13.1 (0 : Int32)) fun r14 => r14) else (if a1 = (230 : Int32) then (bnd (f_Mod_next σ) fun r16 => bnd (f_Mod_give r16.2 r16.1 ((r16.2 17 (Int32.toNatClampNeg (0 : Int32))) &&& (255 : Int32))) fun r17 => r17) else (if a1 = (244 : Int32) then (bnd (up2 σ 15 5 (1 : Int32)) fun s19 => s19) else (if (250 : Int32) ≤ a1 then (if (252 : Int32) ≤ a1 then (f_Mod_others_159 σ a1 (1024 : Int32)) else (f_Mod_others_159 σ a1 (512 : Int32))) else (f_Mod_others_159 σ a1 (1 : Int32))))))))
abbrev w_Mod_others : List (Nat × Option Nat) := [(15, some 3), (15, some 4), (15, some 5), (15, some 6), (15, some 7), (15, some 17), (15, some 18), (15, some 19), (15, some 20), (15, some 21), (15, some 22), (15, some 23), (15, some 24), (15, some 25), (15, some 26), (15, some 27), (15, some 28), (15, some 30), (15, some 31), (15, some 32), (15, some 33), (15, some 34), (15, some 35), (16, none), (17, none), (18, none), (19, none)]
theorem p_Mod_others {P : Sg → Prop} (hP : WP w_Mod_others P) {σ : Sg} {a1 : Int32} (h : P σ) : P (f_Mod_others σ a1) := by
  unfold f_Mod_others
  refine ite_z (fun _ => ?_) (fun _ => ?_)
  · refine bnd_zz (Z := PP P) (p_Mod_next (wsub hP rfl) h) fun r2 e2 q2 => ?_
    refine bnd_zz (Z := P) (p_Mod_interrupt (wsub hP rfl) q2) fun r3 e3 q3 => ?_
    exact q3
  · refine ite_z (fun _ => ?_) (fun _ => ?_)
    · refine bnd_zz (Z := PP P) (p_Mod_pop (wsub hP rfl) h) fun r5 e5 q5 => ?_
      refine bnd_zz (Z := P) (hP _ _ _ _ (Or.inr (by decide)) q5) fun s6 e6 q6 => ?_
      refine bnd_zz (Z := PP P) (p_Mod_pop (wsub hP rfl) q6) fun r7 e7 q7 => ?_
      refine bnd_zz (Z := P) (hP _ _ _ _ (Or.inl (by decide)) q7) fun s8 e8 q8 => ?_
      refine bnd_zz (Z := PP P) (p_Mod_pop (wsub hP rfl) q8) fun r9 e9 q9 => ?_
      refine bnd_zz (Z := P) (hP _ _ _ _ (Or.inr (by decide)) q9) fun s10 e10 q10 => ?_
      exact q10
    · refine ite_z (fun _ => ?_) (fun _ => ?_)
      · refine bnd_zz (Z := PP P) (p_Mod_next (wsub hP rfl) h) fun r12 e12 q12 => ?_
        refine bnd_zz (Z := PP P) (p_Mod_answer (wsub hP rfl) q12) fun r13 e13 q13 => ?_
        refine bnd_zz (Z := P) (p_Mod_setRegister (wsub hP rfl) q13) fun r14 e14 q14 => ?_
        exact q14
      · refine ite_z (fun _ => ?_) (fun _ => ?_)
        · refine bnd_zz (Z := PP P) (p_Mod_next (wsub hP rfl) h) fun r16 e16 q16 => ?_
          refine bnd_zz (Z := P) (p_Mod_give (wsub hP rfl) q16) fun r17 e17 q17 => ?_
          exact q17
        · refine ite_z (fun _ => ?_) (fun _ => ?_)
          · refine bnd_zz (Z := P) (hP _ _ _ _ (Or.inr (by decide)) h) fun s19 e19 q19 => ?_
            exact q19
          · refine ite_z (fun _ => ?_) (fun _ => ?_)
            · refine ite_z (fun _ => ?_) (fun _ => ?_)
              · exact p_Mod_others_159 (wsub hP rfl) h
              · exact p_Mod_others_159 (wsub hP rfl) h
            · exact p_Mod_others_159 (wsub hP rfl) h
set_option maxRecDepth 100000 in
set_option maxHeartbeats 4000000 in
theorem s_Mod_others {l : Launch} {ad : Nat → Nat} {D : va_G} {cI : ClassId} {σ : Sg} {a1 : Int32} {K : Option Value → Sg → Prop}  (KY0 : KY σ) (hK : KV K (f_Mod_others σ a1)) : MetJ l ad D cI mi_Mod_others [.ref 15, .int a1] σ K := by
  refine met_of mi_Mod_others pt_Mod pt_Mod_in rfl pl_Mod rfl (Nat.le_of_ble_eq_true rfl) fun X hX => ?_
  have hX : Cl l ad D cI mi_Mod_others pt_Mod K X := hX
  show X 0 [.ref 15, .int a1, .null] [] σ
  unfold f_Mod_others at hK
  refine hX.1 20 I_Mod_others_0 ok_Mod_others_0 _ _ _ ?_
  refine And.intro (fun h1 => ?_) (fun h1 => ?_)
  · have hK := ite_p hK h1
    refine s_Mod_next (bnd_g hK fun r2 e2 hK => ?_)
    refine s_Mod_interrupt (bnd_g hK fun r3 e3 hK => ?_)
    refine hX.1 191 I_Mod_others_190 ok_Mod_others_190 _ _ _ ?_
    exact hK
  · have hK := ite_n hK h1
    refine hX.1 60 I_Mod_others_20 ok_Mod_others_20 _ _ _ ?_
    refine And.intro (fun h4 => ?_) (fun h4 => ?_)
    · have hK := ite_p hK h4
      refine s_Mod_pop (bnd_g hK fun r5 e5 hK => ?_)
      refine And.intro trivial (SG_g hK fun s6 e6 hK => ?_)
      refine s_Mod_pop (bnd_g hK fun r7 e7 hK => ?_)
      refine And.intro (vin (by decide)) (SG_g hK fun s8 e8 hK => ?_)
      refine s_Mod_pop (bnd_g hK fun r9 e9 hK => ?_)
      refine And.intro trivial (SG_g hK fun s10 e10 hK => ?_)
      refine hX.1 191 I_Mod_others_190 ok_Mod_others_190 _ _ _ ?_
      exact hK
    · have hK := ite_n hK h4
      refine hX.1 86 I_Mod_others_60 ok_Mod_others_60 _ _ _ ?_
      refine And.intro (fun h11 => ?_) (fun h11 => ?_)
      · have hK := ite_p hK h11
        refine s_Mod_next (bnd_g hK fun r12 e12 hK => ?_)
        have KY12 : KY r12.2 := by rw [← e12]; exact p_Mod_next (P := KY) (KYw rfl) KY0
        refine s_Mod_answer KY12 (bnd_g hK fun r13 e13 hK => ?_)
        refine s_Mod_setRegister (vin (by decide)) (bnd_g hK fun r14 e14 hK => ?_)
        refine hX.1 191 I_Mod_others_190 ok_Mod_others_190 _ _ _ ?_
        exact hK
      · have hK := ite_n hK h11
        refine hX.1 116 I_Mod_others_86 ok_Mod_others_86 _ _ _ ?_
        refine And.intro (fun h15 => ?_) (fun h15 => ?_)
        · have hK := ite_p hK h15
          refine s_Mod_next (bnd_g hK fun r16 e16 hK => ?_)
          refine And.intro (vin (by decide)) ?_
          refine s_Mod_give (bnd_g hK fun r17 e17 hK => ?_)
          refine hX.1 191 I_Mod_others_190 ok_Mod_others_190 _ _ _ ?_
          exact hK
        · have hK := ite_n hK h15
          refine hX.1 131 I_Mod_others_116 ok_Mod_others_116 _ _ _ ?_
          refine And.intro (fun h18 => ?_) (fun h18 => ?_)
          · have hK := ite_p hK h18
            refine And.intro (Or.inr rfl) (SG_g hK fun s19 e19 hK => ?_)
            refine hX.1 191 I_Mod_others_190 ok_Mod_others_190 _ _ _ ?_
            exact hK
          · have hK := ite_n hK h18
            refine hX.1 143 I_Mod_others_131 ok_Mod_others_131 _ _ _ ?_
            refine And.intro (fun h20 => ?_) (fun h20 => ?_)
            · have hK := ite_p hK h20
              refine hX.1 156 I_Mod_others_143 ok_Mod_others_143 _ _ _ ?_
              refine And.intro (fun h21 => ?_) (fun h21 => ?_)
              · have hK := ite_p hK h21
                refine hX.1 159 I_Mod_others_156 ok_Mod_others_156 _ _ _ ?_
                exact b_Mod_others_159 hX  hK
              · have hK := ite_n hK h21
                exact b_Mod_others_159 hX  hK
            · have hK := ite_n hK h20
              exact b_Mod_others_159 hX  hK
def I_Mod_execute_0 : List IT := [(0, .iload_n 1, 1, 0, 0, []), (1, .bipush 112, 2, 112, 0, []), (3, .bipush 127, 2, 127, 0, []), (5, .invokestatic 100, 3, 0, 0, []), (8, .ifCond .eq 15, 3, 0, 23, []), (11, .iload_n 1, 1, 0, 0, []), (12, .bipush 122, 2, 122, 0, []), (14, .if_icmp .eq 9, 3, 0, 23, []), (17, .iload_n 1, 1, 0, 0, []), (18, .bipush 123, 2, 123, 0, []), (20, .if_icmp .ne 38, 3, 0, 58, [])]
theorem ok_Mod_execute_0 : blkOK b_Mod_execute pt_Mod 23 I_Mod_execute_0 = true := by decide +kernel
def I_Mod_execute_23 : List IT := [(23, .iload_n 1, 1, 0, 0, []), (24, .sipush 195, 3, 195, 0, []), (27, .if_icmp .eq 31, 3, 0, 58, []), (30, .iload_n 1, 1, 0, 0, []), (31, .sipush 226, 3, 226, 0, []), (34, .if_icmp .eq 24, 3, 0, 58, []), (37, .iload_n 1, 1, 0, 0, []), (38, .sipush 232, 3, 232, 0, []), (41, .if_icmp .eq 17, 3, 0, 58, []), (44, .iload_n 1, 1, 0, 0, []), (45, .sipush 233, 3, 233, 0, []), (48, .if_icmp .eq 10, 3, 0, 58, []), (51, .iload_n 1, 1, 0, 0, []), (52, .sipush 235, 3, 235, 0, []), (55, .if_icmp .ne 7, 3, 0, 62, [])]
theorem ok_Mod_execute_23 : blkOK b_Mod_execute pt_Mod 58 I_Mod_execute_23 = true := by decide +kernel
def I_Mod_execute_58 : List IT := [(58, .iconst 1, 1, 1, 0, []), (59, .goto 4, 3, 0, 63, [])]
theorem ok_Mod_execute_58 : blkOK b_Mod_execute pt_Mod 62 I_Mod_execute_58 = true := by decide +kernel
def I_Mod_execute_62 : List IT := [(62, .iconst 0, 1, 0, 0, [])]
theorem ok_Mod_execute_62 : blkOK b_Mod_execute pt_Mod 63 I_Mod_execute_62 = true := by decide +kernel
def I_Mod_execute_63 : List IT := [(63, .istore_n 2, 1, 0, 0, []), (64, .iload_n 1, 1, 0, 0, []), (65, .bipush 32, 2, 32, 0, []), (67, .if_icmp .ge 21, 3, 0, 88, []), (70, .iload_n 1, 1, 0, 0, []), (71, .bipush 7, 2, 7, 0, []), (73, .iand, 1, 0, 0, []), (74, .iconst 5, 1, 5, 0, []), (75, .if_icmp .le 13, 3, 0, 88, []), (78, .iload_n 1, 1, 0, 0, []), (79, .bipush 15, 2, 15, 0, []), (81, .if_icmp .eq 7, 3, 0, 88, []), (84, .iconst 1, 1, 1, 0, []), (85, .goto 4, 3, 0, 89, [])]
theorem ok_Mod_execute_63 : blkOK b_Mod_execute pt_Mod 88 I_Mod_execute_63 = true := by decide +kernel
def I_Mod_execute_88 : List IT := [(88, .iconst 0, 1, 0, 0, [])]
theorem ok_Mod_execute_88 : blkOK b_Mod_execute pt_Mod 89 I_Mod_execute_88 = true := by decide +kernel
def I_Mod_execute_89 : List IT := [(89, .istore_n 3, 1, 0, 0, []), (90, .iload_n 1, 1, 0, 0, []), (91, .bipush 64, 2, 64, 0, []), (93, .if_icmp .ge 20, 3, 0, 113, []), (96, .iload_n 1, 1, 0, 0, []), (97, .bipush 7, 2, 7, 0, []), (99, .iand, 1, 0, 0, []), (100, .bipush 6, 2, 6, 0, []), (102, .if_icmp .ge 11, 3, 0, 113, []), (105, .aload_n 0, 1, 0, 0, []), (106, .iload_n 1, 1, 0, 0, []), (107, .invokevirtual 213, 3, 0, 0, []), (110, .goto 328, 3, 0, 438, [])]
theorem ok_Mod_execute_89 : blkOK b_Mod_execute pt_Mod 113 I_Mod_execute_89 = true := by decide +kernel
def I_Mod_execute_113 : List IT := [(113, .iload_n 3, 1, 0, 0, []), (114, .ifCond .ne 14, 3, 0, 128, []), (117, .iload_n 1, 1, 0, 0, []), (118, .bipush 80, 2, 80, 0, []), (120, .bipush 95, 2, 95, 0, []), (122, .invokestatic 100, 3, 0, 0, []), (125, .ifCond .eq 11, 3, 0, 136, [])]
theorem ok_Mod_execute_113 : blkOK b_Mod_execute pt_Mod 128 I_Mod_execute_113 = true := by decide +kernel
def I_Mod_execute_128 : List IT := [(128, .aload_n 0, 1, 0, 0, []), (129, .iload_n 1, 1, 0, 0, []), (130, .invokevirtual 216, 3, 0, 0, []), (133, .goto 305, 3, 0, 438, [])]
theorem ok_Mod_execute_128 : blkOK b_Mod_execute pt_Mod 136 I_Mod_execute_128 = true := by decide +kernel
def I_Mod_execute_136 : List IT := [(136, .iload_n 1, 1, 0, 0, []), (137, .bipush 64, 2, 64, 0, []), (139, .bipush 79, 2, 79, 0, []), (141, .invokestatic 100, 3, 0, 0, []), (144, .ifCond .eq 40, 3, 0, 184, []), (147, .aload_n 0, 1, 0, 0, []), (148, .getfield 13, 3, 0, 0, []), (151, .iload_n 1, 1, 0, 0, []), (152, .bipush 7, 2, 7, 0, []), (154, .iand, 1, 0, 0, []), (155, .aload_n 0, 1, 0, 0, []), (156, .aload_n 0, 1, 0, 0, []), (157, .getfield 13, 3, 0, 0, []), (160, .iload_n 1, 1, 0, 0, []), (161, .bipush 7, 2, 7, 0, []), (163, .iand, 1, 0, 0, []), (164, .iaload, 1, 0, 0, []), (165, .iload_n 1, 1, 0, 0, []), (166, .bipush 72, 2, 72, 0, []), (168, .if_icmp .lt 7, 3, 0, 175, []), (171, .iconst 1, 1, 1, 0, []), (172, .goto 4, 3, 0, 176, [])]
theorem ok_Mod_execute_136 : blkOK b_Mod_execute pt_Mod 175 I_Mod_execute_136 = true := by decide +kernel
def I_Mod_execute_175 : List IT := [(175, .iconst 0, 1, 0, 0, [])]
theorem ok_Mod_execute_175 : blkOK b_Mod_execute pt_Mod 176 I_Mod_execute_175 = true := by decide +kernel
def I_Mod_execute_176 : List IT := [(176, .iconst 1, 1, 1, 0, []), (177, .invokevirtual 173, 3, 0, 0, []), (180, .iastore, 1, 0, 0, []), (181, .goto 257, 3, 0, 438, [])]
theorem ok_Mod_execute_176 : blkOK b_Mod_execute pt_Mod 184 I_Mod_execute_176 = true := by decide +kernel
def I_Mod_execute_184 : List IT := [(184, .iload_n 2, 1, 0, 0, []), (185, .ifCond .eq 11, 3, 0, 196, []), (188, .aload_n 0, 1, 0, 0, []), (189, .iload_n 1, 1, 0, 0, []), (190, .invokevirtual 219, 3, 0, 0, []), (193, .goto 245, 3, 0, 438, [])]
theorem ok_Mod_execute_184 : blkOK b_Mod_execute pt_Mod 196 I_Mod_execute_184 = true := by decide +kernel
def I_Mod_execute_196 : List IT := [(196, .iload_n 1, 1, 0, 0, []), (197, .sipush 128, 3, 128, 0, []), (200, .if_icmp .eq 17, 3, 0, 217, []), (203, .iload_n 1, 1, 0, 0, []), (204, .sipush 129, 3, 129, 0, []), (207, .if_icmp .eq 10, 3, 0, 217, []), (210, .iload_n 1, 1, 0, 0, []), (211, .sipush 131, 3, 131, 0, []), (214, .if_icmp .ne 11, 3, 0, 225, [])]
theorem ok_Mod_execute_196 : blkOK b_Mod_execute pt_Mod 217 I_Mod_execute_196 = true := by decide +kernel
def I_Mod_execute_217 : List IT := [(217, .aload_n 0, 1, 0, 0, []), (218, .iload_n 1, 1, 0, 0, []), (219, .invokevirtual 222, 3, 0, 0, []), (222, .goto 216, 3, 0, 438, [])]
theorem ok_Mod_execute_217 : blkOK b_Mod_execute pt_Mod 225 I_Mod_execute_217 = true := by decide +kernel
def I_Mod_execute_225 : List IT := [(225, .iload_n 1, 1, 0, 0, []), (226, .sipush 136, 3, 136, 0, []), (229, .sipush 142, 3, 142, 0, []), (232, .invokestatic 100, 3, 0, 0, []), (235, .ifCond .eq 11, 3, 0, 246, []), (238, .aload_n 0, 1, 0, 0, []), (239, .iload_n 1, 1, 0, 0, []), (240, .invokevirtual 225, 3, 0, 0, []), (243, .goto 195, 3, 0, 438, [])]
theorem ok_Mod_execute_225 : blkOK b_Mod_execute pt_Mod 246 I_Mod_execute_225 = true := by decide +kernel
def I_Mod_execute_246 : List IT := [(246, .iload_n 1, 1, 0, 0, []), (247, .sipush 176, 3, 176, 0, []), (250, .sipush 191, 3, 191, 0, []), (253, .invokestatic 100, 3, 0, 0, []), (256, .ifCond .eq 46, 3, 0, 302, []), (259, .aload_n 0, 1, 0, 0, []), (260, .iload_n 1, 1, 0, 0, []), (261, .sipush 184, 3, 184, 0, []), (264, .if_icmp .lt 7, 3, 0, 271, []), (267, .iconst 1, 1, 1, 0, []), (268, .goto 4, 3, 0, 272, [])]
theorem ok_Mod_execute_246 : blkOK b_Mod_execute pt_Mod 271 I_Mod_execute_246 = true := by decide +kernel
def I_Mod_execute_271 : List IT := [(271, .iconst 0, 1, 0, 0, [])]
theorem ok_Mod_execute_271 : blkOK b_Mod_execute pt_Mod 272 I_Mod_execute_271 = true := by decide +kernel
def I_Mod_execute_272 : List IT := [(272, .invokevirtual 141, 3, 0, 0, []), (275, .istore 4, 2, 0, 0, []), (277, .aload_n 0, 1, 0, 0, []), (278, .iload_n 1, 1, 0, 0, []), (279, .bipush 7, 2, 7, 0, []), (281, .iand, 1, 0, 0, []), (282, .iload 4, 2, 0, 0, []), (284, .iload_n 1, 1, 0, 0, []), (285, .sipush 184, 3, 184, 0, []), (288, .if_icmp .lt 7, 3, 0, 295, []), (291, .iconst 1, 1, 1, 0, []), (292, .goto 4, 3, 0, 296, [])]
theorem ok_Mod_execute_272 : blkOK b_Mod_execute pt_Mod 295 I_Mod_execute_272 = true := by decide +kernel
def I_Mod_execute_295 : List IT := [(295, .iconst 0, 1, 0, 0, [])]
theorem ok_Mod_execute_295 : blkOK b_Mod_execute pt_Mod 296 I_Mod_execute_295 = true := by decide +kernel
def I_Mod_execute_296 : List IT := [(296, .invokevirtual 84, 3, 0, 0, []), (299, .goto 139, 3, 0, 438, [])]
theorem ok_Mod_execute_296 : blkOK b_Mod_execute pt_Mod 302 I_Mod_execute_296 = true := by decide +kernel
def I_Mod_execute_302 : List IT := [(302, .iload_n 1, 1, 0, 0, []), (303, .sipush 246, 3, 246, 0, []), (306, .if_icmp .eq 17, 3, 0, 323, []), (309, .iload_n 1, 1, 0, 0, []), (310, .sipush 247, 3, 247, 0, []), (313, .if_icmp .eq 10, 3, 0, 323, []), (316, .iload_n 1, 1, 0, 0, []), (317, .sipush 253, 3, 253, 0, []), (320, .if_icmp .le 11, 3, 0, 331, [])]
theorem ok_Mod_execute_302 : blkOK b_Mod_execute pt_Mod 323 I_Mod_execute_302 = true := by decide +kernel
def I_Mod_execute_323 : List IT := [(323, .aload_n 0, 1, 0, 0, []), (324, .iload_n 1, 1, 0, 0, []), (325, .invokevirtual 228, 3, 0, 0, []), (328, .goto 110, 3, 0, 438, [])]
theorem ok_Mod_execute_323 : blkOK b_Mod_execute pt_Mod 331 I_Mod_execute_323 = true := by decide +kernel
def I_Mod_execute_331 : List IT := [(331, .iload_n 1, 1, 0, 0, []), (332, .sipush 164, 3, 164, 0, []), (335, .if_icmp .eq 23, 3, 0, 358, []), (338, .iload_n 1, 1, 0, 0, []), (339, .sipush 165, 3, 165, 0, []), (342, .if_icmp .eq 16, 3, 0, 358, []), (345, .iload_n 1, 1, 0, 0, []), (346, .sipush 170, 3, 170, 0, []), (349, .sipush 175, 3, 175, 0, []), (352, .invokestatic 100, 3, 0, 0, []), (355, .ifCond .eq 11, 3, 0, 366, [])]
theorem ok_Mod_execute_331 : blkOK b_Mod_execute pt_Mod 358 I_Mod_execute_331 = true := by decide +kernel
def I_Mod_execute_358 : List IT := [(358, .aload_n 0, 1, 0, 0, []), (359, .iload_n 1, 1, 0, 0, []), (360, .invokevirtual 231, 3, 0, 0, []), (363, .goto 75, 3, 0, 438, [])]
theorem ok_Mod_execute_358 : blkOK b_Mod_execute pt_Mod 366 I_Mod_execute_358 = true := by decide +kernel
def I_Mod_execute_366 : List IT := [(366, .iload_n 1, 1, 0, 0, []), (367, .sipush 205, 3, 205, 0, []), (370, .if_icmp .eq 44, 3, 0, 414, []), (373, .iload_n 1, 1, 0, 0, []), (374, .sipush 207, 3, 207, 0, []), (377, .if_icmp .eq 37, 3, 0, 414, []), (380, .iload_n 1, 1, 0, 0, []), (381, .sipush 228, 3, 228, 0, []), (384, .if_icmp .eq 30, 3, 0, 414, []), (387, .iload_n 1, 1, 0, 0, []), (388, .sipush 230, 3, 230, 0, []), (391, .if_icmp .eq 23, 3, 0, 414, []), (394, .iload_n 1, 1, 0, 0, []), (395, .sipush 244, 3, 244, 0, []), (398, .if_icmp .eq 16, 3, 0, 414, []), (401, .iload_n 1, 1, 0, 0, []), (402, .sipush 248, 3, 248, 0, []), (405, .sipush 253, 3, 253, 0, []), (408, .invokestatic 100, 3, 0, 0, []), (411, .ifCond .eq 11, 3, 0, 422, [])]
theorem ok_Mod_execute_366 : blkOK b_Mod_execute pt_Mod 414 I_Mod_execute_366 = true := by decide +kernel
def I_Mod_execute_414 : List IT := [(414, .aload_n 0, 1, 0, 0, []), (415, .iload_n 1, 1, 0, 0, []), (416, .invokevirtual 234, 3, 0, 0, []), (419, .goto 19, 3, 0, 438, [])]
theorem ok_Mod_execute_414 : blkOK b_Mod_execute pt_Mod 422 I_Mod_execute_414 = true := by decide +kernel
def I_Mod_execute_422 : List IT := [(422, .aload_n 0, 1, 0, 0, []), (423, .iload_n 1, 1, 0, 0, []), (424, .sipush 144, 3, 144, 0, []), (427, .if_icmp .eq 7, 3, 0, 434, []), (430, .iconst 1, 1, 1, 0, []), (431, .goto 4, 3, 0, 435, [])]
theorem ok_Mod_execute_422 : blkOK b_Mod_execute pt_Mod 434 I_Mod_execute_422 = true := by decide +kernel
def I_Mod_execute_434 : List IT := [(434, .iconst 0, 1, 0, 0, [])]
theorem ok_Mod_execute_434 : blkOK b_Mod_execute pt_Mod 435 I_Mod_execute_434 = true := by decide +kernel
def I_Mod_execute_435 : List IT := [(435, .putfield 157, 3, 0, 0, [])]
theorem ok_Mod_execute_435 : blkOK b_Mod_execute pt_Mod 438 I_Mod_execute_435 = true := by decide +kernel
def I_Mod_execute_438 : List IT := [(438, .return_, 1, 0, 0, [])]
theorem ok_Mod_execute_438 : blkOK b_Mod_execute pt_Mod 439 I_Mod_execute_438 = true := by decide +kernel
def f_Mod_execute_217 (σ : Sg) (x1 : Int32) : Sg := (bnd (f_Mod_withImmediate σ x1) fun r1 => r1)
abbrev w_Mod_execute_217 : List (Nat × Option Nat) := [(15, some 3), (15, some 4), (15, some 12), (15, some 13), (15, some 14), (15, some 15), (16, none), (17, none)]
theorem p_Mod_execute_217 {P : Sg → Prop} (hP : WP w_Mod_execute_217 P) {σ : Sg} {x1 : Int32} (h : P σ) : P (f_Mod_execute_217 σ x1) := by
  unfold f_Mod_execute_217
  refine bnd_zz (Z := P) (p_Mod_withImmediate (wsub hP rfl) h) fun r1 e1 q1 => ?_
  exact q1
set_option maxRecDepth 100000 in
set_option maxHeartbeats 4000000 in
theorem b_Mod_execute_217 {l : Launch} {ad : Nat → Nat} {D : va_G} {cI : ClassId} {K : Option Value → Sg → Prop} {X : Nat → List Value → List Value → Sg → Prop} (hX : Cl l ad D cI mi_Mod_execute pt_Mod K X) {σ : Sg} {x1 : Int32} (nn_x1 : ¬ x1 < 0) (OV0 : OV σ) (hK : KV K (f_Mod_execute_217 σ x1)) : X 217 [.ref 15, .int x1, .null, .null, .null] [] σ := by
  unfold f_Mod_execute_217 at hK
  refine hX.1 225 I_Mod_execute_217 ok_Mod_execute_217 _ _ _ ?_
  refine s_Mod_withImmediate OV0 (bnd_g hK fun r1 e1 hK => ?_)
  refine hX.1 439 I_Mod_execute_438 ok_Mod_execute_438 _ _ _ ?_
  exact hK
def f_Mod_execute_323 (σ : Sg) (x1 : Int32) : Sg := (bnd (f_Mod_ones σ x1) fun r1 => r1)
abbrev w_Mod_execute_323 : List (Nat × Option Nat) := [(15, some 3), (15, some 4), (15, some 7), (15, some 12), (15, some 13), (15, some 14), (15, some 15), (15, some 16), (16, none), (17, none), (18, none)]
theorem p_Mod_execute_323 {P : Sg → Prop} (hP : WP w_Mod_execute_323 P) {σ : Sg} {x1 : Int32} (h : P σ) : P (f_Mod_execute_323 σ x1) := by
  unfold f_Mod_execute_323
  refine bnd_zz (Z := P) (p_Mod_ones (wsub hP rfl) h) fun r1 e1 q1 => ?_
  exact q1
set_option maxRecDepth 100000 in
set_option maxHeartbeats 4000000 in
theorem b_Mod_execute_323 {l : Launch} {ad : Nat → Nat} {D : va_G} {cI : ClassId} {K : Option Value → Sg → Prop} {X : Nat → List Value → List Value → Sg → Prop} (hX : Cl l ad D cI mi_Mod_execute pt_Mod K X) {σ : Sg} {x1 : Int32} (nn_x1 : ¬ x1 < 0) (OV0 : OV σ) (hK : KV K (f_Mod_execute_323 σ x1)) : X 323 [.ref 15, .int x1, .null, .null, .null] [] σ := by
  unfold f_Mod_execute_323 at hK
  refine hX.1 331 I_Mod_execute_323 ok_Mod_execute_323 _ _ _ ?_
  refine s_Mod_ones OV0 (bnd_g hK fun r1 e1 hK => ?_)
  refine hX.1 439 I_Mod_execute_438 ok_Mod_execute_438 _ _ _ ?_
  exact hK
def f_Mod_execute_358 (σ : Sg) (x1 : Int32) : Sg := (bnd (f_Mod_strings σ x1) fun r1 => r1)
abbrev w_Mod_execute_358 : List (Nat × Option Nat) := [(15, some 3), (15, some 4), (16, none), (17, none)]
theorem p_Mod_execute_358 {P : Sg → Prop} (hP : WP w_Mod_execute_358 P) {σ : Sg} {x1 : Int32} (h : P σ) : P (f_Mod_execute_358 σ x1) := by
  unfold f_Mod_execute_358
  refine bnd_zz (Z := P) (p_Mod_strings (wsub hP rfl) h) fun r1 e1 q1 => ?_
  exact q1
set_option maxRecDepth 100000 in
set_option maxHeartbeats 4000000 in
theorem b_Mod_execute_358 {l : Launch} {ad : Nat → Nat} {D : va_G} {cI : ClassId} {K : Option Value → Sg → Prop} {X : Nat → List Value → List Value → Sg → Prop} (hX : Cl l ad D cI mi_Mod_execute pt_Mod K X) {σ : Sg} {x1 : Int32} (nn_x1 : ¬ x1 < 0) (OV0 : OV σ) (hK : KV K (f_Mod_execute_358 σ x1)) : X 358 [.ref 15, .int x1, .null, .null, .null] [] σ := by
  unfold f_Mod_execute_358 at hK
  refine hX.1 366 I_Mod_execute_358 ok_Mod_execute_358 _ _ _ ?_
  refine s_Mod_strings OV0 (bnd_g hK fun r1 e1 hK => ?_)
  refine hX.1 439 I_Mod_execute_438 ok_Mod_execute_438 _ _ _ ?_
  exact hK
def f_Mod_execute_414 (σ : Sg) (x1 : Int32) : Sg := (bnd (f_Mod_others σ x1) fun r1 => r1)
abbrev w_Mod_execute_414 : List (Nat × Option Nat) := [(15, some 3), (15, some 4), (15, some 5), (15, some 6), (15, some 7), (15, some 17), (15, some 18), (15, some 19), (15, some 20), (15, some 21), (15, some 22), (15, some 23), (15, some 24), (15, some 25), (15, some 26), (15, some 27), (15, some 28), (15, some 30), (15, some 31), (15, some 32), (15, some 33), (15, some 34), (15, some 35), (16, none), (17, none), (18, none), (19, none)]
theorem p_Mod_execute_414 {P : Sg → Prop} (hP : WP w_Mod_execute_414 P) {σ : Sg} {x1 : Int32} (h : P σ) : P (f_Mod_execute_414 σ x1) := by
  unfold f_Mod_execute_414
  refine bnd_zz (Z := P) (p_Mod_others (wsub hP rfl) h) fun r1 e1 q1 => ?_
  exact q1
set_option maxRecDepth 100000 in
set_option maxHeartbeats 4000000 in
theorem b_Mod_execute_414 {l : Launch} {ad : Nat → Nat} {D : va_G} {cI : ClassId} {K : Option Value → Sg → Prop} {X : Nat → List Value → List Value → Sg → Prop} (hX : Cl l ad D cI mi_Mod_execute pt_Mod K X) {σ : Sg} {x1 : Int32} (nn_x1 : ¬ x1 < 0) (KY0 : KY σ) (hK : KV K (f_Mod_execute_414 σ x1)) : X 414 [.ref 15, .int x1, .null, .null, .null] [] σ := by
  unfold f_Mod_execute_414 at hK
  refine hX.1 422 I_Mod_execute_414 ok_Mod_execute_414 _ _ _ ?_
  refine s_Mod_others KY0 (bnd_g hK fun r1 e1 hK => ?_)
  refine hX.1 439 I_Mod_execute_438 ok_Mod_execute_438 _ _ _ ?_
  exact hK
def f_Mod_execute_296 (σ : Sg) (y0 : Int32) (y1 : Int32) (y2 : Int32) : Sg := (bnd (f_Mod_setRegister σ y2 y1 y0) fun r1 => r1)
abbrev w_Mod_execute_296 : List (Nat × Option Nat) := [(17, none)]
theorem p_Mod_execute_296 {P : Sg → Prop} (hP : WP w_Mod_execute_296 P) {σ : Sg} {y0 : Int32} {y1 : Int32} {y2 : Int32} (h : P σ) : P (f_Mod_execute_296 σ y0 y1 y2) := by
  unfold f_Mod_execute_296
  refine bnd_zz (Z := P) (p_Mod_setRegister (wsub hP rfl) h) fun r1 e1 q1 => ?_
  exact q1
set_option maxRecDepth 100000 in
set_option maxHeartbeats 4000000 in
theorem b_Mod_execute_296 {l : Launch} {ad : Nat → Nat} {D : va_G} {cI : ClassId} {K : Option Value → Sg → Prop} {X : Nat → List Value → List Value → Sg → Prop} (hX : Cl l ad D cI mi_Mod_execute pt_Mod K X) {σ : Sg} {y0 : Int32} {y1 : Int32} {y2 : Int32} (z_y0 : y0 = 0 ∨ y0 = 1) (v8_y0 : vp_in y0 8) (nn_y0 : ¬ y0 < 0) (v8_y2 : vp_in y2 8)  (hK : KV K (f_Mod_execute_296 σ y0 y1 y2)) : X 296 [.null, .null, .null, .null, .null] [.int y0, .int y1, .int y2, .ref 15] σ := by
  unfold f_Mod_execute_296 at hK
  refine hX.1 302 I_Mod_execute_296 ok_Mod_execute_296 _ _ _ ?_
  refine s_Mod_setRegister v8_y2 (bnd_g hK fun r1 e1 hK => ?_)
  refine hX.1 439 I_Mod_execute_438 ok_Mod_execute_438 _ _ _ ?_
  exact hK
def f_Mod_execute_272 (σ : Sg) (x1 : Int32) (y0 : Int32) : Sg := (bnd (f_Mod_immediate σ y0) fun r1 => (if x1 < (184 : Int32) then (f_Mod_execute_296 r1.2 (0 : Int32) r1.1 (x1 &&& (7 : Int32))) else (f_Mod_execute_296 r1.2 (1 : Int32) r1.1 (x1 &&& (7 : Int32)))))
abbrev w_Mod_execute_272 : List (Nat × Option Nat) := [(15, some 3), (17, none)]
theorem p_Mod_execute_272 {P : Sg → Prop} (hP : WP w_Mod_execute_272 P) {σ : Sg} {x1 : Int32} {y0 : Int32} (h : P σ) : P (f_Mod_execute_272 σ x1 y0) := by
  unfold f_Mod_execute_272
  refine bnd_zz (Z := PP P) (p_Mod_immediate (wsub hP rfl) h) fun r1 e1 q1 => ?_
  refine ite_z (fun _ => ?_) (fun _ => ?_)
  · exact p_Mod_execute_296 (wsub hP rfl) q1
  · exact p_Mod_execute_296 (wsub hP rfl) q1
set_option maxRecDepth 100000 in
set_option maxHeartbeats 4000000 in
theorem b_Mod_execute_272 {l : Launch} {ad : Nat → Nat} {D : va_G} {cI : ClassId} {K : Option Value → Sg → Prop} {X : Nat → List Value → List Value → Sg → Prop} (hX : Cl l ad D cI mi_Mod_execute pt_Mod K X) {σ : Sg} {x1 : Int32} {y0 : Int32} (nn_x1 : ¬ x1 < 0) (z_y0 : y0 = 0 ∨ y0 = 1) (v8_y0 : vp_in y0 8) (nn_y0 : ¬ y0 < 0)  (hK : KV K (f_Mod_execute_272 σ x1 y0)) : X 272 [.ref 15, .int x1, .null, .null, .null] [.int y0, .ref 15] σ := by
  unfold f_Mod_execute_272 at hK
  refine hX.1 295 I_Mod_execute_272 ok_Mod_execute_272 _ _ _ ?_
  refine s_Mod_immediate (bnd_g hK fun r1 e1 hK => ?_)
  refine And.intro (fun h2 => ?_) (fun h2 => ?_)
  · have hK := ite_p hK h2
    refine hX.1 296 I_Mod_execute_295 ok_Mod_execute_295 _ _ _ ?_
    refine hX.fg [0, 1, 4] ?_
    exact b_Mod_execute_296 hX (Or.inl rfl) (vin (by decide)) (by decide) (pk_andIn _ 3 rfl (by decide))  hK
  · have hK := ite_n hK h2
    refine hX.fg [0, 1, 4] ?_
    exact b_Mod_execute_296 hX (Or.inr rfl) (vin (by decide)) (by decide) (pk_andIn _ 3 rfl (by decide))  hK
def f_Mod_execute_176 (σ : Sg) (y0 : Int32) (y1 : Int32) (y3 : Int32) : Sg := (bnd (f_Mod_byOne σ y1 y0 (1 : Int32)) fun r1 => bnd (up2 r1.2 17 (Int32.toNatClampNeg y3) r1.1) fun s2 => s2)
abbrev w_Mod_execute_176 : List (Nat × Option Nat) := [(15, some 4), (17, none)]
theorem p_Mod_execute_176 {P : Sg → Prop} (hP : WP w_Mod_execute_176 P) {σ : Sg} {y0 : Int32} {y1 : Int32} {y3 : Int32} (h : P σ) : P (f_Mod_execute_176 σ y0 y1 y3) := by
  unfold f_Mod_execute_176
  refine bnd_zz (Z := PP P) (p_Mod_byOne (wsub hP rfl) h) fun r1 e1 q1 => ?_
  refine bnd_zz (Z := P) (hP _ _ _ _ (Or.inl (by decide)) q1) fun s2 e2 q2 => ?_
  exact q2
set_option maxRecDepth 100000 in
set_option maxHeartbeats 4000000 in
theorem b_Mod_execute_176 {l : Launch} {ad : Nat → Nat} {D : va_G} {cI : ClassId} {K : Option Value → Sg → Prop} {X : Nat → List Value → List Value → Sg → Prop} (hX : Cl l ad D cI mi_Mod_execute pt_Mod K X) {σ : Sg} {y0 : Int32} {y1 : Int32} {y3 : Int32} (z_y0 : y0 = 0 ∨ y0 = 1) (v8_y0 : vp_in y0 8) (nn_y0 : ¬ y0 < 0) (v8_y3 : vp_in y3 8)  (hK : KV K (f_Mod_execute_176 σ y0 y1 y3)) : X 176 [.null, .null, .null, .null, .null] [.int y0, .int y1, .ref 15, .int y3, .ref 17] σ := by
  unfold f_Mod_execute_176 at hK
  refine hX.1 184 I_Mod_execute_176 ok_Mod_execute_176 _ _ _ ?_
  refine s_Mod_byOne (bnd_g hK fun r1 e1 hK => ?_)
  refine And.intro v8_y3 (SG_g hK fun s2 e2 hK => ?_)
  refine hX.1 439 I_Mod_execute_438 ok_Mod_execute_438 _ _ _ ?_
  exact hK
def f_Mod_execute_128 (σ : Sg) (x1 : Int32) : Sg := (bnd (f_Mod_stack σ x1) fun r1 => r1)
abbrev w_Mod_execute_128 : List (Nat × Option Nat) := [(15, some 6), (16, none), (17, none), (18, none)]
theorem p_Mod_execute_128 {P : Sg → Prop} (hP : WP w_Mod_execute_128 P) {σ : Sg} {x1 : Int32} (h : P σ) : P (f_Mod_execute_128 σ x1) := by
  unfold f_Mod_execute_128
  refine bnd_zz (Z := P) (p_Mod_stack (wsub hP rfl) h) fun r1 e1 q1 => ?_
  exact q1
set_option maxRecDepth 100000 in
set_option maxHeartbeats 4000000 in
theorem b_Mod_execute_128 {l : Launch} {ad : Nat → Nat} {D : va_G} {cI : ClassId} {K : Option Value → Sg → Prop} {X : Nat → List Value → List Value → Sg → Prop} (hX : Cl l ad D cI mi_Mod_execute pt_Mod K X) {σ : Sg} {x1 : Int32} (nn_x1 : ¬ x1 < 0)  (hK : KV K (f_Mod_execute_128 σ x1)) : X 128 [.ref 15, .int x1, .null, .null, .null] [] σ := by
  unfold f_Mod_execute_128 at hK
  refine hX.1 136 I_Mod_execute_128 ok_Mod_execute_128 _ _ _ ?_
  refine s_Mod_stack nn_x1 (bnd_g hK fun r1 e1 hK => ?_)
  refine hX.1 439 I_Mod_execute_438 ok_Mod_execute_438 _ _ _ ?_
  exact hK
def f_Mod_execute_113 (σ : Sg) (x1 : Int32) (x2 : Int32) (x3 : Int32) : Sg := (if x3 = (0 : Int32) then (bnd (f_Mod_in σ x1 (80 : Int32) (95 : Int32)) fun r2 => (if r2.1 = (0 : Int32) then (bnd (f_Mod_in r2.2 x1 (64 : Int32) (79 : Int32)) fun r4 => (if r4.1 = (0 : Int32) then (if x2 = (0 : Int32) then (if x1 = (128 : Int32) then (f_Mod_execute_217 r4.2 x1) else (if x1 = (129 : Int32) then (f_Mod_execute_217 r4.2 x1) else (if x1 = (131 : Int32) then (f_Mod_execute_217 r4.2 x1) else (bnd (f_Mod_in r4.2 x1 (136 : Int32) (142 : Int32)) fun r10 => (if r10.1 = (0 : Int32) then (bnd (f_Mod_in r10.2 x1 (176 : Int32) (191 : Int32)) fun r12 => (if r12.1 = (0 : Int32) then (if x1 = (246 : Int32) then (f_Mod_execute_323 r12.2 x1) else (if x1 = (247 : Int32) then (f_Mod_execute_323 r12.2 x1) else (if x1 ≤ (253 : Int32) then (if x1 = (164 : Int32) then (f_Mod_execute_358 r12.2 x1) else (if x1 = (165 : Int32) then (f_Mod_execute_358 r12.2 x1) else (bnd (f_Mod_in r12.2 x1 (170 : Int32) (175 : Int32)) fun r19 => (if r19.1 = (0 : Int32) then (if x1 = (205 : Int32) then (f_Mod_execute_414 r19.2 x1) else (if x1 = (207 : Int32) then (f_Mod_execute_414 r19.2 x1) else (if x1 = (228 : Int32) then (f_Mod_execute_414 r19.2 x1) else (if x1 = (230 : Int32) then (f_Mod_execute_414 r19.2 x1) else (if x1 = (244 : Int32) then (f_Mod_execute_414 r19.2 x1) else (bnd (f_Mod_in r19.2 x1 (248 : Int32) (253 : Int32)) fun r26 => (if r26.1 = (0 : Int32) then (if x1 = (144 : Int32) then (bnd (up2 r26.2 15 16 (0 : Int32)) fun s29 => s29) else (bnd (up2 r26.2 15 16 (1 : Int32)) fun s30 => s30)) else (f_Mod_execute_414 r26.2 x1)))))))) else (f_Mod_execute_358 r19.2 x1))))) else (f_Mod_execute_323 r12.2 x1)))) else (if x1 < (184 : Int32) then (f_Mod_execute_272 r12.2 x1 (0 : Int32)) else (f_Mod_execute_272 r12.2 x1 (1 : Int32))))) else (bnd (f_Mod_moves r10.2 x1) fun r32 => r32)))))) else (bnd (f_Mod_jumps r4.2 x1) fun r33 => r33)) else (if x1 < (72 : Int32) then (f_Mod_execute_176 r4.2 (0 : Int32) (r4.2 17 (Int32.toNatClampNeg (x1 &&& (7 : Int32)))) (x1 &&& (7 : Int32))) else (f_Mod_execute_176 r4.2 (1 : Int32) (r4.2 17 (Int32.toNatClampNeg (x1 &&& (7 : Int32)))) (x1 &&& (7 : Int32)))))) else (f_Mod_execute_128 r2.2 x1))) else (f_Mod_execute_128 σ x1))
abbrev w_Mod_execute_113 : List (Nat × Option Nat) := [(15, some 3), (15, some 4), (15, some 5), (15, some 6), (15, some 7), (15, some 12), (15, some 13), (15, some 14), (15, some 15), (15, some 16), (15, some 17), (15, some 18), (15, some 19), (15, some 20), (15, some 21), (15, some 22), (15, some 23), (15, some 24), (15, some 25), (15, some 26), (15, some 27), (15, some 28), (15, some 30), (15, some 31), (15, some 32), (15, some 33), (15, some 34), (15, some 35), (16, none), (17, none), (18, none), (19, none)]
theorem p_Mod_execute_113 {P : Sg → Prop} (hP : WP w_Mod_execute_113 P) {σ : Sg} {x1 : Int32} {x2 : Int32} {x3 : Int32} (h : P σ) : P (f_Mod_execute_113 σ x1 x2 x3) := by
  unfold f_Mod_execute_113
  refine ite_z (fun _ => ?_) (fun _ => ?_)
  · refine bnd_zz (Z := PP P) (p_Mod_in (wsub hP rfl) h) fun r2 e2 q2 => ?_
    refine ite_z (fun _ => ?_) (fun _ => ?_)
    · refine bnd_zz (Z := PP P) (p_Mod_in (wsub hP rfl) q2) fun r4 e4 q4 => ?_
      refine ite_z (fun _ => ?_) (fun _ => ?_)
      · refine ite_z (fun _ => ?_) (fun _ => ?_)
        · refine ite_z (fun _ => ?_) (fun _ => ?_)
          · exact p_Mod_execute_217 (wsub hP rfl) q4
          · refine ite_z (fun _ => ?_) (fun _ => ?_)
            · exact p_Mod_execute_217 (wsub hP rfl) q4
            · refine ite_z (fun _ => ?_) (fun _ => ?_)
              · exact p_Mod_execute_217 (wsub hP rfl) q4
              · refine bnd_zz (Z := PP P) (p_Mod_in (wsub hP rfl) q4) fun r10 e10 q10 => ?_
                refine ite_z (fun _ => ?_) (fun _ => ?_)
                · refine bnd_zz (Z := PP P) (p_Mod_in (wsub hP rfl) q10) fun r12 e12 q12 => ?_
                  refine ite_z (fun _ => ?_) (fun _ => ?_)
                  · refine ite_z (fun _ => ?_) (fun _ => ?_)
                    · exact p_Mod_execute_323 (wsub hP rfl) q12
                    · refine ite_z (fun _ => ?_) (fun _ => ?_)
                      · exact p_Mod_execute_323 (wsub hP rfl) q12
                      · refine ite_z (fun _ => ?_) (fun _ => ?_)
                        · refine ite_z (fun _ => ?_) (fun _ => ?_)
                          · exact p_Mod_execute_358 (wsub hP rfl) q12
                          · refine ite_z (fun _ => ?_) (fun _ => ?_)
                            · exact p_Mod_execute_358 (wsub hP rfl) q12
                            · refine bnd_zz (Z := PP P) (p_Mod_in (wsub hP rfl) q12) fun r19 e19 q19 => ?_
                              refine ite_z (fun _ => ?_) (fun _ => ?_)
                              · refine ite_z (fun _ => ?_) (fun _ => ?_)
                                · exact p_Mod_execute_414 (wsub hP rfl) q19
                                · refine ite_z (fun _ => ?_) (fun _ => ?_)
                                  · exact p_Mod_execute_414 (wsub hP rfl) q19
                                  · refine ite_z (fun _ => ?_) (fun _ => ?_)
                                    · exact p_Mod_execute_414 (wsub hP rfl) q19
                                    · refine ite_z (fun _ => ?_) (fun _ => ?_)
                                      · exact p_Mod_execute_414 (wsub hP rfl) q19
                                      · refine ite_z (fun _ => ?_) (fun _ => ?_)
                                        · exact p_Mod_execute_414 (wsub hP rfl) q19
                                        · refine bnd_zz (Z := PP P) (p_Mod_in (wsub hP rfl) q19) fun r26 e26 q26 => ?_
                                          refine ite_z (fun _ => ?_) (fun _ => ?_)
                                          · refine ite_z (fun _ => ?_) (fun _ => ?_)
                                            · refine bnd_zz (Z := P) (hP _ _ _ _ (Or.inr (by decide)) q26) fun s29 e29 q29 => ?_
                                              exact q29
                                            · refine bnd_zz (Z := P) (hP _ _ _ _ (Or.inr (by decide)) q26) fun s30 e30 q30 => ?_
                                              exact q30
                                          · exact p_Mod_execute_414 (wsub hP rfl) q26
                              · exact p_Mod_execute_358 (wsub hP rfl) q19
                        · exact p_Mod_execute_323 (wsub hP rfl) q12
                  · refine ite_z (fun _ => ?_) (fun _ => ?_)
                    · exact p_Mod_execute_272 (wsub hP rfl) q12
                    · exact p_Mod_execute_272 (wsub hP rfl) q12
                · refine bnd_zz (Z := P) (p_Mod_moves (wsub hP rfl) q10) fun r32 e32 q32 => ?_
                  exact q32
        · refine bnd_zz (Z := P) (p_Mod_jumps (wsub hP rfl) q4) fun r33 e33 q33 => ?_
          exact q33
      · refine ite_z (fun _ => ?_) (fun _ => ?_)
        · exact p_Mod_execute_176 (wsub hP rfl) q4
        · exact p_Mod_execute_176 (wsub hP rfl) q4
    · exact p_Mod_execute_128 (wsub hP rfl) q2
  · exact p_Mod_execute_128 (wsub hP rfl) h
set_option maxRecDepth 100000 in
set_option maxHeartbeats 4000000 in
theorem b_Mod_execute_113 {l : Launch} {ad : Nat → Nat} {D : va_G} {cI : ClassId} {K : Option Value → Sg → Prop} {X : Nat → List Value → List Value → Sg → Prop} (hX : Cl l ad D cI mi_Mod_execute pt_Mod K X) {σ : Sg} {x1 : Int32} {x2 : Int32} {x3 : Int32} (nn_x1 : ¬ x1 < 0) (z_x2 : x2 = 0 ∨ x2 = 1) (v8_x2 : vp_in x2 8) (nn_x2 : ¬ x2 < 0) (z_x3 : x3 = 0 ∨ x3 = 1) (v8_x3 : vp_in x3 8) (nn_x3 : ¬ x3 < 0) (KY0 : KY σ) (OV0 : OV σ) (hK : KV K (f_Mod_execute_113 σ x1 x2 x3)) : X 113 [.ref 15, .int x1, .int x2, .int x3, .null] [] σ := by
  unfold f_Mod_execute_113 at hK
  refine hX.1 128 I_Mod_execute_113 ok_Mod_execute_113 _ _ _ ?_
  refine And.intro (fun h1 => ?_) (fun h1 => ?_)
  · have hK := ite_p hK h1
    refine s_Mod_in (bnd_g hK fun r2 e2 hK => ?_)
    have KY2 : KY r2.2 := by rw [← e2]; exact p_Mod_in (P := KY) (KYw rfl) KY0
    have OV2 : OV r2.2 := by rw [← e2]; exact p_Mod_in (P := OV) (OVw rfl) OV0
    have z2 : r2.1 = 0 ∨ r2.1 = 1 := by rw [← e2]; exact z_Mod_in
    refine And.intro (fun h3 => ?_) (fun h3 => ?_)
    · have hK := ite_p hK h3
      refine hX.1 175 I_Mod_execute_136 ok_Mod_execute_136 _ _ _ ?_
      refine s_Mod_in (bnd_g hK fun r4 e4 hK => ?_)
      have KY4 : KY r4.2 := by rw [← e4]; exact p_Mod_in (P := KY) (KYw rfl) KY2
      have OV4 : OV r4.2 := by rw [← e4]; exact p_Mod_in (P := OV) (OVw rfl) OV2
      have z4 : r4.1 = 0 ∨ r4.1 = 1 := by rw [← e4]; exact z_Mod_in
      refine And.intro (fun h5 => ?_) (fun h5 => ?_)
      · have hK := ite_p hK h5
        refine hX.1 196 I_Mod_execute_184 ok_Mod_execute_184 _ _ _ ?_
        refine And.intro (fun h6 => ?_) (fun h6 => ?_)
        · have hK := ite_p hK h6
          refine hX.1 217 I_Mod_execute_196 ok_Mod_execute_196 _ _ _ ?_
          refine And.intro (fun h7 => ?_) (fun h7 => ?_)
          · have hK := ite_p hK h7
            refine hX.fg [2, 3] ?_
            exact b_Mod_execute_217 hX nn_x1 OV4 hK
          · have hK := ite_n hK h7
            refine And.intro (fun h8 => ?_) (fun h8 => ?_)
            · have hK := ite_p hK h8
              refine hX.fg [2, 3] ?_
              exact b_Mod_execute_217 hX nn_x1 OV4 hK
            · have hK := ite_n hK h8
              refine And.intro (fun h9 => ?_) (fun h9 => ?_)
              · have hK := ite_p hK h9
                refine hX.fg [2, 3] ?_
                exact b_Mod_execute_217 hX nn_x1 OV4 hK
              · have hK := ite_n hK h9
                refine hX.1 246 I_Mod_execute_225 ok_Mod_execute_225 _ _ _ ?_
                refine s_Mod_in (bnd_g hK fun r10 e10 hK => ?_)
                have KY10 : KY r10.2 := by rw [← e10]; exact p_Mod_in (P := KY) (KYw rfl) KY4
                have OV10 : OV r10.2 := by rw [← e10]; exact p_Mod_in (P := OV) (OVw rfl) OV4
                have z10 : r10.1 = 0 ∨ r10.1 = 1 := by rw [← e10]; exact z_Mod_in
                refine And.intro (fun h11 => ?_) (fun h11 => ?_)
                · have hK := ite_p hK h11
                  refine hX.1 271 I_Mod_execute_246 ok_Mod_execute_246 _ _ _ ?_
                  refine s_Mod_in (bnd_g hK fun r12 e12 hK => ?_)
                  have KY12 : KY r12.2 := by rw [← e12]; exact p_Mod_in (P := KY) (KYw rfl) KY10
                  have OV12 : OV r12.2 := by rw [← e12]; exact p_Mod_in (P := OV) (OVw rfl) OV10
                  have z12 : r12.1 = 0 ∨ r12.1 = 1 := by rw [← e12]; exact z_Mod_in
                  refine And.intro (fun h13 => ?_) (fun h13 => ?_)
                  · have hK := ite_p hK h13
                    refine hX.1 323 I_Mod_execute_302 ok_Mod_execute_302 _ _ _ ?_
                    refine And.intro (fun h14 => ?_) (fun h14 => ?_)
                    · have hK := ite_p hK h14
                      refine hX.fg [2, 3] ?_
                      exact b_Mod_execute_323 hX nn_x1 OV12 hK
                    · have hK := ite_n hK h14
                      refine And.intro (fun h15 => ?_) (fun h15 => ?_)
                      · have hK := ite_p hK h15
                        refine hX.fg [2, 3] ?_
                        exact b_Mod_execute_323 hX nn_x1 OV12 hK
                      · have hK := ite_n hK h15
                        refine And.intro (fun h16 => ?_) (fun h16 => ?_)
                        · have hK := ite_p hK h16
                          refine hX.1 358 I_Mod_execute_331 ok_Mod_execute_331 _ _ _ ?_
                          refine And.intro (fun h17 => ?_) (fun h17 => ?_)
                          · have hK := ite_p hK h17
                            refine hX.fg [2, 3] ?_
                            exact b_Mod_execute_358 hX nn_x1 OV12 hK
                          · have hK := ite_n hK h17
                            refine And.intro (fun h18 => ?_) (fun h18 => ?_)
                            · have hK := ite_p hK h18
                              refine hX.fg [2, 3] ?_
                              exact b_Mod_execute_358 hX nn_x1 OV12 hK
                            · have hK := ite_n hK h18
                              refine s_Mod_in (bnd_g hK fun r19 e19 hK => ?_)
                              have KY19 : KY r19.2 := by rw [← e19]; exact p_Mod_in (P := KY) (KYw rfl) KY12
                              have OV19 : OV r19.2 := by rw [← e19]; exact p_Mod_in (P := OV) (OVw rfl) OV12
                              have z19 : r19.1 = 0 ∨ r19.1 = 1 := by rw [← e19]; exact z_Mod_in
                              refine And.intro (fun h20 => ?_) (fun h20 => ?_)
                              · have hK := ite_p hK h20
                                refine hX.1 414 I_Mod_execute_366 ok_Mod_execute_366 _ _ _ ?_
                                refine And.intro (fun h21 => ?_) (fun h21 => ?_)
                                · have hK := ite_p hK h21
                                  refine hX.fg [2, 3] ?_
                                  exact b_Mod_execute_414 hX nn_x1 KY19 hK
                                · have hK := ite_n hK h21
                                  refine And.intro (fun h22 => ?_) (fun h22 => ?_)
                                  · have hK := ite_p hK h22
                                    refine hX.fg [2, 3] ?_
                                    exact b_Mod_execute_414 hX nn_x1 KY19 hK
                                  · have hK := ite_n hK h22
                                    refine And.intro (fun h23 => ?_) (fun h23 => ?_)
                                    · have hK := ite_p hK h23
                                      refine hX.fg [2, 3] ?_
                                      exact b_Mod_execute_414 hX nn_x1 KY19 hK
                                    · have hK := ite_n hK h23
                                      refine And.intro (fun h24 => ?_) (fun h24 => ?_)
                                      · have hK := ite_p hK h24
                                        refine hX.fg [2, 3] ?_
                                        exact b_Mod_execute_414 hX nn_x1 KY19 hK
                                      · have hK := ite_n hK h24
                                        refine And.intro (fun h25 => ?_) (fun h25 => ?_)
                                        · have hK := ite_p hK h25
                                          refine hX.fg [2, 3] ?_
                                          exact b_Mod_execute_414 hX nn_x1 KY19 hK
                                        · have hK := ite_n hK h25
                                          refine s_Mod_in (bnd_g hK fun r26 e26 hK => ?_)
                                          have KY26 : KY r26.2 := by rw [← e26]; exact p_Mod_in (P := KY) (KYw rfl) KY19
                                          have z26 : r26.1 = 0 ∨ r26.1 = 1 := by rw [← e26]; exact z_Mod_in
                                          refine And.intro (fun h27 => ?_) (fun h27 => ?_)
                                          · have hK := ite_p hK h27
                                            refine hX.1 434 I_Mod_execute_422 ok_Mod_execute_422 _ _ _ ?_
                                            refine And.intro (fun h28 => ?_) (fun h28 => ?_)
                                            · have hK := ite_p hK h28
                                              refine hX.1 435 I_Mod_execute_434 ok_Mod_execute_434 _ _ _ ?_
                                              refine hX.1 438 I_Mod_execute_435 ok_Mod_execute_435 _ _ _ ?_
                                              refine And.intro (Or.inl rfl) (SG_g hK fun s29 e29 hK => ?_)
                                              refine hX.1 439 I_Mod_execute_438 ok_Mod_execute_438 _ _ _ ?_
                                              exact hK
                                            · have hK := ite_n hK h28
                                              refine hX.1 438 I_Mod_execute_435 ok_Mod_execute_435 _ _ _ ?_
                                              refine And.intro (Or.inr rfl) (SG_g hK fun s30 e30 hK => ?_)
                                              refine hX.1 439 I_Mod_execute_438 ok_Mod_execute_438 _ _ _ ?_
                                              exact hK
                                          · have hK := ite_n hK h27
                                            refine hX.fg [2, 3] ?_
                                            exact b_Mod_execute_414 hX nn_x1 KY26 hK
                              · have hK := ite_n hK h20
                                refine hX.fg [2, 3] ?_
                                exact b_Mod_execute_358 hX nn_x1 OV19 hK
                        · have hK := ite_n hK h16
                          refine hX.fg [2, 3] ?_
                          exact b_Mod_execute_323 hX nn_x1 OV12 hK
                  · have hK := ite_n hK h13
                    refine And.intro (fun h31 => ?_) (fun h31 => ?_)
                    · have hK := ite_p hK h31
                      refine hX.1 272 I_Mod_execute_271 ok_Mod_execute_271 _ _ _ ?_
                      refine hX.fg [2, 3] ?_
                      exact b_Mod_execute_272 hX nn_x1 (Or.inl rfl) (vin (by decide)) (by decide)  hK
                    · have hK := ite_n hK h31
                      refine hX.fg [2, 3] ?_
                      exact b_Mod_execute_272 hX nn_x1 (Or.inr rfl) (vin (by decide)) (by decide)  hK
                · have hK := ite_n hK h11
                  refine s_Mod_moves OV10 (bnd_g hK fun r32 e32 hK => ?_)
                  refine hX.1 439 I_Mod_execute_438 ok_Mod_execute_438 _ _ _ ?_
                  exact hK
        · have hK := ite_n hK h6
          refine s_Mod_jumps (bnd_g hK fun r33 e33 hK => ?_)
          refine hX.1 439 I_Mod_execute_438 ok_Mod_execute_438 _ _ _ ?_
          exact hK
      · have hK := ite_n hK h5
        refine And.intro (pk_andIn _ 3 rfl (by decide)) ?_
        refine And.intro (fun h34 => ?_) (fun h34 => ?_)
        · have hK := ite_p hK h34
          refine hX.1 176 I_Mod_execute_175 ok_Mod_execute_175 _ _ _ ?_
          refine hX.fg [0, 1, 2, 3] ?_
          exact b_Mod_execute_176 hX (Or.inl rfl) (vin (by decide)) (by decide) (pk_andIn _ 3 rfl (by decide))  hK
        · have hK := ite_n hK h34
          refine hX.fg [0, 1, 2, 3] ?_
          exact b_Mod_execute_176 hX (Or.inr rfl) (vin (by decide)) (by decide) (pk_andIn _ 3 rfl (by decide))  hK
    · have hK := ite_n hK h3
      refine hX.fg [2, 3] ?_
      exact b_Mod_execute_128 hX nn_x1  hK
  · have hK := ite_n hK h1
    refine hX.fg [2, 3] ?_
    exact b_Mod_execute_128 hX nn_x1  hK
def f_Mod_execute_89 (σ : Sg) (x1 : Int32) (x2 : Int32) (y0 : Int32) : Sg := (if (64 : Int32) ≤ x1 then (f_Mod_execute_113 σ x1 x2 y0) else (if (6 : Int32) ≤ (x1 &&& (7 : Int32)) then (f_Mod_execute_113 σ x1 x2 y0) else (bnd (f_Mod_combinations σ x1) fun r3 => r3)))
abbrev w_Mod_execute_89 : List (Nat × Option Nat) := [(15, some 3), (15, some 4), (15, some 5), (15, some 6), (15, some 7), (15, some 12), (15, some 13), (15, some 14), (15, some 15), (15, some 16), (15, some 17), (15, some 18), (15, some 19), (15, some 20), (15, some 21), (15, some 22), (15, some 23), (15, some 24), (15, some 25), (15, some 26), (15, some 27), (15, some 28), (15, some 30), (15, some 31), (15, some 32), (15, some 33), (15, some 34), (15, some 35), (16, none), (17, none), (18, none), (19, none)]
theorem p_Mod_execute_89 {P : Sg → Prop} (hP : WP w_Mod_execute_89 P) {σ : Sg} {x1 : Int32} {x2 : Int32} {y0 : Int32} (h : P σ) : P (f_Mod_execute_89 σ x1 x2 y0) := by
  unfold f_Mod_execute_89
  refine ite_z (fun _ => ?_) (fun _ => ?_)
  · exact p_Mod_execute_113 (wsub hP rfl) h
  · refine ite_z (fun _ => ?_) (fun _ => ?_)
    · exact p_Mod_execute_113 (wsub hP rfl) h
    · refine bnd_zz (Z := P) (p_Mod_combinations (wsub hP rfl) h) fun r3 e3 q3 => ?_
      exact q3
set_option maxRecDepth 100000 in
set_option maxHeartbeats 4000000 in
theorem b_Mod_execute_89 {l : Launch} {ad : Nat → Nat} {D : va_G} {cI : ClassId} {K : Option Value → Sg → Prop} {X : Nat → List Value → List Value → Sg → Prop} (hX : Cl l ad D cI mi_Mod_execute pt_Mod K X) {σ : Sg} {x1 : Int32} {x2 : Int32} {y0 : Int32} (nn_x1 : ¬ x1 < 0) (z_x2 : x2 = 0 ∨ x2 = 1) (v8_x2 : vp_in x2 8) (nn_x2 : ¬ x2 < 0) (z_y0 : y0 = 0 ∨ y0 = 1) (v8_y0 : vp_in y0 8) (nn_y0 : ¬ y0 < 0) (KY0 : KY σ) (OV0 : OV σ) (hK : KV K (f_Mod_execute_89 σ x1 x2 y0)) : X 89 [.ref 15, .int x1, .int x2, .null, .null] [.int y0] σ := by
  unfold f_Mod_execute_89 at hK
  refine hX.1 113 I_Mod_execute_89 ok_Mod_execute_89 _ _ _ ?_
  refine And.intro (fun h1 => ?_) (fun h1 => ?_)
  · have hK := ite_p hK h1
    exact b_Mod_execute_113 hX nn_x1 z_x2 v8_x2 nn_x2 z_y0 v8_y0 nn_y0 KY0 OV0 hK
  · have hK := ite_n hK h1
    refine And.intro (fun h2 => ?_) (fun h2 => ?_)
    · have hK := ite_p hK h2
      exact b_Mod_execute_113 hX nn_x1 z_x2 v8_x2 nn_x2 z_y0 v8_y0 nn_y0 KY0 OV0 hK
    · have hK := ite_n hK h2
      refine s_Mod_combinations OV0 (bnd_g hK fun r3 e3 hK => ?_)
      refine hX.1 439 I_Mod_execute_438 ok_Mod_execute_438 _ _ _ ?_
      exact hK
def f_Mod_execute_88 (σ : Sg) (x1 : Int32) (x2 : Int32) : Sg := (f_Mod_execute_89 σ x1 x2 (0 : Int32))
abbrev w_Mod_execute_88 : List (Nat × Option Nat) := [(15, some 3), (15, some 4), (15, some 5), (15, some 6), (15, some 7), (15, some 12), (15, some 13), (15, some 14), (15, some 15), (15, some 16), (15, some 17), (15, some 18), (15, some 19), (15, some 20), (15, some 21), (15, some 22), (15, some 23), (15, some 24), (15, some 25), (15, some 26), (15, some 27), (15, some 28), (15, some 30), (15, some 31), (15, some 32), (15, some 33), (15, some 34), (15, some 35), (16, none), (17, none), (18, none), (19, none)]
theorem p_Mod_execute_88 {P : Sg → Prop} (hP : WP w_Mod_execute_88 P) {σ : Sg} {x1 : Int32} {x2 : Int32} (h : P σ) : P (f_Mod_execute_88 σ x1 x2) := by
  unfold f_Mod_execute_88
  exact p_Mod_execute_89 (wsub hP rfl) h
set_option maxRecDepth 100000 in
set_option maxHeartbeats 4000000 in
theorem b_Mod_execute_88 {l : Launch} {ad : Nat → Nat} {D : va_G} {cI : ClassId} {K : Option Value → Sg → Prop} {X : Nat → List Value → List Value → Sg → Prop} (hX : Cl l ad D cI mi_Mod_execute pt_Mod K X) {σ : Sg} {x1 : Int32} {x2 : Int32} (nn_x1 : ¬ x1 < 0) (z_x2 : x2 = 0 ∨ x2 = 1) (v8_x2 : vp_in x2 8) (nn_x2 : ¬ x2 < 0) (KY0 : KY σ) (OV0 : OV σ) (hK : KV K (f_Mod_execute_88 σ x1 x2)) : X 88 [.ref 15, .int x1, .int x2, .null, .null] [] σ := by
  unfold f_Mod_execute_88 at hK
  refine hX.1 89 I_Mod_execute_88 ok_Mod_execute_88 _ _ _ ?_
  exact b_Mod_execute_89 hX nn_x1 z_x2 v8_x2 nn_x2 (Or.inl rfl) (vin (by decide)) (by decide) KY0 OV0 hK
def f_Mod_execute_63 (σ : Sg) (x1 : Int32) (y0 : Int32) : Sg := (if (32 : Int32) ≤ x1 then (f_Mod_execute_88 σ x1 y0) else (if (x1 &&& (7 : Int32)) ≤ (5 : Int32) then (f_Mod_execute_88 σ x1 y0) else (if x1 = (15 : Int32) then (f_Mod_execute_88 σ x1 y0) else (f_Mod_execute_89 σ x1 y0 (1 : Int32)))))
abbrev w_Mod_execute_63 : List (Nat × Option Nat) := [(15, some 3), (15, some 4), (15, some 5), (15, some 6), (15, some 7), (15, some 12), (15, some 13), (15, some 14), (15, some 15), (15, some 16), (15, some 17), (15, some 18), (15, some 19), (15, some 20), (15, some 21), (15, some 22), (15, some 23), (15, some 24), (15, some 25), (15, some 26), (15, some 27), (15, some 28), (15, some 30), (15, some 31), (15, some 32), (15, some 33), (15, some 34), (15, some 35), (16, none), (17, none), (18, none), (19, none)]
theorem p_Mod_execute_63 {P : Sg → Prop} (hP : WP w_Mod_execute_63 P) {σ : Sg} {x1 : Int32} {y0 : Int32} (h : P σ) : P (f_Mod_execute_63 σ x1 y0) := by
  unfold f_Mod_execute_63
  refine ite_z (fun _ => ?_) (fun _ => ?_)
  · exact p_Mod_execute_88 (wsub hP rfl) h
  · refine ite_z (fun _ => ?_) (fun _ => ?_)
    · exact p_Mod_execute_88 (wsub hP rfl) h
    · refine ite_z (fun _ => ?_) (fun _ => ?_)
      · exact p_Mod_execute_88 (wsub hP rfl) h
      · exact p_Mod_execute_89 (wsub hP rfl) h
set_option maxRecDepth 100000 in
set_option maxHeartbeats 4000000 in
theorem b_Mod_execute_63 {l : Launch} {ad : Nat → Nat} {D : va_G} {cI : ClassId} {K : Option Value → Sg → Prop} {X : Nat → List Value → List Value → Sg → Prop} (hX : Cl l ad D cI mi_Mod_execute pt_Mod K X) {σ : Sg} {x1 : Int32} {y0 : Int32} (nn_x1 : ¬ x1 < 0) (z_y0 : y0 = 0 ∨ y0 = 1) (v8_y0 : vp_in y0 8) (nn_y0 : ¬ y0 < 0) (KY0 : KY σ) (OV0 : OV σ) (hK : KV K (f_Mod_execute_63 σ x1 y0)) : X 63 [.ref 15, .int x1, .null, .null, .null] [.int y0] σ := by
  unfold f_Mod_execute_63 at hK
  refine hX.1 88 I_Mod_execute_63 ok_Mod_execute_63 _ _ _ ?_
  refine And.intro (fun h1 => ?_) (fun h1 => ?_)
  · have hK := ite_p hK h1
    exact b_Mod_execute_88 hX nn_x1 z_y0 v8_y0 nn_y0 KY0 OV0 hK
  · have hK := ite_n hK h1
    refine And.intro (fun h2 => ?_) (fun h2 => ?_)
    · have hK := ite_p hK h2
      exact b_Mod_execute_88 hX nn_x1 z_y0 v8_y0 nn_y0 KY0 OV0 hK
    · have hK := ite_n hK h2
      refine And.intro (fun h3 => ?_) (fun h3 => ?_)
      · have hK := ite_p hK h3
        exact b_Mod_execute_88 hX nn_x1 z_y0 v8_y0 nn_y0 KY0 OV0 hK
      · have hK := ite_n hK h3
        exact b_Mod_execute_89 hX nn_x1 z_y0 v8_y0 nn_y0 (Or.inr rfl) (vin (by decide)) (by decide) KY0 OV0 hK
def f_Mod_execute_58 (σ : Sg) (x1 : Int32) : Sg := (f_Mod_execute_63 σ x1 (1 : Int32))
abbrev w_Mod_execute_58 : List (Nat × Option Nat) := [(15, some 3), (15, some 4), (15, some 5), (15, some 6), (15, some 7), (15, some 12), (15, some 13), (15, some 14), (15, some 15), (15, some 16), (15, some 17), (15, some 18), (15, some 19), (15, some 20), (15, some 21), (15, some 22), (15, some 23), (15, some 24), (15, some 25), (15, some 26), (15, some 27), (15, some 28), (15, some 30), (15, some 31), (15, some 32), (15, some 33), (15, some 34), (15, some 35), (16, none), (17, none), (18, none), (19, none)]
theorem p_Mod_execute_58 {P : Sg → Prop} (hP : WP w_Mod_execute_58 P) {σ : Sg} {x1 : Int32} (h : P σ) : P (f_Mod_execute_58 σ x1) := by
  unfold f_Mod_execute_58
  exact p_Mod_execute_63 (wsub hP rfl) h
set_option maxRecDepth 100000 in
set_option maxHeartbeats 4000000 in
theorem b_Mod_execute_58 {l : Launch} {ad : Nat → Nat} {D : va_G} {cI : ClassId} {K : Option Value → Sg → Prop} {X : Nat → List Value → List Value → Sg → Prop} (hX : Cl l ad D cI mi_Mod_execute pt_Mod K X) {σ : Sg} {x1 : Int32} (nn_x1 : ¬ x1 < 0) (KY0 : KY σ) (OV0 : OV σ) (hK : KV K (f_Mod_execute_58 σ x1)) : X 58 [.ref 15, .int x1, .null, .null, .null] [] σ := by
  unfold f_Mod_execute_58 at hK
  refine hX.1 62 I_Mod_execute_58 ok_Mod_execute_58 _ _ _ ?_
  exact b_Mod_execute_63 hX nn_x1 (Or.inr rfl) (vin (by decide)) (by decide) KY0 OV0 hK
def f_Mod_execute_23 (σ : Sg) (x1 : Int32) : Sg := (if x1 = (195 : Int32) then (f_Mod_execute_58 σ x1) else (if x1 = (226 : Int32) then (f_Mod_execute_58 σ x1) else (if x1 = (232 : Int32) then (f_Mod_execute_58 σ x1) else (if x1 = (233 : Int32) then (f_Mod_execute_58 σ x1) else (if x1 = (235 : Int32) then (f_Mod_execute_58 σ x1) else (f_Mod_execute_63 σ x1 (0 : Int32)))))))
abbrev w_Mod_execute_23 : List (Nat × Option Nat) := [(15, some 3), (15, some 4), (15, some 5), (15, some 6), (15, some 7), (15, some 12), (15, some 13), (15, some 14), (15, some 15), (15, some 16), (15, some 17), (15, some 18), (15, some 19), (15, some 20), (15, some 21), (15, some 22), (15, some 23), (15, some 24), (15, some 25), (15, some 26), (15, some 27), (15, some 28), (15, some 30), (15, some 31), (15, some 32), (15, some 33), (15, some 34), (15, some 35), (16, none), (17, none), (18, none), (19, none)]
theorem p_Mod_execute_23 {P : Sg → Prop} (hP : WP w_Mod_execute_23 P) {σ : Sg} {x1 : Int32} (h : P σ) : P (f_Mod_execute_23 σ x1) := by
  unfold f_Mod_execute_23
  refine ite_z (fun _ => ?_) (fun _ => ?_)
  · exact p_Mod_execute_58 (wsub hP rfl) h
  · refine ite_z (fun _ => ?_) (fun _ => ?_)
    · exact p_Mod_execute_58 (wsub hP rfl) h
    · refine ite_z (fun _ => ?_) (fun _ => ?_)
      · exact p_Mod_execute_58 (wsub hP rfl) h
      · refine ite_z (fun _ => ?_) (fun _ => ?_)
        · exact p_Mod_execute_58 (wsub hP rfl) h
        · refine ite_z (fun _ => ?_) (fun _ => ?_)
          · exact p_Mod_execute_58 (wsub hP rfl) h
          · exact p_Mod_execute_63 (wsub hP rfl) h
set_option maxRecDepth 100000 in
set_option maxHeartbeats 4000000 in
theorem b_Mod_execute_23 {l : Launch} {ad : Nat → Nat} {D : va_G} {cI : ClassId} {K : Option Value → Sg → Prop} {X : Nat → List Value → List Value → Sg → Prop} (hX : Cl l ad D cI mi_Mod_execute pt_Mod K X) {σ : Sg} {x1 : Int32} (nn_x1 : ¬ x1 < 0) (KY0 : KY σ) (OV0 : OV σ) (hK : KV K (f_Mod_execute_23 σ x1)) : X 23 [.ref 15, .int x1, .null, .null, .null] [] σ := by
  unfold f_Mod_execute_23 at hK
  refine hX.1 58 I_Mod_execute_23 ok_Mod_execute_23 _ _ _ ?_
  refine And.intro (fun h1 => ?_) (fun h1 => ?_)
  · have hK := ite_p hK h1
    exact b_Mod_execute_58 hX nn_x1 KY0 OV0 hK
  · have hK := ite_n hK h1
    refine And.intro (fun h2 => ?_) (fun h2 => ?_)
    · have hK := ite_p hK h2
      exact b_Mod_execute_58 hX nn_x1 KY0 OV0 hK
    · have hK := ite_n hK h2
      refine And.intro (fun h3 => ?_) (fun h3 => ?_)
      · have hK := ite_p hK h3
        exact b_Mod_execute_58 hX nn_x1 KY0 OV0 hK
      · have hK := ite_n hK h3
        refine And.intro (fun h4 => ?_) (fun h4 => ?_)
        · have hK := ite_p hK h4
          exact b_Mod_execute_58 hX nn_x1 KY0 OV0 hK
        · have hK := ite_n hK h4
          refine And.intro (fun h5 => ?_) (fun h5 => ?_)
          · have hK := ite_p hK h5
            exact b_Mod_execute_58 hX nn_x1 KY0 OV0 hK
          · have hK := ite_n hK h5
            refine hX.1 63 I_Mod_execute_62 ok_Mod_execute_62 _ _ _ ?_
            exact b_Mod_execute_63 hX nn_x1 (Or.inl rfl) (vin (by decide)) (by decide) KY0 OV0 hK
def f_Mod_execute (σ : Sg) (a1 : Int32) : Sg := (bnd (f_Mod_in σ a1 (112 : Int32) (127 : Int32)) fun r1 => (if r1.1 = (0 : Int32) then (f_Mod_execute_23 r1.2 a1) else (if a1 = (122 : Int32) then (f_Mod_execute_23 r1.2 a1) else (if a1 = (123 : Int32) then (f_Mod_execute_23 r1.2 a1) else (f_Mod_execute_58 r1.2 a1)))))
abbrev w_Mod_execute : List (Nat × Option Nat) := [(15, some 3), (15, some 4), (15, some 5), (15, some 6), (15, some 7), (15, some 12), (15, some 13), (15, some 14), (15, some 15), (15, some 16), (15, some 17), (15, some 18), (15, some 19), (15, some 20), (15, some 21), (15, some 22), (15, some 23), (15, some 24), (15, some 25), (15, some 26), (15, some 27), (15, some 28), (15, some 30), (15, some 31), (15, some 32), (15, some 33), (15, some 34), (15, some 35), (16, none), (17, none), (18, none), (19, none)]
theorem p_Mod_execute {P : Sg → Prop} (hP : WP w_Mod_execute P) {σ : Sg} {a1 : Int32} (h : P σ) : P (f_Mod_execute σ a1) := by
  unfold f_Mod_execute
  refine bnd_zz (Z := PP P) (p_Mod_in (wsub hP rfl) h) fun r1 e1 q1 => ?_
  refine ite_z (fun _ => ?_) (fun _ => ?_)
  · exact p_Mod_execute_23 (wsub hP rfl) q1
  · refine ite_z (fun _ => ?_) (fun _ => ?_)
    · exact p_Mod_execute_23 (wsub hP rfl) q1
    · refine ite_z (fun _ => ?_) (fun _ => ?_)
      · exact p_Mod_execute_23 (wsub hP rfl) q1
      · exact p_Mod_execute_58 (wsub hP rfl) q1
set_option maxRecDepth 100000 in
set_option maxHeartbeats 4000000 in
theorem s_Mod_execute {l : Launch} {ad : Nat → Nat} {D : va_G} {cI : ClassId} {σ : Sg} {a1 : Int32} {K : Option Value → Sg → Prop} (nn_a1 : ¬ a1 < 0) (KY0 : KY σ) (OV0 : OV σ) (hK : KV K (f_Mod_execute σ a1)) : MetJ l ad D cI mi_Mod_execute [.ref 15, .int a1] σ K := by
  refine met_of mi_Mod_execute pt_Mod pt_Mod_in rfl pl_Mod rfl (Nat.le_of_ble_eq_true rfl) fun X hX => ?_
  have hX : Cl l ad D cI mi_Mod_execute pt_Mod K X := hX
  show X 0 [.ref 15, .int a1, .null, .null, .null] [] σ
  unfold f_Mod_execute at hK
  refine hX.1 23 I_Mod_execute_0 ok_Mod_execute_0 _ _ _ ?_
  refine s_Mod_in (bnd_g hK fun r1 e1 hK => ?_)
  have KY1 : KY r1.2 := by rw [← e1]; exact p_Mod_in (P := KY) (KYw rfl) KY0
  have OV1 : OV r1.2 := by rw [← e1]; exact p_Mod_in (P := OV) (OVw rfl) OV0
  have z1 : r1.1 = 0 ∨ r1.1 = 1 := by rw [← e1]; exact z_Mod_in
  refine And.intro (fun h2 => ?_) (fun h2 => ?_)
  · have hK := ite_p hK h2
    exact b_Mod_execute_23 hX nn_a1 KY1 OV1 hK
  · have hK := ite_n hK h2
    refine And.intro (fun h3 => ?_) (fun h3 => ?_)
    · have hK := ite_p hK h3
      exact b_Mod_execute_23 hX nn_a1 KY1 OV1 hK
    · have hK := ite_n hK h3
      refine And.intro (fun h4 => ?_) (fun h4 => ?_)
      · have hK := ite_p hK h4
        exact b_Mod_execute_23 hX nn_a1 KY1 OV1 hK
      · have hK := ite_n hK h4
        exact b_Mod_execute_58 hX nn_a1 KY1 OV1 hK
def I_Mod_isPrefix_0 : List IT := [(0, .iload_n 0, 1, 0, 0, []), (1, .bipush 38, 2, 38, 0, []), (3, .if_icmp .eq 35, 3, 0, 38, []), (6, .iload_n 0, 1, 0, 0, []), (7, .bipush 46, 2, 46, 0, []), (9, .if_icmp .eq 29, 3, 0, 38, []), (12, .iload_n 0, 1, 0, 0, []), (13, .bipush 54, 2, 54, 0, []), (15, .if_icmp .eq 23, 3, 0, 38, []), (18, .iload_n 0, 1, 0, 0, []), (19, .bipush 62, 2, 62, 0, []), (21, .if_icmp .eq 17, 3, 0, 38, []), (24, .iload_n 0, 1, 0, 0, []), (25, .sipush 242, 3, 242, 0, []), (28, .if_icmp .eq 10, 3, 0, 38, []), (31, .iload_n 0, 1, 0, 0, []), (32, .sipush 243, 3, 243, 0, []), (35, .if_icmp .ne 7, 3, 0, 42, [])]
theorem ok_Mod_isPrefix_0 : blkOK b_Mod_isPrefix pt_Mod 38 I_Mod_isPrefix_0 = true := by decide +kernel
def I_Mod_isPrefix_38 : List IT := [(38, .iconst 1, 1, 1, 0, []), (39, .goto 4, 3, 0, 43, [])]
theorem ok_Mod_isPrefix_38 : blkOK b_Mod_isPrefix pt_Mod 42 I_Mod_isPrefix_38 = true := by decide +kernel
def I_Mod_isPrefix_42 : List IT := [(42, .iconst 0, 1, 0, 0, [])]
theorem ok_Mod_isPrefix_42 : blkOK b_Mod_isPrefix pt_Mod 43 I_Mod_isPrefix_42 = true := by decide +kernel
def I_Mod_isPrefix_43 : List IT := [(43, .ireturn, 1, 0, 0, [])]
theorem ok_Mod_isPrefix_43 : blkOK b_Mod_isPrefix pt_Mod 44 I_Mod_isPrefix_43 = true := by decide +kernel
def f_Mod_isPrefix (σ : Sg) (a1 : Int32) : Int32 × Sg := (if a1 = (38 : Int32) then ((1 : Int32), σ) else (if a1 = (46 : Int32) then ((1 : Int32), σ) else (if a1 = (54 : Int32) then ((1 : Int32), σ) else (if a1 = (62 : Int32) then ((1 : Int32), σ) else (if a1 = (242 : Int32) then ((1 : Int32), σ) else (if a1 = (243 : Int32) then ((1 : Int32), σ) else ((0 : Int32), σ)))))))
theorem z_Mod_isPrefix {σ : Sg} {a1 : Int32}   : (f_Mod_isPrefix σ a1).1 = 0 ∨ (f_Mod_isPrefix σ a1).1 = 1 := by
  show Zb (f_Mod_isPrefix σ a1)
  unfold f_Mod_isPrefix
  refine ite_z (fun h1 => ?_) (fun h1 => ?_)
  · exact (Or.inr rfl)
  · refine ite_z (fun h2 => ?_) (fun h2 => ?_)
    · exact (Or.inr rfl)
    · refine ite_z (fun h3 => ?_) (fun h3 => ?_)
      · exact (Or.inr rfl)
      · refine ite_z (fun h4 => ?_) (fun h4 => ?_)
        · exact (Or.inr rfl)
        · refine ite_z (fun h5 => ?_) (fun h5 => ?_)
          · exact (Or.inr rfl)
          · refine ite_z (fun h6 => ?_) (fun h6 => ?_)
            · exact (Or.inr rfl)
            · exact (Or.inl rfl)
abbrev w_Mod_isPrefix : List (Nat × Option Nat) := []
theorem p_Mod_isPrefix {P : Sg → Prop} (hP : WP w_Mod_isPrefix P) {σ : Sg} {a1 : Int32} (h : P σ) : PP P (f_Mod_isPrefix σ a1) := by
  unfold f_Mod_isPrefix
  refine ite_z (fun _ => ?_) (fun _ => ?_)
  · exact h
  · refine ite_z (fun _ => ?_) (fun _ => ?_)
    · exact h
    · refine ite_z (fun _ => ?_) (fun _ => ?_)
      · exact h
      · refine ite_z (fun _ => ?_) (fun _ => ?_)
        · exact h
        · refine ite_z (fun _ => ?_) (fun _ => ?_)
          · exact h
          · refine ite_z (fun _ => ?_) (fun _ => ?_)
            · exact h
            · exact h
set_option maxRecDepth 100000 in
set_option maxHeartbeats 4000000 in
theorem s_Mod_isPrefix {l : Launch} {ad : Nat → Nat} {D : va_G} {cI : ClassId} {σ : Sg} {a1 : Int32} {K : Option Value → Sg → Prop}   (hK : KI K (f_Mod_isPrefix σ a1)) : MetJ l ad D cI mi_Mod_isPrefix [.int a1] σ K := by
  refine met_of mi_Mod_isPrefix pt_Mod pt_Mod_in rfl pl_Mod rfl (Nat.le_of_ble_eq_true rfl) fun X hX => ?_
  have hX : Cl l ad D cI mi_Mod_isPrefix pt_Mod K X := hX
  show X 0 [.int a1] [] σ
  unfold f_Mod_isPrefix at hK
  refine hX.1 38 I_Mod_isPrefix_0 ok_Mod_isPrefix_0 _ _ _ ?_
  refine And.intro (fun h1 => ?_) (fun h1 => ?_)
  · have hK := ite_p hK h1
    refine hX.1 42 I_Mod_isPrefix_38 ok_Mod_isPrefix_38 _ _ _ ?_
    refine hX.1 44 I_Mod_isPrefix_43 ok_Mod_isPrefix_43 _ _ _ ?_
    exact And.intro (Or.inr rfl) hK
  · have hK := ite_n hK h1
    refine And.intro (fun h2 => ?_) (fun h2 => ?_)
    · have hK := ite_p hK h2
      refine hX.1 42 I_Mod_isPrefix_38 ok_Mod_isPrefix_38 _ _ _ ?_
      refine hX.1 44 I_Mod_isPrefix_43 ok_Mod_isPrefix_43 _ _ _ ?_
      exact And.intro (Or.inr rfl) hK
    · have hK := ite_n hK h2
      refine And.intro (fun h3 => ?_) (fun h3 => ?_)
      · have hK := ite_p hK h3
        refine hX.1 42 I_Mod_isPrefix_38 ok_Mod_isPrefix_38 _ _ _ ?_
        refine hX.1 44 I_Mod_isPrefix_43 ok_Mod_isPrefix_43 _ _ _ ?_
        exact And.intro (Or.inr rfl) hK
      · have hK := ite_n hK h3
        refine And.intro (fun h4 => ?_) (fun h4 => ?_)
        · have hK := ite_p hK h4
          refine hX.1 42 I_Mod_isPrefix_38 ok_Mod_isPrefix_38 _ _ _ ?_
          refine hX.1 44 I_Mod_isPrefix_43 ok_Mod_isPrefix_43 _ _ _ ?_
          exact And.intro (Or.inr rfl) hK
        · have hK := ite_n hK h4
          refine And.intro (fun h5 => ?_) (fun h5 => ?_)
          · have hK := ite_p hK h5
            refine hX.1 42 I_Mod_isPrefix_38 ok_Mod_isPrefix_38 _ _ _ ?_
            refine hX.1 44 I_Mod_isPrefix_43 ok_Mod_isPrefix_43 _ _ _ ?_
            exact And.intro (Or.inr rfl) hK
          · have hK := ite_n hK h5
            refine And.intro (fun h6 => ?_) (fun h6 => ?_)
            · have hK := ite_p hK h6
              refine hX.1 42 I_Mod_isPrefix_38 ok_Mod_isPrefix_38 _ _ _ ?_
              refine hX.1 44 I_Mod_isPrefix_43 ok_Mod_isPrefix_43 _ _ _ ?_
              exact And.intro (Or.inr rfl) hK
            · have hK := ite_n hK h6
              refine hX.1 43 I_Mod_isPrefix_42 ok_Mod_isPrefix_42 _ _ _ ?_
              refine hX.1 44 I_Mod_isPrefix_43 ok_Mod_isPrefix_43 _ _ _ ?_
              exact And.intro (Or.inl rfl) hK
theorem pre_ov {σ : Sg} {x : Int32} {r : Int32 × Sg} (e : f_Mod_isPrefix σ x = r) (h2 : ¬ r.1 = 0) (h4 : ¬ 64 ≤ x) : ((x >>> ((3 : Int32) &&& 31)) - 4 < 0 ∨ vp_in ((x >>> ((3 : Int32) &&& 31)) - 4) 4) := by
  subst e
  unfold f_Mod_isPrefix at h2
  by_cases a1 : x = 38
  · subst a1; exact Or.inr (vin (by decide))
  by_cases a2 : x = 46
  · subst a2; exact Or.inr (vin (by decide))
  by_cases a3 : x = 54
  · subst a3; exact Or.inr (vin (by decide))
  by_cases a4 : x = 62
  · subst a4; exact Or.inr (vin (by decide))
  by_cases a5 : x = 242
  · subst a5; exact absurd (by decide) h4
  by_cases a6 : x = 243
  · subst a6; exact absurd (by decide) h4
  rw [if_neg a1, if_neg a2, if_neg a3, if_neg a4, if_neg a5, if_neg a6] at h2
  exact absurd rfl h2
def I_Mod_instruct_0 : List IT := [(0, .aload_n 0, 1, 0, 0, []), (1, .aload_n 0, 1, 0, 0, []), (2, .getfield 22, 3, 0, 0, []), (5, .putfield 193, 3, 0, 0, []), (8, .aload_n 0, 1, 0, 0, []), (9, .iconst (-1), 1, (-1), 0, []), (10, .putfield 70, 3, 0, 0, []), (13, .aload_n 0, 1, 0, 0, []), (14, .iconst (-1), 1, (-1), 0, []), (15, .putfield 187, 3, 0, 0, []), (18, .aload_n 0, 1, 0, 0, []), (19, .iconst 0, 1, 0, 0, []), (20, .putfield 157, 3, 0, 0, []), (23, .iconst 0, 1, 0, 0, []), (24, .istore_n 1, 1, 0, 0, []), (25, .aload_n 0, 1, 0, 0, []), (26, .invokevirtual 50, 3, 0, 0, []), (29, .istore_n 2, 1, 0, 0, [])]
theorem ok_Mod_instruct_0 : blkOK b_Mod_instruct pt_Mod 30 I_Mod_instruct_0 = true := by decide +kernel
def I_Mod_instruct_30 : List IT := [(30, .iload_n 2, 1, 0, 0, []), (31, .invokestatic 237, 3, 0, 0, []), (34, .ifCond .eq 61, 3, 0, 95, []), (37, .iload_n 1, 1, 0, 0, []), (38, .iconst 3, 1, 3, 0, []), (39, .if_icmp .ge 56, 3, 0, 95, []), (42, .aload_n 0, 1, 0, 0, []), (43, .iload_n 2, 1, 0, 0, []), (44, .bipush 64, 2, 64, 0, []), (46, .if_icmp .ge 11, 3, 0, 57, []), (49, .iload_n 2, 1, 0, 0, []), (50, .iconst 3, 1, 3, 0, []), (51, .ishr, 1, 0, 0, []), (52, .iconst 4, 1, 4, 0, []), (53, .isub, 1, 0, 0, []), (54, .goto 7, 3, 0, 61, [])]
theorem ok_Mod_instruct_30 : blkOK b_Mod_instruct pt_Mod 57 I_Mod_instruct_30 = true := by decide +kernel
def I_Mod_instruct_57 : List IT := [(57, .aload_n 0, 1, 0, 0, []), (58, .getfield 70, 3, 0, 0, [])]
theorem ok_Mod_instruct_57 : blkOK b_Mod_instruct pt_Mod 61 I_Mod_instruct_57 = true := by decide +kernel
def I_Mod_instruct_61 : List IT := [(61, .putfield 70, 3, 0, 0, []), (64, .aload_n 0, 1, 0, 0, []), (65, .iload_n 2, 1, 0, 0, []), (66, .sipush 242, 3, 242, 0, []), (69, .if_icmp .lt 7, 3, 0, 76, []), (72, .iload_n 2, 1, 0, 0, []), (73, .goto 7, 3, 0, 80, [])]
theorem ok_Mod_instruct_61 : blkOK b_Mod_instruct pt_Mod 76 I_Mod_instruct_61 = true := by decide +kernel
def I_Mod_instruct_76 : List IT := [(76, .aload_n 0, 1, 0, 0, []), (77, .getfield 187, 3, 0, 0, [])]
theorem ok_Mod_instruct_76 : blkOK b_Mod_instruct pt_Mod 80 I_Mod_instruct_76 = true := by decide +kernel
def I_Mod_instruct_80 : List IT := [(80, .putfield 187, 3, 0, 0, []), (83, .iload_n 1, 1, 0, 0, []), (84, .iconst 1, 1, 1, 0, []), (85, .iadd, 1, 0, 0, []), (86, .istore_n 1, 1, 0, 0, []), (87, .aload_n 0, 1, 0, 0, []), (88, .invokevirtual 50, 3, 0, 0, []), (91, .istore_n 2, 1, 0, 0, []), (92, .goto (-62), 3, 0, 30, [])]
theorem ok_Mod_instruct_80 : blkOK b_Mod_instruct pt_Mod 95 I_Mod_instruct_80 = true := by decide +kernel
def I_Mod_instruct_95 : List IT := [(95, .aload_n 0, 1, 0, 0, []), (96, .iload_n 2, 1, 0, 0, []), (97, .invokestatic 237, 3, 0, 0, []), (100, .putfield 157, 3, 0, 0, []), (103, .aload_n 0, 1, 0, 0, []), (104, .getfield 157, 3, 0, 0, []), (107, .ifCond .ne 8, 3, 0, 115, []), (110, .aload_n 0, 1, 0, 0, []), (111, .iload_n 2, 1, 0, 0, []), (112, .invokevirtual 240, 3, 0, 0, [])]
theorem ok_Mod_instruct_95 : blkOK b_Mod_instruct pt_Mod 115 I_Mod_instruct_95 = true := by decide +kernel
def I_Mod_instruct_115 : List IT := [(115, .aload_n 0, 1, 0, 0, []), (116, .getfield 157, 3, 0, 0, []), (119, .ifCond .eq 17, 3, 0, 136, []), (122, .aload_n 0, 1, 0, 0, []), (123, .aload_n 0, 1, 0, 0, []), (124, .getfield 193, 3, 0, 0, []), (127, .putfield 22, 3, 0, 0, []), (130, .aload_n 0, 1, 0, 0, []), (131, .bipush 6, 2, 6, 0, []), (133, .invokevirtual 170, 3, 0, 0, [])]
theorem ok_Mod_instruct_115 : blkOK b_Mod_instruct pt_Mod 136 I_Mod_instruct_115 = true := by decide +kernel
def I_Mod_instruct_136 : List IT := [(136, .return_, 1, 0, 0, [])]
theorem ok_Mod_instruct_136 : blkOK b_Mod_instruct pt_Mod 137 I_Mod_instruct_136 = true := by decide +kernel
def f_Mod_instruct_115 (σ : Sg)  : Sg := (if (σ 15 16) = (0 : Int32) then σ else (bnd (up2 σ 15 3 (σ 15 9)) fun s2 => bnd (f_Mod_interrupt s2 (6 : Int32)) fun r3 => r3))
abbrev w_Mod_instruct_115 : List (Nat × Option Nat) := [(15, some 3), (15, some 4), (15, some 7), (16, none), (17, none), (18, none)]
theorem p_Mod_instruct_115 {P : Sg → Prop} (hP : WP w_Mod_instruct_115 P) {σ : Sg}  (h : P σ) : P (f_Mod_instruct_115 σ ) := by
  unfold f_Mod_instruct_115
  refine ite_z (fun _ => ?_) (fun _ => ?_)
  · exact h
  · refine bnd_zz (Z := P) (hP _ _ _ _ (Or.inr (by decide)) h) fun s2 e2 q2 => ?_
    refine bnd_zz (Z := P) (p_Mod_interrupt (wsub hP rfl) q2) fun r3 e3 q3 => ?_
    exact q3
set_option maxRecDepth 100000 in
set_option maxHeartbeats 4000000 in
theorem b_Mod_instruct_115 {l : Launch} {ad : Nat → Nat} {D : va_G} {cI : ClassId} {K : Option Value → Sg → Prop} {X : Nat → List Value → List Value → Sg → Prop} (hX : Cl l ad D cI mi_Mod_instruct pt_Mod K X) {σ : Sg}    (hK : KV K (f_Mod_instruct_115 σ )) : X 115 [.ref 15, .null, .null] [] σ := by
  unfold f_Mod_instruct_115 at hK
  refine hX.1 136 I_Mod_instruct_115 ok_Mod_instruct_115 _ _ _ ?_
  refine And.intro (fun h1 => ?_) (fun h1 => ?_)
  · have hK := ite_p hK h1
    refine hX.1 137 I_Mod_instruct_136 ok_Mod_instruct_136 _ _ _ ?_
    exact hK
  · have hK := ite_n hK h1
    refine And.intro trivial (SG_g hK fun s2 e2 hK => ?_)
    refine s_Mod_interrupt (bnd_g hK fun r3 e3 hK => ?_)
    refine hX.1 137 I_Mod_instruct_136 ok_Mod_instruct_136 _ _ _ ?_
    exact hK
def f_Mod_instruct_95 (σ : Sg) (x2 : Int32) : Sg := (bnd (f_Mod_isPrefix σ x2) fun r1 => bnd (up2 r1.2 15 16 r1.1) fun s2 => (if (s2 15 16) = (0 : Int32) then (bnd (f_Mod_execute s2 x2) fun r4 => (f_Mod_instruct_115 r4)) else (f_Mod_instruct_115 s2)))
abbrev w_Mod_instruct_95 : List (Nat × Option Nat) := [(15, some 3), (15, some 4), (15, some 5), (15, some 6), (15, some 7), (15, some 12), (15, some 13), (15, some 14), (15, some 15), (15, some 16), (15, some 17), (15, some 18), (15, some 19), (15, some 20), (15, some 21), (15, some 22), (15, some 23), (15, some 24), (15, some 25), (15, some 26), (15, some 27), (15, some 28), (15, some 30), (15, some 31), (15, some 32), (15, some 33), (15, some 34), (15, some 35), (16, none), (17, none), (18, none), (19, none)]
theorem p_Mod_instruct_95 {P : Sg → Prop} (hP : WP w_Mod_instruct_95 P) {σ : Sg} {x2 : Int32} (h : P σ) : P (f_Mod_instruct_95 σ x2) := by
  unfold f_Mod_instruct_95
  refine bnd_zz (Z := PP P) (p_Mod_isPrefix (wsub hP rfl) h) fun r1 e1 q1 => ?_
  refine bnd_zz (Z := P) (hP _ _ _ _ (Or.inr (by decide)) q1) fun s2 e2 q2 => ?_
  refine ite_z (fun _ => ?_) (fun _ => ?_)
  · refine bnd_zz (Z := P) (p_Mod_execute (wsub hP rfl) q2) fun r4 e4 q4 => ?_
    exact p_Mod_instruct_115 (wsub hP rfl) q4
  · exact p_Mod_instruct_115 (wsub hP rfl) q2
set_option maxRecDepth 100000 in
set_option maxHeartbeats 4000000 in
theorem b_Mod_instruct_95 {l : Launch} {ad : Nat → Nat} {D : va_G} {cI : ClassId} {K : Option Value → Sg → Prop} {X : Nat → List Value → List Value → Sg → Prop} (hX : Cl l ad D cI mi_Mod_instruct pt_Mod K X) {σ : Sg} {x2 : Int32} (nn_x2 : ¬ x2 < 0) (KY0 : KY σ) (OV0 : OV σ) (hK : KV K (f_Mod_instruct_95 σ x2)) : X 95 [.ref 15, .null, .int x2] [] σ := by
  unfold f_Mod_instruct_95 at hK
  refine hX.1 115 I_Mod_instruct_95 ok_Mod_instruct_95 _ _ _ ?_
  refine s_Mod_isPrefix (bnd_g hK fun r1 e1 hK => ?_)
  have KY1 : KY r1.2 := by rw [← e1]; exact p_Mod_isPrefix (P := KY) (KYw rfl) KY0
  have OV1 : OV r1.2 := by rw [← e1]; exact p_Mod_isPrefix (P := OV) (OVw rfl) OV0
  have z1 : r1.1 = 0 ∨ r1.1 = 1 := by rw [← e1]; exact z_Mod_isPrefix
  refine And.intro z1 (SG_g hK fun s2 e2 hK => ?_)
  have KY2 : KY s2 := by rw [← e2]; exact KYw (W := [(15, some 16)]) rfl _ _ _ _ (Or.inr (by decide)) KY1
  have OV2 : OV s2 := by rw [← e2]; exact OVw (W := [(15, some 16)]) rfl _ _ _ _ (Or.inr (by decide)) OV1
  refine And.intro (fun h3 => ?_) (fun h3 => ?_)
  · have hK := ite_p hK h3
    refine s_Mod_execute nn_x2 KY2 OV2 (bnd_g hK fun r4 e4 hK => ?_)
    refine hX.fg [2] ?_
    exact b_Mod_instruct_115 hX  hK
  · have hK := ite_n hK h3
    refine hX.fg [2] ?_
    exact b_Mod_instruct_115 hX  hK
def f_Mod_instruct_30_c3 (σ : Sg) (x2 : Int32) : Sg := (bnd (f_Mod_isPrefix σ x2) fun r1 => (if r1.1 = (0 : Int32) then (f_Mod_instruct_95 r1.2 x2) else (f_Mod_instruct_95 r1.2 x2)))
abbrev w_Mod_instruct_30_c3 : List (Nat × Option Nat) := [(15, some 3), (15, some 4), (15, some 5), (15, some 6), (15, some 7), (15, some 12), (15, some 13), (15, some 14), (15, some 15), (15, some 16), (15, some 17), (15, some 18), (15, some 19), (15, some 20), (15, some 21), (15, some 22), (15, some 23), (15, some 24), (15, some 25), (15, some 26), (15, some 27), (15, some 28), (15, some 30), (15, some 31), (15, some 32), (15, some 33), (15, some 34), (15, some 35), (16, none), (17, none), (18, none), (19, none)]
theorem p_Mod_instruct_30_c3 {P : Sg → Prop} (hP : WP w_Mod_instruct_30_c3 P) {σ : Sg} {x2 : Int32} (h : P σ) : P (f_Mod_instruct_30_c3 σ x2) := by
  unfold f_Mod_instruct_30_c3
  refine bnd_zz (Z := PP P) (p_Mod_isPrefix (wsub hP rfl) h) fun r1 e1 q1 => ?_
  refine ite_z (fun _ => ?_) (fun _ => ?_)
  · exact p_Mod_instruct_95 (wsub hP rfl) q1
  · exact p_Mod_instruct_95 (wsub hP rfl) q1
set_option maxRecDepth 100000 in
set_option maxHeartbeats 4000000 in
theorem b_Mod_instruct_30_c3 {l : Launch} {ad : Nat → Nat} {D : va_G} {cI : ClassId} {K : Option Value → Sg → Prop} {X : Nat → List Value → List Value → Sg → Prop} (hX : Cl l ad D cI mi_Mod_instruct pt_Mod K X) {σ : Sg} {x2 : Int32} (nn_x2 : ¬ x2 < 0) (KY0 : KY σ) (OV0 : OV σ) (hK : KV K (f_Mod_instruct_30_c3 σ x2)) : X 30 [.ref 15, .int ((((0 : Int32) + (1 : Int32)) + (1 : Int32)) + (1 : Int32)), .int x2] [] σ := by
  unfold f_Mod_instruct_30_c3 at hK
  refine hX.1 57 I_Mod_instruct_30 ok_Mod_instruct_30 _ _ _ ?_
  refine s_Mod_isPrefix (bnd_g hK fun r1 e1 hK => ?_)
  have KY1 : KY r1.2 := by rw [← e1]; exact p_Mod_isPrefix (P := KY) (KYw rfl) KY0
  have OV1 : OV r1.2 := by rw [← e1]; exact p_Mod_isPrefix (P := OV) (OVw rfl) OV0
  have z1 : r1.1 = 0 ∨ r1.1 = 1 := by rw [← e1]; exact z_Mod_isPrefix
  refine And.intro (fun h2 => ?_) (fun h2 => ?_)
  · have hK := ite_p hK h2
    refine hX.fg [1] ?_
    exact b_Mod_instruct_95 hX nn_x2 KY1 OV1 hK
  · have hK := ite_n hK h2
    refine And.intro (fun _ => ?_) (fun h => absurd (by decide) h)
    refine hX.fg [1] ?_
    exact b_Mod_instruct_95 hX nn_x2 KY1 OV1 hK
def f_Mod_instruct_80_c2 (σ : Sg) (y0 : Int32) : Sg := (bnd (up2 σ 15 11 y0) fun s1 => bnd (f_Mod_next s1) fun r2 => (f_Mod_instruct_30_c3 r2.2 r2.1))
abbrev w_Mod_instruct_80_c2 : List (Nat × Option Nat) := [(15, some 3), (15, some 4), (15, some 5), (15, some 6), (15, some 7), (15, some 11), (15, some 12), (15, some 13), (15, some 14), (15, some 15), (15, some 16), (15, some 17), (15, some 18), (15, some 19), (15, some 20), (15, some 21), (15, some 22), (15, some 23), (15, some 24), (15, some 25), (15, some 26), (15, some 27), (15, some 28), (15, some 30), (15, some 31), (15, some 32), (15, some 33), (15, some 34), (15, some 35), (16, none), (17, none), (18, none), (19, none)]
theorem p_Mod_instruct_80_c2 {P : Sg → Prop} (hP : WP w_Mod_instruct_80_c2 P) {σ : Sg} {y0 : Int32} (h : P σ) : P (f_Mod_instruct_80_c2 σ y0) := by
  unfold f_Mod_instruct_80_c2
  refine bnd_zz (Z := P) (hP _ _ _ _ (Or.inr (by decide)) h) fun s1 e1 q1 => ?_
  refine bnd_zz (Z := PP P) (p_Mod_next (wsub hP rfl) q1) fun r2 e2 q2 => ?_
  exact p_Mod_instruct_30_c3 (wsub hP rfl) q2
set_option maxRecDepth 100000 in
set_option maxHeartbeats 4000000 in
theorem b_Mod_instruct_80_c2 {l : Launch} {ad : Nat → Nat} {D : va_G} {cI : ClassId} {K : Option Value → Sg → Prop} {X : Nat → List Value → List Value → Sg → Prop} (hX : Cl l ad D cI mi_Mod_instruct pt_Mod K X) {σ : Sg} {y0 : Int32}  (KY0 : KY σ) (MB0 : MB σ) (OV0 : OV σ) (hK : KV K (f_Mod_instruct_80_c2 σ y0)) : X 80 [.ref 15, .int (((0 : Int32) + (1 : Int32)) + (1 : Int32)), .null] [.int y0, .ref 15] σ := by
  unfold f_Mod_instruct_80_c2 at hK
  refine hX.1 95 I_Mod_instruct_80 ok_Mod_instruct_80 _ _ _ ?_
  refine And.intro trivial (SG_g hK fun s1 e1 hK => ?_)
  have MB1 : MB s1 := by rw [← e1]; exact MBw (W := [(15, some 11)]) rfl _ _ _ _ (Or.inr (by decide)) MB0
  have KY1 : KY s1 := by rw [← e1]; exact KYw (W := [(15, some 11)]) rfl _ _ _ _ (Or.inr (by decide)) KY0
  have OV1 : OV s1 := by rw [← e1]; exact OVw (W := [(15, some 11)]) rfl _ _ _ _ (Or.inr (by decide)) OV0
  refine s_Mod_next (bnd_g hK fun r2 e2 hK => ?_)
  have MB2 : MB r2.2 := by rw [← e2]; exact p_Mod_next (P := MB) (MBw rfl) MB1
  have KY2 : KY r2.2 := by rw [← e2]; exact p_Mod_next (P := KY) (KYw rfl) KY1
  have OV2 : OV r2.2 := by rw [← e2]; exact p_Mod_next (P := OV) (OVw rfl) OV1
  have NX2 : ¬ r2.1 < 0 := by have h9 := MB2; rw [← e2] at h9 ⊢; exact nx_ok h9
  exact b_Mod_instruct_30_c3 hX NX2 KY2 OV2 hK
def f_Mod_instruct_61_c2 (σ : Sg) (x2 : Int32) (y0 : Int32) : Sg := (bnd (up2 σ 15 10 y0) fun s1 => (if x2 < (242 : Int32) then (f_Mod_instruct_80_c2 s1 (s1 15 11)) else (f_Mod_instruct_80_c2 s1 x2)))
abbrev w_Mod_instruct_61_c2 : List (Nat × Option Nat) := [(15, some 3), (15, some 4), (15, some 5), (15, some 6), (15, some 7), (15, some 10), (15, some 11), (15, some 12), (15, some 13), (15, some 14), (15, some 15), (15, some 16), (15, some 17), (15, some 18), (15, some 19), (15, some 20), (15, some 21), (15, some 22), (15, some 23), (15, some 24), (15, some 25), (15, some 26), (15, some 27), (15, some 28), (15, some 30), (15, some 31), (15, some 32), (15, some 33), (15, some 34), (15, some 35), (16, none), (17, none), (18, none), (19, none)]
theorem p_Mod_instruct_61_c2 {P : Sg → Prop} (hP : WP w_Mod_instruct_61_c2 P) {σ : Sg} {x2 : Int32} {y0 : Int32} (h : P σ) : P (f_Mod_instruct_61_c2 σ x2 y0) := by
  unfold f_Mod_instruct_61_c2
  refine bnd_zz (Z := P) (hP _ _ _ _ (Or.inr (by decide)) h) fun s1 e1 q1 => ?_
  refine ite_z (fun _ => ?_) (fun _ => ?_)
  · exact p_Mod_instruct_80_c2 (wsub hP rfl) q1
  · exact p_Mod_instruct_80_c2 (wsub hP rfl) q1
set_option maxRecDepth 100000 in
set_option maxHeartbeats 4000000 in
theorem b_Mod_instruct_61_c2 {l : Launch} {ad : Nat → Nat} {D : va_G} {cI : ClassId} {K : Option Value → Sg → Prop} {X : Nat → List Value → List Value → Sg → Prop} (hX : Cl l ad D cI mi_Mod_instruct pt_Mod K X) {σ : Sg} {x2 : Int32} {y0 : Int32} (nn_x2 : ¬ x2 < 0) (KY0 : KY σ) (MB0 : MB σ) (ho : y0 < 0 ∨ vp_in y0 4) (hK : KV K (f_Mod_instruct_61_c2 σ x2 y0)) : X 61 [.ref 15, .int (((0 : Int32) + (1 : Int32)) + (1 : Int32)), .int x2] [.int y0, .ref 15] σ := by
  unfold f_Mod_instruct_61_c2 at hK
  refine hX.1 76 I_Mod_instruct_61 ok_Mod_instruct_61 _ _ _ ?_
  refine And.intro trivial (SG_g hK fun s1 e1 hK => ?_)
  have MB1 : MB s1 := by rw [← e1]; exact MBw (W := [(15, some 10)]) rfl _ _ _ _ (Or.inr (by decide)) MB0
  have KY1 : KY s1 := by rw [← e1]; exact KYw (W := [(15, some 10)]) rfl _ _ _ _ (Or.inr (by decide)) KY0
  have OV1 : OV s1 := by rw [← e1]; exact ho
  refine And.intro (fun h2 => ?_) (fun h2 => ?_)
  · have hK := ite_p hK h2
    refine hX.1 80 I_Mod_instruct_76 ok_Mod_instruct_76 _ _ _ ?_
    refine hX.fg [2] ?_
    exact b_Mod_instruct_80_c2 hX KY1 MB1 OV1 hK
  · have hK := ite_n hK h2
    refine hX.fg [2] ?_
    exact b_Mod_instruct_80_c2 hX KY1 MB1 OV1 hK
def f_Mod_instruct_30_c2 (σ : Sg) (x2 : Int32) : Sg := (bnd (f_Mod_isPrefix σ x2) fun r1 => (if r1.1 = (0 : Int32) then (f_Mod_instruct_95 r1.2 x2) else (if (64 : Int32) ≤ x2 then (f_Mod_instruct_61_c2 r1.2 x2 (r1.2 15 10)) else (f_Mod_instruct_61_c2 r1.2 x2 ((x2 >>> ((3 : Int32) &&& 31 : Int32)) - (4 : Int32))))))
abbrev w_Mod_instruct_30_c2 : List (Nat × Option Nat) := [(15, some 3), (15, some 4), (15, some 5), (15, some 6), (15, some 7), (15, some 10), (15, some 11), (15, some 12), (15, some 13), (15, some 14), (15, some 15), (15, some 16), (15, some 17), (15, some 18), (15, some 19), (15, some 20), (15, some 21), (15, some 22), (15, some 23), (15, some 24), (15, some 25), (15, some 26), (15, some 27), (15, some 28), (15, some 30), (15, some 31), (15, some 32), (15, some 33), (15, some 34), (15, some 35), (16, none), (17, none), (18, none), (19, none)]
theorem p_Mod_instruct_30_c2 {P : Sg → Prop} (hP : WP w_Mod_instruct_30_c2 P) {σ : Sg} {x2 : Int32} (h : P σ) : P (f_Mod_instruct_30_c2 σ x2) := by
  unfold f_Mod_instruct_30_c2
  refine bnd_zz (Z := PP P) (p_Mod_isPrefix (wsub hP rfl) h) fun r1 e1 q1 => ?_
  refine ite_z (fun _ => ?_) (fun _ => ?_)
  · exact p_Mod_instruct_95 (wsub hP rfl) q1
  · refine ite_z (fun _ => ?_) (fun _ => ?_)
    · exact p_Mod_instruct_61_c2 (wsub hP rfl) q1
    · exact p_Mod_instruct_61_c2 (wsub hP rfl) q1
set_option maxRecDepth 100000 in
set_option maxHeartbeats 4000000 in
theorem b_Mod_instruct_30_c2 {l : Launch} {ad : Nat → Nat} {D : va_G} {cI : ClassId} {K : Option Value → Sg → Prop} {X : Nat → List Value → List Value → Sg → Prop} (hX : Cl l ad D cI mi_Mod_instruct pt_Mod K X) {σ : Sg} {x2 : Int32} (nn_x2 : ¬ x2 < 0) (KY0 : KY σ) (MB0 : MB σ) (OV0 : OV σ) (hK : KV K (f_Mod_instruct_30_c2 σ x2)) : X 30 [.ref 15, .int (((0 : Int32) + (1 : Int32)) + (1 : Int32)), .int x2] [] σ := by
  unfold f_Mod_instruct_30_c2 at hK
  refine hX.1 57 I_Mod_instruct_30 ok_Mod_instruct_30 _ _ _ ?_
  refine s_Mod_isPrefix (bnd_g hK fun r1 e1 hK => ?_)
  have MB1 : MB r1.2 := by rw [← e1]; exact p_Mod_isPrefix (P := MB) (MBw rfl) MB0
  have KY1 : KY r1.2 := by rw [← e1]; exact p_Mod_isPrefix (P := KY) (KYw rfl) KY0
  have OV1 : OV r1.2 := by rw [← e1]; exact p_Mod_isPrefix (P := OV) (OVw rfl) OV0
  have z1 : r1.1 = 0 ∨ r1.1 = 1 := by rw [← e1]; exact z_Mod_isPrefix
  refine And.intro (fun h2 => ?_) (fun h2 => ?_)
  · have hK := ite_p hK h2
    refine hX.fg [1] ?_
    exact b_Mod_instruct_95 hX nn_x2 KY1 OV1 hK
  · have hK := ite_n hK h2
    refine And.intro (fun h => absurd h (by decide)) (fun _ => ?_)
    refine And.intro (fun h3 => ?_) (fun h3 => ?_)
    · have hK := ite_p hK h3
      refine hX.1 61 I_Mod_instruct_57 ok_Mod_instruct_57 _ _ _ ?_
      exact b_Mod_instruct_61_c2 hX nn_x2 KY1 MB1 OV1 hK
    · have hK := ite_n hK h3
      exact b_Mod_instruct_61_c2 hX nn_x2 KY1 MB1 (pre_ov e1 (by assumption) (by assumption)) hK
def f_Mod_instruct_80_c1 (σ : Sg) (y0 : Int32) : Sg := (bnd (up2 σ 15 11 y0) fun s1 => bnd (f_Mod_next s1) fun r2 => (f_Mod_instruct_30_c2 r2.2 r2.1))
abbrev w_Mod_instruct_80_c1 : List (Nat × Option Nat) := [(15, some 3), (15, some 4), (15, some 5), (15, some 6), (15, some 7), (15, some 10), (15, some 11), (15, some 12), (15, some 13), (15, some 14), (15, some 15), (15, some 16), (15, some 17), (15, some 18), (15, some 19), (15, some 20), (15, some 21), (15, some 22), (15, some 23), (15, some 24), (15, some 25), (15, some 26), (15, some 27), (15, some 28), (15, some 30), (15, some 31), (15, some 32), (15, some 33), (15, some 34), (15, some 35), (16, none), (17, none), (18, none), (19, none)]
theorem p_Mod_instruct_80_c1 {P : Sg → Prop} (hP : WP w_Mod_instruct_80_c1 P) {σ : Sg} {y0 : Int32} (h : P σ) : P (f_Mod_instruct_80_c1 σ y0) := by
  unfold f_Mod_instruct_80_c1
  refine bnd_zz (Z := P) (hP _ _ _ _ (Or.inr (by decide)) h) fun s1 e1 q1 => ?_
  refine bnd_zz (Z := PP P) (p_Mod_next (wsub hP rfl) q1) fun r2 e2 q2 => ?_
  exact p_Mod_instruct_30_c2 (wsub hP rfl) q2
set_option maxRecDepth 100000 in
set_option maxHeartbeats 4000000 in
theorem b_Mod_instruct_80_c1 {l : Launch} {ad : Nat → Nat} {D : va_G} {cI : ClassId} {K : Option Value → Sg → Prop} {X : Nat → List Value → List Value → Sg → Prop} (hX : Cl l ad D cI mi_Mod_instruct pt_Mod K X) {σ : Sg} {y0 : Int32}  (KY0 : KY σ) (MB0 : MB σ) (OV0 : OV σ) (hK : KV K (f_Mod_instruct_80_c1 σ y0)) : X 80 [.ref 15, .int ((0 : Int32) + (1 : Int32)), .null] [.int y0, .ref 15] σ := by
  unfold f_Mod_instruct_80_c1 at hK
  refine hX.1 95 I_Mod_instruct_80 ok_Mod_instruct_80 _ _ _ ?_
  refine And.intro trivial (SG_g hK fun s1 e1 hK => ?_)
  have MB1 : MB s1 := by rw [← e1]; exact MBw (W := [(15, some 11)]) rfl _ _ _ _ (Or.inr (by decide)) MB0
  have KY1 : KY s1 := by rw [← e1]; exact KYw (W := [(15, some 11)]) rfl _ _ _ _ (Or.inr (by decide)) KY0
  have OV1 : OV s1 := by rw [← e1]; exact OVw (W := [(15, some 11)]) rfl _ _ _ _ (Or.inr (by decide)) OV0
  refine s_Mod_next (bnd_g hK fun r2 e2 hK => ?_)
  have MB2 : MB r2.2 := by rw [← e2]; exact p_Mod_next (P := MB) (MBw rfl) MB1
  have KY2 : KY r2.2 := by rw [← e2]; exact p_Mod_next (P := KY) (KYw rfl) KY1
  have OV2 : OV r2.2 := by rw [← e2]; exact p_Mod_next (P := OV) (OVw rfl) OV1
  have NX2 : ¬ r2.1 < 0 := by have h9 := MB2; rw [← e2] at h9 ⊢; exact nx_ok h9
  exact b_Mod_instruct_30_c2 hX NX2 KY2 MB2 OV2 hK
def f_Mod_instruct_61_c1 (σ : Sg) (x2 : Int32) (y0 : Int32) : Sg := (bnd (up2 σ 15 10 y0) fun s1 => (if x2 < (242 : Int32) then (f_Mod_instruct_80_c1 s1 (s1 15 11)) else (f_Mod_instruct_80_c1 s1 x2)))
abbrev w_Mod_instruct_61_c1 : List (Nat × Option Nat) := [(15, some 3), (15, some 4), (15, some 5), (15, some 6), (15, some 7), (15, some 10), (15, some 11), (15, some 12), (15, some 13), (15, some 14), (15, some 15), (15, some 16), (15, some 17), (15, some 18), (15, some 19), (15, some 20), (15, some 21), (15, some 22), (15, some 23), (15, some 24), (15, some 25), (15, some 26), (15, some 27), (15, some 28), (15, some 30), (15, some 31), (15, some 32), (15, some 33), (15, some 34), (15, some 35), (16, none), (17, none), (18, none), (19, none)]
theorem p_Mod_instruct_61_c1 {P : Sg → Prop} (hP : WP w_Mod_instruct_61_c1 P) {σ : Sg} {x2 : Int32} {y0 : Int32} (h : P σ) : P (f_Mod_instruct_61_c1 σ x2 y0) := by
  unfold f_Mod_instruct_61_c1
  refine bnd_zz (Z := P) (hP _ _ _ _ (Or.inr (by decide)) h) fun s1 e1 q1 => ?_
  refine ite_z (fun _ => ?_) (fun _ => ?_)
  · exact p_Mod_instruct_80_c1 (wsub hP rfl) q1
  · exact p_Mod_instruct_80_c1 (wsub hP rfl) q1
set_option maxRecDepth 100000 in
set_option maxHeartbeats 4000000 in
theorem b_Mod_instruct_61_c1 {l : Launch} {ad : Nat → Nat} {D : va_G} {cI : ClassId} {K : Option Value → Sg → Prop} {X : Nat → List Value → List Value → Sg → Prop} (hX : Cl l ad D cI mi_Mod_instruct pt_Mod K X) {σ : Sg} {x2 : Int32} {y0 : Int32} (nn_x2 : ¬ x2 < 0) (KY0 : KY σ) (MB0 : MB σ) (ho : y0 < 0 ∨ vp_in y0 4) (hK : KV K (f_Mod_instruct_61_c1 σ x2 y0)) : X 61 [.ref 15, .int ((0 : Int32) + (1 : Int32)), .int x2] [.int y0, .ref 15] σ := by
  unfold f_Mod_instruct_61_c1 at hK
  refine hX.1 76 I_Mod_instruct_61 ok_Mod_instruct_61 _ _ _ ?_
  refine And.intro trivial (SG_g hK fun s1 e1 hK => ?_)
  have MB1 : MB s1 := by rw [← e1]; exact MBw (W := [(15, some 10)]) rfl _ _ _ _ (Or.inr (by decide)) MB0
  have KY1 : KY s1 := by rw [← e1]; exact KYw (W := [(15, some 10)]) rfl _ _ _ _ (Or.inr (by decide)) KY0
  have OV1 : OV s1 := by rw [← e1]; exact ho
  refine And.intro (fun h2 => ?_) (fun h2 => ?_)
  · have hK := ite_p hK h2
    refine hX.1 80 I_Mod_instruct_76 ok_Mod_instruct_76 _ _ _ ?_
    refine hX.fg [2] ?_
    exact b_Mod_instruct_80_c1 hX KY1 MB1 OV1 hK
  · have hK := ite_n hK h2
    refine hX.fg [2] ?_
    exact b_Mod_instruct_80_c1 hX KY1 MB1 OV1 hK
def f_Mod_instruct_30_c1 (σ : Sg) (x2 : Int32) : Sg := (bnd (f_Mod_isPrefix σ x2) fun r1 => (if r1.1 = (0 : Int32) then (f_Mod_instruct_95 r1.2 x2) else (if (64 : Int32) ≤ x2 then (f_Mod_instruct_61_c1 r1.2 x2 (r1.2 15 10)) else (f_Mod_instruct_61_c1 r1.2 x2 ((x2 >>> ((3 : Int32) &&& 31 : Int32)) - (4 : Int32))))))
abbrev w_Mod_instruct_30_c1 : List (Nat × Option Nat) := [(15, some 3), (15, some 4), (15, some 5), (15, some 6), (15, some 7), (15, some 10), (15, some 11), (15, some 12), (15, some 13), (15, some 14), (15, some 15), (15, some 16), (15, some 17), (15, some 18), (15, some 19), (15, some 20), (15, some 21), (15, some 22), (15, some 23), (15, some 24), (15, some 25), (15, some 26), (15, some 27), (15, some 28), (15, some 30), (15, some 31), (15, some 32), (15, some 33), (15, some 34), (15, some 35), (16, none), (17, none), (18, none), (19, none)]
theorem p_Mod_instruct_30_c1 {P : Sg → Prop} (hP : WP w_Mod_instruct_30_c1 P) {σ : Sg} {x2 : Int32} (h : P σ) : P (f_Mod_instruct_30_c1 σ x2) := by
  unfold f_Mod_instruct_30_c1
  refine bnd_zz (Z := PP P) (p_Mod_isPrefix (wsub hP rfl) h) fun r1 e1 q1 => ?_
  refine ite_z (fun _ => ?_) (fun _ => ?_)
  · exact p_Mod_instruct_95 (wsub hP rfl) q1
  · refine ite_z (fun _ => ?_) (fun _ => ?_)
    · exact p_Mod_instruct_61_c1 (wsub hP rfl) q1
    · exact p_Mod_instruct_61_c1 (wsub hP rfl) q1
set_option maxRecDepth 100000 in
set_option maxHeartbeats 4000000 in
theorem b_Mod_instruct_30_c1 {l : Launch} {ad : Nat → Nat} {D : va_G} {cI : ClassId} {K : Option Value → Sg → Prop} {X : Nat → List Value → List Value → Sg → Prop} (hX : Cl l ad D cI mi_Mod_instruct pt_Mod K X) {σ : Sg} {x2 : Int32} (nn_x2 : ¬ x2 < 0) (KY0 : KY σ) (MB0 : MB σ) (OV0 : OV σ) (hK : KV K (f_Mod_instruct_30_c1 σ x2)) : X 30 [.ref 15, .int ((0 : Int32) + (1 : Int32)), .int x2] [] σ := by
  unfold f_Mod_instruct_30_c1 at hK
  refine hX.1 57 I_Mod_instruct_30 ok_Mod_instruct_30 _ _ _ ?_
  refine s_Mod_isPrefix (bnd_g hK fun r1 e1 hK => ?_)
  have MB1 : MB r1.2 := by rw [← e1]; exact p_Mod_isPrefix (P := MB) (MBw rfl) MB0
  have KY1 : KY r1.2 := by rw [← e1]; exact p_Mod_isPrefix (P := KY) (KYw rfl) KY0
  have OV1 : OV r1.2 := by rw [← e1]; exact p_Mod_isPrefix (P := OV) (OVw rfl) OV0
  have z1 : r1.1 = 0 ∨ r1.1 = 1 := by rw [← e1]; exact z_Mod_isPrefix
  refine And.intro (fun h2 => ?_) (fun h2 => ?_)
  · have hK := ite_p hK h2
    refine hX.fg [1] ?_
    exact b_Mod_instruct_95 hX nn_x2 KY1 OV1 hK
  · have hK := ite_n hK h2
    refine And.intro (fun h => absurd h (by decide)) (fun _ => ?_)
    refine And.intro (fun h3 => ?_) (fun h3 => ?_)
    · have hK := ite_p hK h3
      refine hX.1 61 I_Mod_instruct_57 ok_Mod_instruct_57 _ _ _ ?_
      exact b_Mod_instruct_61_c1 hX nn_x2 KY1 MB1 OV1 hK
    · have hK := ite_n hK h3
      exact b_Mod_instruct_61_c1 hX nn_x2 KY1 MB1 (pre_ov e1 (by assumption) (by assumption)) hK
def f_Mod_instruct_80_c0 (σ : Sg) (y0 : Int32) : Sg := (bnd (up2 σ 15 11 y0) fun s1 => bnd (f_Mod_next s1) fun r2 => (f_Mod_instruct_30_c1 r2.2 r2.1))
abbrev w_Mod_instruct_80_c0 : List (Nat × Option Nat) := [(15, some 3), (15, some 4), (15, some 5), (15, some 6), (15, some 7), (15, some 10), (15, some 11), (15, some 12), (15, some 13), (15, some 14), (15, some 15), (15, some 16), (15, some 17), (15, some 18), (15, some 19), (15, some 20), (15, some 21), (15, some 22), (15, some 23), (15, some 24), (15, some 25), (15, some 26), (15, some 27), (15, some 28), (15, some 30), (15, some 31), (15, some 32), (15, some 33), (15, some 34), (15, some 35), (16, none), (17, none), (18, none), (19, none)]
theorem p_Mod_instruct_80_c0 {P : Sg → Prop} (hP : WP w_Mod_instruct_80_c0 P) {σ : Sg} {y0 : Int32} (h : P σ) : P (f_Mod_instruct_80_c0 σ y0) := by
  unfold f_Mod_instruct_80_c0
  refine bnd_zz (Z := P) (hP _ _ _ _ (Or.inr (by decide)) h) fun s1 e1 q1 => ?_
  refine bnd_zz (Z := PP P) (p_Mod_next (wsub hP rfl) q1) fun r2 e2 q2 => ?_
  exact p_Mod_instruct_30_c1 (wsub hP rfl) q2
set_option maxRecDepth 100000 in
set_option maxHeartbeats 4000000 in
theorem b_Mod_instruct_80_c0 {l : Launch} {ad : Nat → Nat} {D : va_G} {cI : ClassId} {K : Option Value → Sg → Prop} {X : Nat → List Value → List Value → Sg → Prop} (hX : Cl l ad D cI mi_Mod_instruct pt_Mod K X) {σ : Sg} {y0 : Int32}  (KY0 : KY σ) (MB0 : MB σ) (OV0 : OV σ) (hK : KV K (f_Mod_instruct_80_c0 σ y0)) : X 80 [.ref 15, .int (0 : Int32), .null] [.int y0, .ref 15] σ := by
  unfold f_Mod_instruct_80_c0 at hK
  refine hX.1 95 I_Mod_instruct_80 ok_Mod_instruct_80 _ _ _ ?_
  refine And.intro trivial (SG_g hK fun s1 e1 hK => ?_)
  have MB1 : MB s1 := by rw [← e1]; exact MBw (W := [(15, some 11)]) rfl _ _ _ _ (Or.inr (by decide)) MB0
  have KY1 : KY s1 := by rw [← e1]; exact KYw (W := [(15, some 11)]) rfl _ _ _ _ (Or.inr (by decide)) KY0
  have OV1 : OV s1 := by rw [← e1]; exact OVw (W := [(15, some 11)]) rfl _ _ _ _ (Or.inr (by decide)) OV0
  refine s_Mod_next (bnd_g hK fun r2 e2 hK => ?_)
  have MB2 : MB r2.2 := by rw [← e2]; exact p_Mod_next (P := MB) (MBw rfl) MB1
  have KY2 : KY r2.2 := by rw [← e2]; exact p_Mod_next (P := KY) (KYw rfl) KY1
  have OV2 : OV r2.2 := by rw [← e2]; exact p_Mod_next (P := OV) (OVw rfl) OV1
  have NX2 : ¬ r2.1 < 0 := by have h9 := MB2; rw [← e2] at h9 ⊢; exact nx_ok h9
  exact b_Mod_instruct_30_c1 hX NX2 KY2 MB2 OV2 hK
def f_Mod_instruct_61_c0 (σ : Sg) (x2 : Int32) (y0 : Int32) : Sg := (bnd (up2 σ 15 10 y0) fun s1 => (if x2 < (242 : Int32) then (f_Mod_instruct_80_c0 s1 (s1 15 11)) else (f_Mod_instruct_80_c0 s1 x2)))
abbrev w_Mod_instruct_61_c0 : List (Nat × Option Nat) := [(15, some 3), (15, some 4), (15, some 5), (15, some 6), (15, some 7), (15, some 10), (15, some 11), (15, some 12), (15, some 13), (15, some 14), (15, some 15), (15, some 16), (15, some 17), (15, some 18), (15, some 19), (15, some 20), (15, some 21), (15, some 22), (15, some 23), (15, some 24), (15, some 25), (15, some 26), (15, some 27), (15, some 28), (15, some 30), (15, some 31), (15, some 32), (15, some 33), (15, some 34), (15, some 35), (16, none), (17, none), (18, none), (19, none)]
theorem p_Mod_instruct_61_c0 {P : Sg → Prop} (hP : WP w_Mod_instruct_61_c0 P) {σ : Sg} {x2 : Int32} {y0 : Int32} (h : P σ) : P (f_Mod_instruct_61_c0 σ x2 y0) := by
  unfold f_Mod_instruct_61_c0
  refine bnd_zz (Z := P) (hP _ _ _ _ (Or.inr (by decide)) h) fun s1 e1 q1 => ?_
  refine ite_z (fun _ => ?_) (fun _ => ?_)
  · exact p_Mod_instruct_80_c0 (wsub hP rfl) q1
  · exact p_Mod_instruct_80_c0 (wsub hP rfl) q1
set_option maxRecDepth 100000 in
set_option maxHeartbeats 4000000 in
theorem b_Mod_instruct_61_c0 {l : Launch} {ad : Nat → Nat} {D : va_G} {cI : ClassId} {K : Option Value → Sg → Prop} {X : Nat → List Value → List Value → Sg → Prop} (hX : Cl l ad D cI mi_Mod_instruct pt_Mod K X) {σ : Sg} {x2 : Int32} {y0 : Int32} (nn_x2 : ¬ x2 < 0) (KY0 : KY σ) (MB0 : MB σ) (ho : y0 < 0 ∨ vp_in y0 4) (hK : KV K (f_Mod_instruct_61_c0 σ x2 y0)) : X 61 [.ref 15, .int (0 : Int32), .int x2] [.int y0, .ref 15] σ := by
  unfold f_Mod_instruct_61_c0 at hK
  refine hX.1 76 I_Mod_instruct_61 ok_Mod_instruct_61 _ _ _ ?_
  refine And.intro trivial (SG_g hK fun s1 e1 hK => ?_)
  have MB1 : MB s1 := by rw [← e1]; exact MBw (W := [(15, some 10)]) rfl _ _ _ _ (Or.inr (by decide)) MB0
  have KY1 : KY s1 := by rw [← e1]; exact KYw (W := [(15, some 10)]) rfl _ _ _ _ (Or.inr (by decide)) KY0
  have OV1 : OV s1 := by rw [← e1]; exact ho
  refine And.intro (fun h2 => ?_) (fun h2 => ?_)
  · have hK := ite_p hK h2
    refine hX.1 80 I_Mod_instruct_76 ok_Mod_instruct_76 _ _ _ ?_
    refine hX.fg [2] ?_
    exact b_Mod_instruct_80_c0 hX KY1 MB1 OV1 hK
  · have hK := ite_n hK h2
    refine hX.fg [2] ?_
    exact b_Mod_instruct_80_c0 hX KY1 MB1 OV1 hK
def f_Mod_instruct_30_c0 (σ : Sg) (x2 : Int32) : Sg := (bnd (f_Mod_isPrefix σ x2) fun r1 => (if r1.1 = (0 : Int32) then (f_Mod_instruct_95 r1.2 x2) else (if (64 : Int32) ≤ x2 then (f_Mod_instruct_61_c0 r1.2 x2 (r1.2 15 10)) else (f_Mod_instruct_61_c0 r1.2 x2 ((x2 >>> ((3 : Int32) &&& 31 : Int32)) - (4 : Int32))))))
abbrev w_Mod_instruct_30_c0 : List (Nat × Option Nat) := [(15, some 3), (15, some 4), (15, some 5), (15, some 6), (15, some 7), (15, some 10), (15, some 11), (15, some 12), (15, some 13), (15, some 14), (15, some 15), (15, some 16), (15, some 17), (15, some 18), (15, some 19), (15, some 20), (15, some 21), (15, some 22), (15, some 23), (15, some 24), (15, some 25), (15, some 26), (15, some 27), (15, some 28), (15, some 30), (15, some 31), (15, some 32), (15, some 33), (15, some 34), (15, some 35), (16, none), (17, none), (18, none), (19, none)]
theorem p_Mod_instruct_30_c0 {P : Sg → Prop} (hP : WP w_Mod_instruct_30_c0 P) {σ : Sg} {x2 : Int32} (h : P σ) : P (f_Mod_instruct_30_c0 σ x2) := by
  unfold f_Mod_instruct_30_c0
  refine bnd_zz (Z := PP P) (p_Mod_isPrefix (wsub hP rfl) h) fun r1 e1 q1 => ?_
  refine ite_z (fun _ => ?_) (fun _ => ?_)
  · exact p_Mod_instruct_95 (wsub hP rfl) q1
  · refine ite_z (fun _ => ?_) (fun _ => ?_)
    · exact p_Mod_instruct_61_c0 (wsub hP rfl) q1
    · exact p_Mod_instruct_61_c0 (wsub hP rfl) q1
set_option maxRecDepth 100000 in
set_option maxHeartbeats 4000000 in
theorem b_Mod_instruct_30_c0 {l : Launch} {ad : Nat → Nat} {D : va_G} {cI : ClassId} {K : Option Value → Sg → Prop} {X : Nat → List Value → List Value → Sg → Prop} (hX : Cl l ad D cI mi_Mod_instruct pt_Mod K X) {σ : Sg} {x2 : Int32} (nn_x2 : ¬ x2 < 0) (KY0 : KY σ) (MB0 : MB σ) (OV0 : OV σ) (hK : KV K (f_Mod_instruct_30_c0 σ x2)) : X 30 [.ref 15, .int (0 : Int32), .int x2] [] σ := by
  unfold f_Mod_instruct_30_c0 at hK
  refine hX.1 57 I_Mod_instruct_30 ok_Mod_instruct_30 _ _ _ ?_
  refine s_Mod_isPrefix (bnd_g hK fun r1 e1 hK => ?_)
  have MB1 : MB r1.2 := by rw [← e1]; exact p_Mod_isPrefix (P := MB) (MBw rfl) MB0
  have KY1 : KY r1.2 := by rw [← e1]; exact p_Mod_isPrefix (P := KY) (KYw rfl) KY0
  have OV1 : OV r1.2 := by rw [← e1]; exact p_Mod_isPrefix (P := OV) (OVw rfl) OV0
  have z1 : r1.1 = 0 ∨ r1.1 = 1 := by rw [← e1]; exact z_Mod_isPrefix
  refine And.intro (fun h2 => ?_) (fun h2 => ?_)
  · have hK := ite_p hK h2
    refine hX.fg [1] ?_
    exact b_Mod_instruct_95 hX nn_x2 KY1 OV1 hK
  · have hK := ite_n hK h2
    refine And.intro (fun h => absurd h (by decide)) (fun _ => ?_)
    refine And.intro (fun h3 => ?_) (fun h3 => ?_)
    · have hK := ite_p hK h3
      refine hX.1 61 I_Mod_instruct_57 ok_Mod_instruct_57 _ _ _ ?_
      exact b_Mod_instruct_61_c0 hX nn_x2 KY1 MB1 OV1 hK
    · have hK := ite_n hK h3
      exact b_Mod_instruct_61_c0 hX nn_x2 KY1 MB1 (pre_ov e1 (by assumption) (by assumption)) hK
def f_Mod_instruct (σ : Sg)  : Sg := (bnd (up2 σ 15 9 (σ 15 3)) fun s1 => bnd (up2 s1 15 10 (-1 : Int32)) fun s2 => bnd (up2 s2 15 11 (-1 : Int32)) fun s3 => bnd (up2 s3 15 16 (0 : Int32)) fun s4 => bnd (f_Mod_next s4) fun r5 => (f_Mod_instruct_30_c0 r5.2 r5.1))
abbrev w_Mod_instruct : List (Nat × Option Nat) := [(15, some 3), (15, some 4), (15, some 5), (15, some 6), (15, some 7), (15, some 9), (15, some 10), (15, some 11), (15, some 12), (15, some 13), (15, some 14), (15, some 15), (15, some 16), (15, some 17), (15, some 18), (15, some 19), (15, some 20), (15, some 21), (15, some 22), (15, some 23), (15, some 24), (15, some 25), (15, some 26), (15, some 27), (15, some 28), (15, some 30), (15, some 31), (15, some 32), (15, some 33), (15, some 34), (15, some 35), (16, none), (17, none), (18, none), (19, none)]
theorem p_Mod_instruct {P : Sg → Prop} (hP : WP w_Mod_instruct P) {σ : Sg}  (h : P σ) : P (f_Mod_instruct σ ) := by
  unfold f_Mod_instruct
  refine bnd_zz (Z := P) (hP _ _ _ _ (Or.inr (by decide)) h) fun s1 e1 q1 => ?_
  refine bnd_zz (Z := P) (hP _ _ _ _ (Or.inr (by decide)) q1) fun s2 e2 q2 => ?_
  refine bnd_zz (Z := P) (hP _ _ _ _ (Or.inr (by decide)) q2) fun s3 e3 q3 => ?_
  refine bnd_zz (Z := P) (hP _ _ _ _ (Or.inr (by decide)) q3) fun s4 e4 q4 => ?_
  refine bnd_zz (Z := PP P) (p_Mod_next (wsub hP rfl) q4) fun r5 e5 q5 => ?_
  exact p_Mod_instruct_30_c0 (wsub hP rfl) q5
set_option maxRecDepth 100000 in
set_option maxHeartbeats 4000000 in
theorem s_Mod_instruct {l : Launch} {ad : Nat → Nat} {D : va_G} {cI : ClassId} {σ : Sg}  {K : Option Value → Sg → Prop}  (KY0 : KY σ) (MB0 : MB σ) (hK : KV K (f_Mod_instruct σ )) : MetJ l ad D cI mi_Mod_instruct [.ref 15] σ K := by
  refine met_of mi_Mod_instruct pt_Mod pt_Mod_in rfl pl_Mod rfl (Nat.le_of_ble_eq_true rfl) fun X hX => ?_
  have hX : Cl l ad D cI mi_Mod_instruct pt_Mod K X := hX
  show X 0 [.ref 15, .null, .null] [] σ
  unfold f_Mod_instruct at hK
  refine hX.1 30 I_Mod_instruct_0 ok_Mod_instruct_0 _ _ _ ?_
  refine And.intro trivial (SG_g hK fun s1 e1 hK => ?_)
  have MB1 : MB s1 := by rw [← e1]; exact MBw (W := [(15, some 9)]) rfl _ _ _ _ (Or.inr (by decide)) MB0
  have KY1 : KY s1 := by rw [← e1]; exact KYw (W := [(15, some 9)]) rfl _ _ _ _ (Or.inr (by decide)) KY0
  refine And.intro trivial (SG_g hK fun s2 e2 hK => ?_)
  have MB2 : MB s2 := by rw [← e2]; exact MBw (W := [(15, some 10)]) rfl _ _ _ _ (Or.inr (by decide)) MB1
  have KY2 : KY s2 := by rw [← e2]; exact KYw (W := [(15, some 10)]) rfl _ _ _ _ (Or.inr (by decide)) KY1
  have OV2 : OV s2 := by rw [← e2]; exact (Or.inl (show (-1 : Int32) < 0 by decide))
  refine And.intro trivial (SG_g hK fun s3 e3 hK => ?_)
  have MB3 : MB s3 := by rw [← e3]; exact MBw (W := [(15, some 11)]) rfl _ _ _ _ (Or.inr (by decide)) MB2
  have KY3 : KY s3 := by rw [← e3]; exact KYw (W := [(15, some 11)]) rfl _ _ _ _ (Or.inr (by decide)) KY2
  have OV3 : OV s3 := by rw [← e3]; exact OVw (W := [(15, some 11)]) rfl _ _ _ _ (Or.inr (by decide)) OV2
  refine And.intro (Or.inl rfl) (SG_g hK fun s4 e4 hK => ?_)
  have MB4 : MB s4 := by rw [← e4]; exact MBw (W := [(15, some 16)]) rfl _ _ _ _ (Or.inr (by decide)) MB3
  have KY4 : KY s4 := by rw [← e4]; exact KYw (W := [(15, some 16)]) rfl _ _ _ _ (Or.inr (by decide)) KY3
  have OV4 : OV s4 := by rw [← e4]; exact OVw (W := [(15, some 16)]) rfl _ _ _ _ (Or.inr (by decide)) OV3
  refine s_Mod_next (bnd_g hK fun r5 e5 hK => ?_)
  have MB5 : MB r5.2 := by rw [← e5]; exact p_Mod_next (P := MB) (MBw rfl) MB4
  have KY5 : KY r5.2 := by rw [← e5]; exact p_Mod_next (P := KY) (KYw rfl) KY4
  have OV5 : OV r5.2 := by rw [← e5]; exact p_Mod_next (P := OV) (OVw rfl) OV4
  have NX5 : ¬ r5.1 < 0 := by have h9 := MB5; rw [← e5] at h9 ⊢; exact nx_ok h9
  exact b_Mod_instruct_30_c0 hX NX5 KY5 MB5 OV5 hK
