def I_SC_isByte_0 : List IT := [(0, .iload_n 0, 1, 0, 0, []), (1, .ifCond .lt 14, 3, 0, 15, []), (4, .iload_n 0, 1, 0, 0, []), (5, .sipush 255, 3, 255, 0, []), (8, .if_icmp .gt 7, 3, 0, 15, []), (11, .iconst 1, 1, 1, 0, []), (12, .goto 4, 3, 0, 16, [])]
theorem ok_SC_isByte_0 : blkOK b_SC_isByte pt_SC 15 I_SC_isByte_0 = true := by decide +kernel
def I_SC_isByte_15 : List IT := [(15, .iconst 0, 1, 0, 0, [])]
theorem ok_SC_isByte_15 : blkOK b_SC_isByte pt_SC 16 I_SC_isByte_15 = true := by decide +kernel
def I_SC_isByte_16 : List IT := [(16, .ireturn, 1, 0, 0, [])]
theorem ok_SC_isByte_16 : blkOK b_SC_isByte pt_SC 17 I_SC_isByte_16 = true := by decide +kernel
def f_SC_isByte (σ : Sg) (a1 : Int32) : Int32 × Sg := (if a1 < (0 : Int32) then ((0 : Int32), σ) else (if (255 : Int32) < a1 then ((0 : Int32), σ) else ((1 : Int32), σ)))
theorem z_SC_isByte {σ : Sg} {a1 : Int32}   : (f_SC_isByte σ a1).1 = 0 ∨ (f_SC_isByte σ a1).1 = 1 := by
  show Zb (f_SC_isByte σ a1)
  unfold f_SC_isByte
  refine ite_z (fun h1 => ?_) (fun h1 => ?_)
  · exact (Or.inl rfl)
  · refine ite_z (fun h2 => ?_) (fun h2 => ?_)
    · exact (Or.inl rfl)
    · exact (Or.inr rfl)
abbrev w_SC_isByte : List (Nat × Option Nat) := []
theorem p_SC_isByte {P : Sg → Prop} (hP : WP w_SC_isByte P) {σ : Sg} {a1 : Int32} (h : P σ) : PP P (f_SC_isByte σ a1) := by
  unfold f_SC_isByte
  refine ite_z (fun _ => ?_) (fun _ => ?_)
  · exact h
  · refine ite_z (fun _ => ?_) (fun _ => ?_)
    · exact h
    · exact h
set_option maxRecDepth 100000 in
set_option maxHeartbeats 4000000 in
theorem s_SC_isByte {l : Launch} {ad : Nat → Nat} {D : va_G} {cI : ClassId} {σ : Sg} {a1 : Int32} {K : Option Value → Sg → Prop}   (hK : KI K (f_SC_isByte σ a1)) : MetJ l ad D cI mi_SC_isByte [.int a1] σ K := by
  refine met_of mi_SC_isByte pt_SC pt_SC_in rfl pl_SC rfl (Nat.le_of_ble_eq_true rfl) fun X hX => ?_
  have hX : Cl l ad D cI mi_SC_isByte pt_SC K X := hX
  show X 0 [.int a1] [] σ
  unfold f_SC_isByte at hK
  refine hX.1 15 I_SC_isByte_0 ok_SC_isByte_0 _ _ _ ?_
  refine And.intro (fun h1 => ?_) (fun h1 => ?_)
  · have hK := ite_p hK h1
    refine hX.1 16 I_SC_isByte_15 ok_SC_isByte_15 _ _ _ ?_
    refine hX.1 17 I_SC_isByte_16 ok_SC_isByte_16 _ _ _ ?_
    exact And.intro (Or.inl rfl) hK
  · have hK := ite_n hK h1
    refine And.intro (fun h2 => ?_) (fun h2 => ?_)
    · have hK := ite_p hK h2
      refine hX.1 16 I_SC_isByte_15 ok_SC_isByte_15 _ _ _ ?_
      refine hX.1 17 I_SC_isByte_16 ok_SC_isByte_16 _ _ _ ?_
      exact And.intro (Or.inl rfl) hK
    · have hK := ite_n hK h2
      refine hX.1 17 I_SC_isByte_16 ok_SC_isByte_16 _ _ _ ?_
      exact And.intro (Or.inr rfl) hK
def I_SC_poke_0 : List IT := [(0, .iload_n 1, 1, 0, 0, []), (1, .invokestatic 87, 3, 0, 0, []), (4, .ifCond .eq 10, 3, 0, 14, []), (7, .iload_n 2, 1, 0, 0, []), (8, .invokestatic 91, 3, 0, 0, []), (11, .ifCond .ne 5, 3, 0, 16, [])]
theorem ok_SC_poke_0 : blkOK b_SC_poke pt_SC 14 I_SC_poke_0 = true := by decide +kernel
def I_SC_poke_14 : List IT := [(14, .iconst 0, 1, 0, 0, []), (15, .ireturn, 1, 0, 0, [])]
theorem ok_SC_poke_14 : blkOK b_SC_poke pt_SC 16 I_SC_poke_14 = true := by decide +kernel
def I_SC_poke_16 : List IT := [(16, .aload_n 0, 1, 0, 0, []), (17, .getfield 10, 3, 0, 0, []), (20, .iload_n 1, 1, 0, 0, []), (21, .iload_n 2, 1, 0, 0, []), (22, .invokevirtual 94, 3, 0, 0, []), (25, .iconst 1, 1, 1, 0, []), (26, .ireturn, 1, 0, 0, [])]
theorem ok_SC_poke_16 : blkOK b_SC_poke pt_SC 27 I_SC_poke_16 = true := by decide +kernel
def f_SC_poke (σ : Sg) (a1 : Int32) (a2 : Int32) : Int32 × Sg := (bnd (f_Mem_has σ a1) fun r1 => (if r1.1 = (0 : Int32) then ((0 : Int32), r1.2) else (bnd (f_SC_isByte r1.2 a2) fun r3 => (if r3.1 = (0 : Int32) then ((0 : Int32), r3.2) else (bnd (f_Mem_setByteAt r3.2 a1 a2) fun r5 => ((1 : Int32), r5))))))
theorem z_SC_poke {σ : Sg} {a1 : Int32} {a2 : Int32}   : (f_SC_poke σ a1 a2).1 = 0 ∨ (f_SC_poke σ a1 a2).1 = 1 := by
  show Zb (f_SC_poke σ a1 a2)
  unfold f_SC_poke
  refine bnd_zz (Z := Zb) (z_Mem_has) fun r1 e1 z1 => ?_
  refine ite_z (fun h2 => ?_) (fun h2 => ?_)
  · exact (Or.inl rfl)
  · refine bnd_zz (Z := Zb) (z_SC_isByte) fun r3 e3 z3 => ?_
    refine ite_z (fun h4 => ?_) (fun h4 => ?_)
    · exact (Or.inl rfl)
    · refine bnd_z fun r5 e5 => ?_
      exact (Or.inr rfl)
abbrev w_SC_poke : List (Nat × Option Nat) := [(2, none)]
theorem p_SC_poke {P : Sg → Prop} (hP : WP w_SC_poke P) {σ : Sg} {a1 : Int32} {a2 : Int32} (h : P σ) : PP P (f_SC_poke σ a1 a2) := by
  unfold f_SC_poke
  refine bnd_zz (Z := PP P) (p_Mem_has (wsub hP rfl) h) fun r1 e1 q1 => ?_
  refine ite_z (fun _ => ?_) (fun _ => ?_)
  · exact q1
  · refine bnd_zz (Z := PP P) (p_SC_isByte (wsub hP rfl) q1) fun r3 e3 q3 => ?_
    refine ite_z (fun _ => ?_) (fun _ => ?_)
    · exact q3
    · refine bnd_zz (Z := P) (p_Mem_setByteAt (wsub hP rfl) q3) fun r5 e5 q5 => ?_
      exact q5
set_option maxRecDepth 100000 in
set_option maxHeartbeats 4000000 in
theorem s_SC_poke {l : Launch} {ad : Nat → Nat} {D : va_G} {cI : ClassId} {σ : Sg} {a1 : Int32} {a2 : Int32} {K : Option Value → Sg → Prop}   (hK : KI K (f_SC_poke σ a1 a2)) : MetJ l ad D cI mi_SC_poke [.ref 0, .int a1, .int a2] σ K := by
  refine met_of mi_SC_poke pt_SC pt_SC_in rfl pl_SC rfl (Nat.le_of_ble_eq_true rfl) fun X hX => ?_
  have hX : Cl l ad D cI mi_SC_poke pt_SC K X := hX
  show X 0 [.ref 0, .int a1, .int a2] [] σ
  unfold f_SC_poke at hK
  refine hX.1 14 I_SC_poke_0 ok_SC_poke_0 _ _ _ ?_
  refine s_Mem_has (bnd_g hK fun r1 e1 hK => ?_)
  have z1 : r1.1 = 0 ∨ r1.1 = 1 := by rw [← e1]; exact z_Mem_has
  refine And.intro (fun h2 => ?_) (fun h2 => ?_)
  · have hK := ite_p hK h2
    refine hX.1 16 I_SC_poke_14 ok_SC_poke_14 _ _ _ ?_
    exact And.intro (Or.inl rfl) hK
  · have hK := ite_n hK h2
    refine s_SC_isByte (bnd_g hK fun r3 e3 hK => ?_)
    have z3 : r3.1 = 0 ∨ r3.1 = 1 := by rw [← e3]; exact z_SC_isByte
    refine And.intro (fun h4 => ?_) (fun h4 => ?_)
    · have hK := ite_p hK h4
      refine hX.1 16 I_SC_poke_14 ok_SC_poke_14 _ _ _ ?_
      exact And.intro (Or.inl rfl) hK
    · have hK := ite_n hK h4
      refine hX.1 27 I_SC_poke_16 ok_SC_poke_16 _ _ _ ?_
      refine s_Mem_setByteAt (bnd_g hK fun r5 e5 hK => ?_)
      exact And.intro (Or.inr rfl) hK
def I_SC_seek_0 : List IT := [(0, .iload_n 1, 1, 0, 0, []), (1, .invokestatic 87, 3, 0, 0, []), (4, .ifCond .ne 5, 3, 0, 9, []), (7, .iconst 0, 1, 0, 0, []), (8, .ireturn, 1, 0, 0, [])]
theorem ok_SC_seek_0 : blkOK b_SC_seek pt_SC 9 I_SC_seek_0 = true := by decide +kernel
def I_SC_seek_9 : List IT := [(9, .aload_n 0, 1, 0, 0, []), (10, .iload_n 1, 1, 0, 0, []), (11, .putfield 84, 3, 0, 0, []), (14, .iconst 1, 1, 1, 0, []), (15, .ireturn, 1, 0, 0, [])]
theorem ok_SC_seek_9 : blkOK b_SC_seek pt_SC 16 I_SC_seek_9 = true := by decide +kernel
def f_SC_seek (σ : Sg) (a1 : Int32) : Int32 × Sg := (bnd (f_Mem_has σ a1) fun r1 => (if r1.1 = (0 : Int32) then ((0 : Int32), r1.2) else (bnd (up2 r1.2 0 8 a1) fun s3 => ((1 : Int32), s3))))
theorem z_SC_seek {σ : Sg} {a1 : Int32}   : (f_SC_seek σ a1).1 = 0 ∨ (f_SC_seek σ a1).1 = 1 := by
  show Zb (f_SC_seek σ a1)
  unfold f_SC_seek
  refine bnd_zz (Z := Zb) (z_Mem_has) fun r1 e1 z1 => ?_
  refine ite_z (fun h2 => ?_) (fun h2 => ?_)
  · exact (Or.inl rfl)
  · refine bnd_z fun s3 e3 => ?_
    exact (Or.inr rfl)
abbrev w_SC_seek : List (Nat × Option Nat) := [(0, some 8)]
theorem p_SC_seek {P : Sg → Prop} (hP : WP w_SC_seek P) {σ : Sg} {a1 : Int32} (h : P σ) : PP P (f_SC_seek σ a1) := by
  unfold f_SC_seek
  refine bnd_zz (Z := PP P) (p_Mem_has (wsub hP rfl) h) fun r1 e1 q1 => ?_
  refine ite_z (fun _ => ?_) (fun _ => ?_)
  · exact q1
  · refine bnd_zz (Z := P) (hP _ _ _ _ (Or.inr (by decide)) q1) fun s3 e3 q3 => ?_
    exact q3
set_option maxRecDepth 100000 in
set_option maxHeartbeats 4000000 in
theorem s_SC_seek {l : Launch} {ad : Nat → Nat} {D : va_G} {cI : ClassId} {σ : Sg} {a1 : Int32} {K : Option Value → Sg → Prop}   (hK : KI K (f_SC_seek σ a1)) : MetJ l ad D cI mi_SC_seek [.ref 0, .int a1] σ K := by
  refine met_of mi_SC_seek pt_SC pt_SC_in rfl pl_SC rfl (Nat.le_of_ble_eq_true rfl) fun X hX => ?_
  have hX : Cl l ad D cI mi_SC_seek pt_SC K X := hX
  show X 0 [.ref 0, .int a1] [] σ
  unfold f_SC_seek at hK
  refine hX.1 9 I_SC_seek_0 ok_SC_seek_0 _ _ _ ?_
  refine s_Mem_has (bnd_g hK fun r1 e1 hK => ?_)
  have z1 : r1.1 = 0 ∨ r1.1 = 1 := by rw [← e1]; exact z_Mem_has
  refine And.intro (fun h2 => ?_) (fun h2 => ?_)
  · have hK := ite_p hK h2
    exact And.intro (Or.inl rfl) hK
  · have hK := ite_n hK h2
    refine hX.1 16 I_SC_seek_9 ok_SC_seek_9 _ _ _ ?_
    refine And.intro trivial (SG_g hK fun s3 e3 hK => ?_)
    exact And.intro (Or.inr rfl) hK
def I_SC_peek_0 : List IT := [(0, .iload_n 1, 1, 0, 0, []), (1, .invokestatic 87, 3, 0, 0, []), (4, .ifCond .eq 14, 3, 0, 18, []), (7, .aload_n 0, 1, 0, 0, []), (8, .getfield 10, 3, 0, 0, []), (11, .iload_n 1, 1, 0, 0, []), (12, .invokevirtual 98, 3, 0, 0, []), (15, .goto 4, 3, 0, 19, [])]
theorem ok_SC_peek_0 : blkOK b_SC_peek pt_SC 18 I_SC_peek_0 = true := by decide +kernel
def I_SC_peek_18 : List IT := [(18, .iconst (-1), 1, (-1), 0, [])]
theorem ok_SC_peek_18 : blkOK b_SC_peek pt_SC 19 I_SC_peek_18 = true := by decide +kernel
def I_SC_peek_19 : List IT := [(19, .ireturn, 1, 0, 0, [])]
theorem ok_SC_peek_19 : blkOK b_SC_peek pt_SC 20 I_SC_peek_19 = true := by decide +kernel
def f_SC_peek (σ : Sg) (a1 : Int32) : Int32 × Sg := (bnd (f_Mem_has σ a1) fun r1 => (if r1.1 = (0 : Int32) then ((-1 : Int32), r1.2) else (bnd (f_Mem_byteAt r1.2 a1) fun r3 => (r3.1, r3.2))))
abbrev w_SC_peek : List (Nat × Option Nat) := []
theorem p_SC_peek {P : Sg → Prop} (hP : WP w_SC_peek P) {σ : Sg} {a1 : Int32} (h : P σ) : PP P (f_SC_peek σ a1) := by
  unfold f_SC_peek
  refine bnd_zz (Z := PP P) (p_Mem_has (wsub hP rfl) h) fun r1 e1 q1 => ?_
  refine ite_z (fun _ => ?_) (fun _ => ?_)
  · exact q1
  · refine bnd_zz (Z := PP P) (p_Mem_byteAt (wsub hP rfl) q1) fun r3 e3 q3 => ?_
    exact q3
set_option maxRecDepth 100000 in
set_option maxHeartbeats 4000000 in
theorem s_SC_peek {l : Launch} {ad : Nat → Nat} {D : va_G} {cI : ClassId} {σ : Sg} {a1 : Int32} {K : Option Value → Sg → Prop}   (hK : KI K (f_SC_peek σ a1)) : MetJ l ad D cI mi_SC_peek [.ref 0, .int a1] σ K := by
  refine met_of mi_SC_peek pt_SC pt_SC_in rfl pl_SC rfl (Nat.le_of_ble_eq_true rfl) fun X hX => ?_
  have hX : Cl l ad D cI mi_SC_peek pt_SC K X := hX
  show X 0 [.ref 0, .int a1] [] σ
  unfold f_SC_peek at hK
  refine hX.1 18 I_SC_peek_0 ok_SC_peek_0 _ _ _ ?_
  refine s_Mem_has (bnd_g hK fun r1 e1 hK => ?_)
  have z1 : r1.1 = 0 ∨ r1.1 = 1 := by rw [← e1]; exact z_Mem_has
  refine And.intro (fun h2 => ?_) (fun h2 => ?_)
  · have hK := ite_p hK h2
    refine hX.1 19 I_SC_peek_18 ok_SC_peek_18 _ _ _ ?_
    refine hX.1 20 I_SC_peek_19 ok_SC_peek_19 _ _ _ ?_
    exact hK
  · have hK := ite_n hK h2
    refine s_Mem_byteAt (bnd_g hK fun r3 e3 hK => ?_)
    refine hX.1 20 I_SC_peek_19 ok_SC_peek_19 _ _ _ ?_
    exact hK
def I_SC_register_0 : List IT := [(0, .iload_n 1, 1, 0, 0, []), (1, .ifCond .lt 9, 3, 0, 10, []), (4, .iload_n 1, 1, 0, 0, []), (5, .bipush 13, 2, 13, 0, []), (7, .if_icmp .le 5, 3, 0, 12, [])]
theorem ok_SC_register_0 : blkOK b_SC_register pt_SC 10 I_SC_register_0 = true := by decide +kernel
def I_SC_register_10 : List IT := [(10, .iconst (-1), 1, (-1), 0, []), (11, .ireturn, 1, 0, 0, [])]
theorem ok_SC_register_10 : blkOK b_SC_register pt_SC 12 I_SC_register_10 = true := by decide +kernel
def I_SC_register_12 : List IT := [(12, .iload_n 1, 1, 0, 0, []), (13, .bipush 8, 2, 8, 0, []), (15, .if_icmp .ge 13, 3, 0, 28, []), (18, .aload_n 0, 1, 0, 0, []), (19, .getfield 19, 3, 0, 0, []), (22, .getfield 76, 3, 0, 0, []), (25, .iload_n 1, 1, 0, 0, []), (26, .iaload, 1, 0, 0, []), (27, .ireturn, 1, 0, 0, [])]
theorem ok_SC_register_12 : blkOK b_SC_register pt_SC 28 I_SC_register_12 = true := by decide +kernel
def I_SC_register_28 : List IT := [(28, .iload_n 1, 1, 0, 0, []), (29, .bipush 12, 2, 12, 0, []), (31, .if_icmp .ge 16, 3, 0, 47, []), (34, .aload_n 0, 1, 0, 0, []), (35, .getfield 19, 3, 0, 0, []), (38, .getfield 108, 3, 0, 0, []), (41, .iload_n 1, 1, 0, 0, []), (42, .bipush 8, 2, 8, 0, []), (44, .isub, 1, 0, 0, []), (45, .iaload, 1, 0, 0, []), (46, .ireturn, 1, 0, 0, [])]
theorem ok_SC_register_28 : blkOK b_SC_register pt_SC 47 I_SC_register_28 = true := by decide +kernel
def I_SC_register_47 : List IT := [(47, .iload_n 1, 1, 0, 0, []), (48, .bipush 12, 2, 12, 0, []), (50, .if_icmp .ne 13, 3, 0, 63, []), (53, .aload_n 0, 1, 0, 0, []), (54, .getfield 19, 3, 0, 0, []), (57, .getfield 80, 3, 0, 0, []), (60, .goto 10, 3, 0, 70, [])]
theorem ok_SC_register_47 : blkOK b_SC_register pt_SC 63 I_SC_register_47 = true := by decide +kernel
def I_SC_register_63 : List IT := [(63, .aload_n 0, 1, 0, 0, []), (64, .getfield 26, 3, 0, 0, []), (67, .getfield 111, 3, 0, 0, [])]
theorem ok_SC_register_63 : blkOK b_SC_register pt_SC 70 I_SC_register_63 = true := by decide +kernel
def I_SC_register_70 : List IT := [(70, .ireturn, 1, 0, 0, [])]
theorem ok_SC_register_70 : blkOK b_SC_register pt_SC 71 I_SC_register_70 = true := by decide +kernel
def f_SC_register (σ : Sg) (a1 : Int32) : Int32 × Sg := (if a1 < (0 : Int32) then ((-1 : Int32), σ) else (if a1 ≤ (13 : Int32) then (if (8 : Int32) ≤ a1 then (if (12 : Int32) ≤ a1 then (if a1 = (12 : Int32) then ((σ 3 2), σ) else ((σ 6 0), σ)) else ((σ 5 (Int32.toNatClampNeg (a1 - (8 : Int32)))), σ)) else ((σ 4 (Int32.toNatClampNeg a1)), σ)) else ((-1 : Int32), σ)))
abbrev w_SC_register : List (Nat × Option Nat) := []
theorem p_SC_register {P : Sg → Prop} (hP : WP w_SC_register P) {σ : Sg} {a1 : Int32} (h : P σ) : PP P (f_SC_register σ a1) := by
  unfold f_SC_register
  refine ite_z (fun _ => ?_) (fun _ => ?_)
  · exact h
  · refine ite_z (fun _ => ?_) (fun _ => ?_)
    · refine ite_z (fun _ => ?_) (fun _ => ?_)
      · refine ite_z (fun _ => ?_) (fun _ => ?_)
        · refine ite_z (fun _ => ?_) (fun _ => ?_)
          · exact h
          · exact h
        · exact h
      · exact h
    · exact h
set_option maxRecDepth 100000 in
set_option maxHeartbeats 4000000 in
theorem s_SC_register {l : Launch} {ad : Nat → Nat} {D : va_G} {cI : ClassId} {σ : Sg} {a1 : Int32} {K : Option Value → Sg → Prop}   (hK : KI K (f_SC_register σ a1)) : MetJ l ad D cI mi_SC_register [.ref 0, .int a1] σ K := by
  refine met_of mi_SC_register pt_SC pt_SC_in rfl pl_SC rfl (Nat.le_of_ble_eq_true rfl) fun X hX => ?_
  have hX : Cl l ad D cI mi_SC_register pt_SC K X := hX
  show X 0 [.ref 0, .int a1] [] σ
  unfold f_SC_register at hK
  refine hX.1 10 I_SC_register_0 ok_SC_register_0 _ _ _ ?_
  refine And.intro (fun h1 => ?_) (fun h1 => ?_)
  · have hK := ite_p hK h1
    refine hX.1 12 I_SC_register_10 ok_SC_register_10 _ _ _ ?_
    exact hK
  · have hK := ite_n hK h1
    refine And.intro (fun h2 => ?_) (fun h2 => ?_)
    · have hK := ite_p hK h2
      refine hX.1 28 I_SC_register_12 ok_SC_register_12 _ _ _ ?_
      refine And.intro (fun h3 => ?_) (fun h3 => ?_)
      · have hK := ite_p hK h3
        refine hX.1 47 I_SC_register_28 ok_SC_register_28 _ _ _ ?_
        refine And.intro (fun h4 => ?_) (fun h4 => ?_)
        · have hK := ite_p hK h4
          refine hX.1 63 I_SC_register_47 ok_SC_register_47 _ _ _ ?_
          refine And.intro (fun h5 => ?_) (fun h5 => ?_)
          · have hK := ite_p hK h5
            refine hX.1 71 I_SC_register_70 ok_SC_register_70 _ _ _ ?_
            exact hK
          · have hK := ite_n hK h5
            refine hX.1 70 I_SC_register_63 ok_SC_register_63 _ _ _ ?_
            refine hX.1 71 I_SC_register_70 ok_SC_register_70 _ _ _ ?_
            exact hK
        · have hK := ite_n hK h4
          refine And.intro (vin_sub (k := 8) (m := 12) (by decide) (by decide) h3 h4) ?_
          exact hK
      · have hK := ite_n hK h3
        refine And.intro (vin_nle (m := 8) rfl h1 h3) ?_
        exact hK
    · have hK := ite_n hK h2
      refine hX.1 12 I_SC_register_10 ok_SC_register_10 _ _ _ ?_
      exact hK
def I_SC_put_0 : List IT := [(0, .iload_n 1, 1, 0, 0, []), (1, .ifCond .lt 9, 3, 0, 10, []), (4, .iload_n 1, 1, 0, 0, []), (5, .bipush 13, 2, 13, 0, []), (7, .if_icmp .le 5, 3, 0, 12, [])]
theorem ok_SC_put_0 : blkOK b_SC_put pt_SC 10 I_SC_put_0 = true := by decide +kernel
def I_SC_put_10 : List IT := [(10, .iconst 0, 1, 0, 0, []), (11, .ireturn, 1, 0, 0, [])]
theorem ok_SC_put_10 : blkOK b_SC_put pt_SC 12 I_SC_put_10 = true := by decide +kernel
def I_SC_put_12 : List IT := [(12, .iload_n 2, 1, 0, 0, []), (13, .ldc 114, 2, 65535, 0, []), (15, .iand, 1, 0, 0, []), (16, .istore_n 3, 1, 0, 0, []), (17, .iload_n 1, 1, 0, 0, []), (18, .bipush 8, 2, 8, 0, []), (20, .if_icmp .ge 16, 3, 0, 36, []), (23, .aload_n 0, 1, 0, 0, []), (24, .getfield 19, 3, 0, 0, []), (27, .getfield 76, 3, 0, 0, []), (30, .iload_n 1, 1, 0, 0, []), (31, .iload_n 3, 1, 0, 0, []), (32, .iastore, 1, 0, 0, []), (33, .goto 54, 3, 0, 87, [])]
theorem ok_SC_put_12 : blkOK b_SC_put pt_SC 36 I_SC_put_12 = true := by decide +kernel
def I_SC_put_36 : List IT := [(36, .iload_n 1, 1, 0, 0, []), (37, .bipush 12, 2, 12, 0, []), (39, .if_icmp .ge 19, 3, 0, 58, []), (42, .aload_n 0, 1, 0, 0, []), (43, .getfield 19, 3, 0, 0, []), (46, .getfield 108, 3, 0, 0, []), (49, .iload_n 1, 1, 0, 0, []), (50, .bipush 8, 2, 8, 0, []), (52, .isub, 1, 0, 0, []), (53, .iload_n 3, 1, 0, 0, []), (54, .iastore, 1, 0, 0, []), (55, .goto 32, 3, 0, 87, [])]
theorem ok_SC_put_36 : blkOK b_SC_put pt_SC 58 I_SC_put_36 = true := by decide +kernel
def I_SC_put_58 : List IT := [(58, .iload_n 1, 1, 0, 0, []), (59, .bipush 12, 2, 12, 0, []), (61, .if_icmp .ne 14, 3, 0, 75, []), (64, .aload_n 0, 1, 0, 0, []), (65, .getfield 19, 3, 0, 0, []), (68, .iload_n 3, 1, 0, 0, []), (69, .putfield 80, 3, 0, 0, []), (72, .goto 15, 3, 0, 87, [])]
theorem ok_SC_put_58 : blkOK b_SC_put pt_SC 75 I_SC_put_58 = true := by decide +kernel
def I_SC_put_75 : List IT := [(75, .aload_n 0, 1, 0, 0, []), (76, .getfield 26, 3, 0, 0, []), (79, .iload_n 3, 1, 0, 0, []), (80, .sipush 3777, 3, 3777, 0, []), (83, .iand, 1, 0, 0, []), (84, .putfield 111, 3, 0, 0, [])]
theorem ok_SC_put_75 : blkOK b_SC_put pt_SC 87 I_SC_put_75 = true := by decide +kernel
def I_SC_put_87 : List IT := [(87, .iconst 1, 1, 1, 0, []), (88, .ireturn, 1, 0, 0, [])]
theorem ok_SC_put_87 : blkOK b_SC_put pt_SC 89 I_SC_put_87 = true := by decide +kernel
def f_SC_put (σ : Sg) (a1 : Int32) (a2 : Int32) : Int32 × Sg := (if a1 < (0 : Int32) then ((0 : Int32), σ) else (if a1 ≤ (13 : Int32) then (if (8 : Int32) ≤ a1 then (if (12 : Int32) ≤ a1 then (if a1 = (12 : Int32) then (bnd (up2 σ 3 2 (a2 &&& (65535 : Int32))) fun s6 => ((1 : Int32), s6)) else (bnd (up2 σ 6 0 ((a2 &&& (65535 : Int32)) &&& (3777 : Int32))) fun s7 => ((1 : Int32), s7))) else (bnd (up2 σ 5 (Int32.toNatClampNeg (a1 - (8 : Int32))) (a2 &&& (65535 : Int32))) fun s8 => ((1 : Int32), s8))) else (bnd (up2 σ 4 (Int32.toNatClampNeg a1) (a2 &&& (65535 : Int32))) fun s9 => ((1 : Int32), s9))) else ((0 : Int32), σ)))
theorem z_SC_put {σ : Sg} {a1 : Int32} {a2 : Int32}   : (f_SC_put σ a1 a2).1 = 0 ∨ (f_SC_put σ a1 a2).1 = 1 := by
  show Zb (f_SC_put σ a1 a2)
  unfold f_SC_put
  refine ite_z (fun h1 => ?_) (fun h1 => ?_)
  · exact (Or.inl rfl)
  · refine ite_z (fun h2 => ?_) (fun h2 => ?_)
    · refine ite_z (fun h3 => ?_) (fun h3 => ?_)
      · refine ite_z (fun h4 => ?_) (fun h4 => ?_)
        · refine ite_z (fun h5 => ?_) (fun h5 => ?_)
          · refine bnd_z fun s6 e6 => ?_
            exact (Or.inr rfl)
          · refine bnd_z fun s7 e7 => ?_
            exact (Or.inr rfl)
        · refine bnd_z fun s8 e8 => ?_
          exact (Or.inr rfl)
      · refine bnd_z fun s9 e9 => ?_
        exact (Or.inr rfl)
    · exact (Or.inl rfl)
abbrev w_SC_put : List (Nat × Option Nat) := [(3, some 2), (4, none), (5, none), (6, some 0)]
theorem p_SC_put {P : Sg → Prop} (hP : WP w_SC_put P) {σ : Sg} {a1 : Int32} {a2 : Int32} (h : P σ) : PP P (f_SC_put σ a1 a2) := by
  unfold f_SC_put
  refine ite_z (fun _ => ?_) (fun _ => ?_)
  · exact h
  · refine ite_z (fun _ => ?_) (fun _ => ?_)
    · refine ite_z (fun _ => ?_) (fun _ => ?_)
      · refine ite_z (fun _ => ?_) (fun _ => ?_)
        · refine ite_z (fun _ => ?_) (fun _ => ?_)
          · refine bnd_zz (Z := P) (hP _ _ _ _ (Or.inr (by decide)) h) fun s6 e6 q6 => ?_
            exact q6
          · refine bnd_zz (Z := P) (hP _ _ _ _ (Or.inr (by decide)) h) fun s7 e7 q7 => ?_
            exact q7
        · refine bnd_zz (Z := P) (hP _ _ _ _ (Or.inl (by decide)) h) fun s8 e8 q8 => ?_
          exact q8
      · refine bnd_zz (Z := P) (hP _ _ _ _ (Or.inl (by decide)) h) fun s9 e9 q9 => ?_
        exact q9
    · exact h
set_option maxRecDepth 100000 in
set_option maxHeartbeats 4000000 in
theorem s_SC_put {l : Launch} {ad : Nat → Nat} {D : va_G} {cI : ClassId} {σ : Sg} {a1 : Int32} {a2 : Int32} {K : Option Value → Sg → Prop}   (hK : KI K (f_SC_put σ a1 a2)) : MetJ l ad D cI mi_SC_put [.ref 0, .int a1, .int a2] σ K := by
  refine met_of mi_SC_put pt_SC pt_SC_in rfl pl_SC rfl (Nat.le_of_ble_eq_true rfl) fun X hX => ?_
  have hX : Cl l ad D cI mi_SC_put pt_SC K X := hX
  show X 0 [.ref 0, .int a1, .int a2, .null] [] σ
  unfold f_SC_put at hK
  refine hX.1 10 I_SC_put_0 ok_SC_put_0 _ _ _ ?_
  refine And.intro (fun h1 => ?_) (fun h1 => ?_)
  · have hK := ite_p hK h1
    refine hX.1 12 I_SC_put_10 ok_SC_put_10 _ _ _ ?_
    exact And.intro (Or.inl rfl) hK
  · have hK := ite_n hK h1
    refine And.intro (fun h2 => ?_) (fun h2 => ?_)
    · have hK := ite_p hK h2
      refine hX.1 36 I_SC_put_12 ok_SC_put_12 _ _ _ ?_
      refine And.intro (fun h3 => ?_) (fun h3 => ?_)
      · have hK := ite_p hK h3
        refine hX.1 58 I_SC_put_36 ok_SC_put_36 _ _ _ ?_
        refine And.intro (fun h4 => ?_) (fun h4 => ?_)
        · have hK := ite_p hK h4
          refine hX.1 75 I_SC_put_58 ok_SC_put_58 _ _ _ ?_
          refine And.intro (fun h5 => ?_) (fun h5 => ?_)
          · have hK := ite_p hK h5
            refine And.intro trivial (SG_g hK fun s6 e6 hK => ?_)
            refine hX.1 89 I_SC_put_87 ok_SC_put_87 _ _ _ ?_
            exact And.intro (Or.inr rfl) hK
          · have hK := ite_n hK h5
            refine hX.1 87 I_SC_put_75 ok_SC_put_75 _ _ _ ?_
            refine And.intro trivial (SG_g hK fun s7 e7 hK => ?_)
            refine hX.1 89 I_SC_put_87 ok_SC_put_87 _ _ _ ?_
            exact And.intro (Or.inr rfl) hK
        · have hK := ite_n hK h4
          refine And.intro (vin_sub (k := 8) (m := 12) (by decide) (by decide) h3 h4) (SG_g hK fun s8 e8 hK => ?_)
          refine hX.1 89 I_SC_put_87 ok_SC_put_87 _ _ _ ?_
          exact And.intro (Or.inr rfl) hK
      · have hK := ite_n hK h3
        refine And.intro (vin_nle (m := 8) rfl h1 h3) (SG_g hK fun s9 e9 hK => ?_)
        refine hX.1 89 I_SC_put_87 ok_SC_put_87 _ _ _ ?_
        exact And.intro (Or.inr rfl) hK
    · have hK := ite_n hK h2
      refine hX.1 12 I_SC_put_10 ok_SC_put_10 _ _ _ ?_
      exact And.intro (Or.inl rfl) hK
def I_SC_halted_0 : List IT := [(0, .aload_n 0, 1, 0, 0, []), (1, .getfield 72, 3, 0, 0, []), (4, .getfield 115, 3, 0, 0, []), (7, .ireturn, 1, 0, 0, [])]
theorem ok_SC_halted_0 : blkOK b_SC_halted pt_SC 8 I_SC_halted_0 = true := by decide +kernel
def f_SC_halted (σ : Sg)  : Int32 × Sg := ((σ 12 6), σ)
theorem z_SC_halted {σ : Sg}   (hb : σ 12 6 = 0 ∨ σ 12 6 = 1) : (f_SC_halted σ ).1 = 0 ∨ (f_SC_halted σ ).1 = 1 := by
  show Zb (f_SC_halted σ )
  unfold f_SC_halted
  exact hb
abbrev w_SC_halted : List (Nat × Option Nat) := []
theorem p_SC_halted {P : Sg → Prop} (hP : WP w_SC_halted P) {σ : Sg}  (h : P σ) : PP P (f_SC_halted σ ) := by
  unfold f_SC_halted
  exact h
set_option maxRecDepth 100000 in
set_option maxHeartbeats 4000000 in
theorem s_SC_halted {l : Launch} {ad : Nat → Nat} {D : va_G} {cI : ClassId} {σ : Sg}  {K : Option Value → Sg → Prop}  (hb : σ 12 6 = 0 ∨ σ 12 6 = 1) (hK : KI K (f_SC_halted σ )) : MetJ l ad D cI mi_SC_halted [.ref 0] σ K := by
  refine met_of mi_SC_halted pt_SC pt_SC_in rfl pl_SC rfl (Nat.le_of_ble_eq_true rfl) fun X hX => ?_
  have hX : Cl l ad D cI mi_SC_halted pt_SC K X := hX
  show X 0 [.ref 0] [] σ
  unfold f_SC_halted at hK
  refine hX.1 8 I_SC_halted_0 ok_SC_halted_0 _ _ _ ?_
  exact And.intro hb hK
def I_SC_key_0 : List IT := [(0, .iload_n 1, 1, 0, 0, []), (1, .invokestatic 91, 3, 0, 0, []), (4, .ifCond .eq 18, 3, 0, 22, []), (7, .aload_n 0, 1, 0, 0, []), (8, .getfield 49, 3, 0, 0, []), (11, .iload_n 1, 1, 0, 0, []), (12, .invokevirtual 119, 3, 0, 0, []), (15, .ifCond .eq 7, 3, 0, 22, []), (18, .iconst 1, 1, 1, 0, []), (19, .goto 4, 3, 0, 23, [])]
theorem ok_SC_key_0 : blkOK b_SC_key pt_SC 22 I_SC_key_0 = true := by decide +kernel
def I_SC_key_22 : List IT := [(22, .iconst 0, 1, 0, 0, [])]
theorem ok_SC_key_22 : blkOK b_SC_key pt_SC 23 I_SC_key_22 = true := by decide +kernel
def I_SC_key_23 : List IT := [(23, .ireturn, 1, 0, 0, [])]
theorem ok_SC_key_23 : blkOK b_SC_key pt_SC 24 I_SC_key_23 = true := by decide +kernel
def f_SC_key (σ : Sg) (a1 : Int32) : Int32 × Sg := (bnd (f_SC_isByte σ a1) fun r1 => (if r1.1 = (0 : Int32) then ((0 : Int32), r1.2) else (bnd (f_Key_come r1.2 a1) fun r3 => (if r3.1 = (0 : Int32) then ((0 : Int32), r3.2) else ((1 : Int32), r3.2)))))
theorem z_SC_key {σ : Sg} {a1 : Int32}  (hw : ¬ σ 9 2 < 0) : (f_SC_key σ a1).1 = 0 ∨ (f_SC_key σ a1).1 = 1 := by
  show Zb (f_SC_key σ a1)
  unfold f_SC_key
  refine bnd_zz (Z := Zb) (z_SC_isByte) fun r1 e1 z1 => ?_
  refine ite_z (fun h2 => ?_) (fun h2 => ?_)
  · exact (Or.inl rfl)
  · refine bnd_zz (Z := Zb) (z_Key_come (by subst_vars; exact p_SC_isByte (P := fun s => ¬ s 9 2 < 0) (WP_at (R := fun z => ¬ z < 0) rfl) hw)) fun r3 e3 z3 => ?_
    refine ite_z (fun h4 => ?_) (fun h4 => ?_)
    · exact (Or.inl rfl)
    · exact (Or.inr rfl)
abbrev w_SC_key : List (Nat × Option Nat) := [(7, some 0), (9, some 2), (10, none)]
theorem p_SC_key {P : Sg → Prop} (hP : WP w_SC_key P) {σ : Sg} {a1 : Int32} (h : P σ) : PP P (f_SC_key σ a1) := by
  unfold f_SC_key
  refine bnd_zz (Z := PP P) (p_SC_isByte (wsub hP rfl) h) fun r1 e1 q1 => ?_
  refine ite_z (fun _ => ?_) (fun _ => ?_)
  · exact q1
  · refine bnd_zz (Z := PP P) (p_Key_come (wsub hP rfl) q1) fun r3 e3 q3 => ?_
    refine ite_z (fun _ => ?_) (fun _ => ?_)
    · exact q3
    · exact q3
set_option maxRecDepth 100000 in
set_option maxHeartbeats 4000000 in
theorem s_SC_key {l : Launch} {ad : Nat → Nat} {D : va_G} {cI : ClassId} {σ : Sg} {a1 : Int32} {K : Option Value → Sg → Prop}  (hw : ¬ σ 9 2 < 0) (hK : KI K (f_SC_key σ a1)) : MetJ l ad D cI mi_SC_key [.ref 0, .int a1] σ K := by
  refine met_of mi_SC_key pt_SC pt_SC_in rfl pl_SC rfl (Nat.le_of_ble_eq_true rfl) fun X hX => ?_
  have hX : Cl l ad D cI mi_SC_key pt_SC K X := hX
  show X 0 [.ref 0, .int a1] [] σ
  unfold f_SC_key at hK
  refine hX.1 22 I_SC_key_0 ok_SC_key_0 _ _ _ ?_
  refine s_SC_isByte (bnd_g hK fun r1 e1 hK => ?_)
  have z1 : r1.1 = 0 ∨ r1.1 = 1 := by rw [← e1]; exact z_SC_isByte
  refine And.intro (fun h2 => ?_) (fun h2 => ?_)
  · have hK := ite_p hK h2
    refine hX.1 23 I_SC_key_22 ok_SC_key_22 _ _ _ ?_
    refine hX.1 24 I_SC_key_23 ok_SC_key_23 _ _ _ ?_
    exact And.intro (Or.inl rfl) hK
  · have hK := ite_n hK h2
    refine s_Key_come (by subst_vars; exact p_SC_isByte (P := fun s => ¬ s 9 2 < 0) (WP_at (R := fun z => ¬ z < 0) rfl) hw) (bnd_g hK fun r3 e3 hK => ?_)
    have z3 : r3.1 = 0 ∨ r3.1 = 1 := by rw [← e3]; exact z_Key_come (by subst_vars; exact p_SC_isByte (P := fun s => ¬ s 9 2 < 0) (WP_at (R := fun z => ¬ z < 0) rfl) hw)
    refine And.intro (fun h4 => ?_) (fun h4 => ?_)
    · have hK := ite_p hK h4
      refine hX.1 23 I_SC_key_22 ok_SC_key_22 _ _ _ ?_
      refine hX.1 24 I_SC_key_23 ok_SC_key_23 _ _ _ ?_
      exact And.intro (Or.inl rfl) hK
    · have hK := ite_n hK h4
      refine hX.1 24 I_SC_key_23 ok_SC_key_23 _ _ _ ?_
      exact And.intro (Or.inr rfl) hK
def I_SC_transfer_0 : List IT := [(0, .iload_n 1, 1, 0, 0, []), (1, .invokestatic 91, 3, 0, 0, []), (4, .ifCond .eq 18, 3, 0, 22, []), (7, .aload_n 0, 1, 0, 0, []), (8, .getfield 58, 3, 0, 0, []), (11, .iload_n 1, 1, 0, 0, []), (12, .invokevirtual 122, 3, 0, 0, []), (15, .ifCond .eq 7, 3, 0, 22, []), (18, .iconst 1, 1, 1, 0, []), (19, .goto 4, 3, 0, 23, [])]
theorem ok_SC_transfer_0 : blkOK b_SC_transfer pt_SC 22 I_SC_transfer_0 = true := by decide +kernel
def I_SC_transfer_22 : List IT := [(22, .iconst 0, 1, 0, 0, [])]
theorem ok_SC_transfer_22 : blkOK b_SC_transfer pt_SC 23 I_SC_transfer_22 = true := by decide +kernel
def I_SC_transfer_23 : List IT := [(23, .ireturn, 1, 0, 0, [])]
theorem ok_SC_transfer_23 : blkOK b_SC_transfer pt_SC 24 I_SC_transfer_23 = true := by decide +kernel
def f_SC_transfer (σ : Sg) (a1 : Int32) : Int32 × Sg := (bnd (f_SC_isByte σ a1) fun r1 => (if r1.1 = (0 : Int32) then ((0 : Int32), r1.2) else (bnd (f_Cha_come r1.2 a1) fun r3 => (if r3.1 = (0 : Int32) then ((0 : Int32), r3.2) else ((1 : Int32), r3.2)))))
theorem z_SC_transfer {σ : Sg} {a1 : Int32}   : (f_SC_transfer σ a1).1 = 0 ∨ (f_SC_transfer σ a1).1 = 1 := by
  show Zb (f_SC_transfer σ a1)
  unfold f_SC_transfer
  refine bnd_zz (Z := Zb) (z_SC_isByte) fun r1 e1 z1 => ?_
  refine ite_z (fun h2 => ?_) (fun h2 => ?_)
  · exact (Or.inl rfl)
  · refine bnd_zz (Z := Zb) (z_Cha_come) fun r3 e3 z3 => ?_
    refine ite_z (fun h4 => ?_) (fun h4 => ?_)
    · exact (Or.inl rfl)
    · exact (Or.inr rfl)
abbrev w_SC_transfer : List (Nat × Option Nat) := [(2, none), (7, some 0), (11, some 2), (11, some 3), (11, some 5), (11, some 6)]
theorem p_SC_transfer {P : Sg → Prop} (hP : WP w_SC_transfer P) {σ : Sg} {a1 : Int32} (h : P σ) : PP P (f_SC_transfer σ a1) := by
  unfold f_SC_transfer
  refine bnd_zz (Z := PP P) (p_SC_isByte (wsub hP rfl) h) fun r1 e1 q1 => ?_
  refine ite_z (fun _ => ?_) (fun _ => ?_)
  · exact q1
  · refine bnd_zz (Z := PP P) (p_Cha_come (wsub hP rfl) q1) fun r3 e3 q3 => ?_
    refine ite_z (fun _ => ?_) (fun _ => ?_)
    · exact q3
    · exact q3
set_option maxRecDepth 100000 in
set_option maxHeartbeats 4000000 in
theorem s_SC_transfer {l : Launch} {ad : Nat → Nat} {D : va_G} {cI : ClassId} {σ : Sg} {a1 : Int32} {K : Option Value → Sg → Prop}   (hK : KI K (f_SC_transfer σ a1)) : MetJ l ad D cI mi_SC_transfer [.ref 0, .int a1] σ K := by
  refine met_of mi_SC_transfer pt_SC pt_SC_in rfl pl_SC rfl (Nat.le_of_ble_eq_true rfl) fun X hX => ?_
  have hX : Cl l ad D cI mi_SC_transfer pt_SC K X := hX
  show X 0 [.ref 0, .int a1] [] σ
  unfold f_SC_transfer at hK
  refine hX.1 22 I_SC_transfer_0 ok_SC_transfer_0 _ _ _ ?_
  refine s_SC_isByte (bnd_g hK fun r1 e1 hK => ?_)
  have z1 : r1.1 = 0 ∨ r1.1 = 1 := by rw [← e1]; exact z_SC_isByte
  refine And.intro (fun h2 => ?_) (fun h2 => ?_)
  · have hK := ite_p hK h2
    refine hX.1 23 I_SC_transfer_22 ok_SC_transfer_22 _ _ _ ?_
    refine hX.1 24 I_SC_transfer_23 ok_SC_transfer_23 _ _ _ ?_
    exact And.intro (Or.inl rfl) hK
  · have hK := ite_n hK h2
    refine s_Cha_come (bnd_g hK fun r3 e3 hK => ?_)
    have z3 : r3.1 = 0 ∨ r3.1 = 1 := by rw [← e3]; exact z_Cha_come
    refine And.intro (fun h4 => ?_) (fun h4 => ?_)
    · have hK := ite_p hK h4
      refine hX.1 23 I_SC_transfer_22 ok_SC_transfer_22 _ _ _ ?_
      refine hX.1 24 I_SC_transfer_23 ok_SC_transfer_23 _ _ _ ?_
      exact And.intro (Or.inl rfl) hK
    · have hK := ite_n hK h4
      refine hX.1 24 I_SC_transfer_23 ok_SC_transfer_23 _ _ _ ?_
      exact And.intro (Or.inr rfl) hK
def I_SC_lines_0 : List IT := [(0, .iload_n 1, 1, 0, 0, []), (1, .tableswitch 51 0 2 #[27, 35, 43], 27, 0, 52, [(0, 28), (1, 36), (2, 44)])]
theorem ok_SC_lines_0 : blkOK b_SC_lines pt_SC 28 I_SC_lines_0 = true := by decide +kernel
def I_SC_lines_28 : List IT := [(28, .aload_n 0, 1, 0, 0, []), (29, .getfield 33, 3, 0, 0, []), (32, .getfield 123, 3, 0, 0, []), (35, .ireturn, 1, 0, 0, [])]
theorem ok_SC_lines_28 : blkOK b_SC_lines pt_SC 36 I_SC_lines_28 = true := by decide +kernel
def I_SC_lines_36 : List IT := [(36, .aload_n 0, 1, 0, 0, []), (37, .getfield 33, 3, 0, 0, []), (40, .getfield 126, 3, 0, 0, []), (43, .ireturn, 1, 0, 0, [])]
theorem ok_SC_lines_36 : blkOK b_SC_lines pt_SC 44 I_SC_lines_36 = true := by decide +kernel
def I_SC_lines_44 : List IT := [(44, .aload_n 0, 1, 0, 0, []), (45, .getfield 33, 3, 0, 0, []), (48, .getfield 129, 3, 0, 0, []), (51, .ireturn, 1, 0, 0, [])]
theorem ok_SC_lines_44 : blkOK b_SC_lines pt_SC 52 I_SC_lines_44 = true := by decide +kernel
def I_SC_lines_52 : List IT := [(52, .iconst (-1), 1, (-1), 0, []), (53, .ireturn, 1, 0, 0, [])]
theorem ok_SC_lines_52 : blkOK b_SC_lines pt_SC 54 I_SC_lines_52 = true := by decide +kernel
def f_SC_lines (σ : Sg) (a1 : Int32) : Int32 × Sg := (if a1 = (0 : Int32) then ((σ 7 0), σ) else (if a1 = (1 : Int32) then ((σ 7 1), σ) else (if a1 = (2 : Int32) then ((σ 7 2), σ) else ((-1 : Int32), σ))))
abbrev w_SC_lines : List (Nat × Option Nat) := []
theorem p_SC_lines {P : Sg → Prop} (hP : WP w_SC_lines P) {σ : Sg} {a1 : Int32} (h : P σ) : PP P (f_SC_lines σ a1) := by
  unfold f_SC_lines
  refine ite_z (fun _ => ?_) (fun _ => ?_)
  · exact h
  refine ite_z (fun _ => ?_) (fun _ => ?_)
  · exact h
  refine ite_z (fun _ => ?_) (fun _ => ?_)
  · exact h
  exact h
set_option maxRecDepth 100000 in
set_option maxHeartbeats 4000000 in
theorem s_SC_lines {l : Launch} {ad : Nat → Nat} {D : va_G} {cI : ClassId} {σ : Sg} {a1 : Int32} {K : Option Value → Sg → Prop}   (hK : KI K (f_SC_lines σ a1)) : MetJ l ad D cI mi_SC_lines [.ref 0, .int a1] σ K := by
  refine met_of mi_SC_lines pt_SC pt_SC_in rfl pl_SC rfl (Nat.le_of_ble_eq_true rfl) fun X hX => ?_
  have hX : Cl l ad D cI mi_SC_lines pt_SC K X := hX
  show X 0 [.ref 0, .int a1] [] σ
  unfold f_SC_lines at hK
  refine hX.1 28 I_SC_lines_0 ok_SC_lines_0 _ _ _ ?_
  refine And.intro (fun h1 => ?_) (fun h1 => ?_)
  · have hK := ite_p hK h1
    refine hX.1 36 I_SC_lines_28 ok_SC_lines_28 _ _ _ ?_
    exact hK
  have hK := ite_n hK h1
  refine And.intro (fun h2 => ?_) (fun h2 => ?_)
  · have hK := ite_p hK h2
    refine hX.1 44 I_SC_lines_36 ok_SC_lines_36 _ _ _ ?_
    exact hK
  have hK := ite_n hK h2
  refine And.intro (fun h3 => ?_) (fun h3 => ?_)
  · have hK := ite_p hK h3
    refine hX.1 52 I_SC_lines_44 ok_SC_lines_44 _ _ _ ?_
    exact hK
  have hK := ite_n hK h3
  refine hX.1 54 I_SC_lines_52 ok_SC_lines_52 _ _ _ ?_
  exact hK
def I_SC_count_0 : List IT := [(0, .aload_n 0, 1, 0, 0, []), (1, .getfield 42, 3, 0, 0, []), (4, .getfield 132, 3, 0, 0, []), (7, .ireturn, 1, 0, 0, [])]
theorem ok_SC_count_0 : blkOK b_SC_count pt_SC 8 I_SC_count_0 = true := by decide +kernel
def f_SC_count (σ : Sg)  : Int32 × Sg := ((σ 8 1), σ)
abbrev w_SC_count : List (Nat × Option Nat) := []
theorem p_SC_count {P : Sg → Prop} (hP : WP w_SC_count P) {σ : Sg}  (h : P σ) : PP P (f_SC_count σ ) := by
  unfold f_SC_count
  exact h
set_option maxRecDepth 100000 in
set_option maxHeartbeats 4000000 in
theorem s_SC_count {l : Launch} {ad : Nat → Nat} {D : va_G} {cI : ClassId} {σ : Sg}  {K : Option Value → Sg → Prop}   (hK : KI K (f_SC_count σ )) : MetJ l ad D cI mi_SC_count [.ref 0] σ K := by
  refine met_of mi_SC_count pt_SC pt_SC_in rfl pl_SC rfl (Nat.le_of_ble_eq_true rfl) fun X hX => ?_
  have hX : Cl l ad D cI mi_SC_count pt_SC K X := hX
  show X 0 [.ref 0] [] σ
  unfold f_SC_count at hK
  refine hX.1 8 I_SC_count_0 ok_SC_count_0 _ _ _ ?_
  exact hK
def I_SC_interrupts_0 : List IT := [(0, .aload_n 0, 1, 0, 0, []), (1, .getfield 72, 3, 0, 0, []), (4, .getfield 135, 3, 0, 0, []), (7, .ireturn, 1, 0, 0, [])]
theorem ok_SC_interrupts_0 : blkOK b_SC_interrupts pt_SC 8 I_SC_interrupts_0 = true := by decide +kernel
def f_SC_interrupts (σ : Sg)  : Int32 × Sg := ((σ 12 7), σ)
abbrev w_SC_interrupts : List (Nat × Option Nat) := []
theorem p_SC_interrupts {P : Sg → Prop} (hP : WP w_SC_interrupts P) {σ : Sg}  (h : P σ) : PP P (f_SC_interrupts σ ) := by
  unfold f_SC_interrupts
  exact h
set_option maxRecDepth 100000 in
set_option maxHeartbeats 4000000 in
theorem s_SC_interrupts {l : Launch} {ad : Nat → Nat} {D : va_G} {cI : ClassId} {σ : Sg}  {K : Option Value → Sg → Prop}   (hK : KI K (f_SC_interrupts σ )) : MetJ l ad D cI mi_SC_interrupts [.ref 0] σ K := by
  refine met_of mi_SC_interrupts pt_SC pt_SC_in rfl pl_SC rfl (Nat.le_of_ble_eq_true rfl) fun X hX => ?_
  have hX : Cl l ad D cI mi_SC_interrupts pt_SC K X := hX
  show X 0 [.ref 0] [] σ
  unfold f_SC_interrupts at hK
  refine hX.1 8 I_SC_interrupts_0 ok_SC_interrupts_0 _ _ _ ?_
  exact hK
