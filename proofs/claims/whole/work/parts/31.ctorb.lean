theorem d_Mem_init_0 : decode b_Mem_init 0 = .ok (.aload_n 0, 1) := by decide +kernel
theorem d_Mem_init_1 : decode b_Mem_init 1 = .ok (.invokespecial 3, 3) := by decide +kernel
theorem d_Mem_init_4 : decode b_Mem_init 4 = .ok (.aload_n 0, 1) := by decide +kernel
theorem d_Mem_init_5 : decode b_Mem_init 5 = .ok (.sipush 1024, 3) := by decide +kernel
theorem d_Mem_init_8 : decode b_Mem_init 8 = .ok (.newarray .int, 2) := by decide +kernel
theorem d_Mem_init_10 : decode b_Mem_init 10 = .ok (.putfield 9, 3) := by decide +kernel
theorem d_Mem_init_13 : decode b_Mem_init 13 = .ok (.return_, 1) := by decide +kernel
def wo_Mem_init (h0 : Nat)  (u : Nat → Nat) : va_W := [(h0, .inr (1, [.ref (u 1)])), ((u 1), .inl ((u 0), 1024, .inl (fun _ => 0)))]
def ty_Mem_init (u : Nat → Nat) : List (ClassId × FieldType) := [((u 0), FieldType.int)]
set_option maxRecDepth 100000 in
set_option maxHeartbeats 4000000 in
theorem c_Mem_init (l : Launch) (D : va_G) (h0 : Nat)  (sz : Nat) : Met l y_Mem_init (Cond.code y_Mem_init b_Mem_init 1 none :: WK) ({ frames := 1, cells := 1, slots := 1024, locals := 12 }) (KPre D [] h0 1 [.null] sz) (KPost D h0 1 [.null] (wo_Mem_init h0 ) ty_Mem_init sz) 1 1024 (va_A [(h0, .inr (1, [.null]))] sz) := by
  refine Met.ofW (cc := b_Mem_init) (maxL := 1) (ret := none) (by decide +kernel) rfl ?_
  intro p e s m args below meth c s₁ B hml hv
  obtain ⟨rfl, hsz, hP, hK, hD0⟩ := hv
  have hx := B.exec
  have hb := B.bytes
  have hr := B.returns
  have hts : ∀ w ∈ WK, w.before ([.ref h0] : List Value).toArray s = true := fun w hw => atoms_spec (ws := Cond.code y_Mem_init b_Mem_init 1 none :: WK) B.pre w (List.mem_cons_of_mem _ hw)
  have hown : s.vm.findClass R_Mem = some m.cls := findClass_of_methodNamed B.named
  have hlocks := B.notSynchronized
  have hin : meth.name = "<init>" := (name_of_methodNamed B.named B.method).1
  subst hsz
  have hD := hD0.self (sz := s.heap.size)
  generalize hAe : va_A [(h0, .inr (1, [.null]))] s.heap.size = A at hD ⊢
  have hA : ∀ q : Nat, s.heap.size ≤ q → A q := fun q h => by rw [← hAe]; exact Or.inr h
  have hS : va_S A s.heap s.heap [] := va_S.rf
  have hP : va_P D classes [(h0, .inr (1, [.null]))] s.heap := hP
  have hl := lv_entry ([.ref h0]) (n := 1) (Nat.le_of_ble_eq_true rfl)
  rw [lg_entry_eq]
  generalize (lg_sl ([.ref h0]) ++ List.replicate (1 - (lg_sl ([.ref h0])).length) Slot.unset).toArray = ls at hl ⊢
  have hl : lv_has ls 1 [(0, .ref h0)] := hl
  refine lv_aload_n hx hb d_Mem_init_0 rfl (lv_at hl 0 rfl) ?_
  refine W.objInit hx hb hown (hts _ (xk 3 rfl)) (hts _ (xk 1 rfl)) (hts _ (xk 2 rfl)) rfl (by rw [hml]; exact hl.1) rfl d_Mem_init_1 (Nat.le_of_ble_eq_true rfl) (Nat.le_of_ble_eq_true rfl) ?_
  refine W.eq (g2 := F0 m 4 ls []) rfl ?_
  refine lv_aload_n hx hb d_Mem_init_4 rfl (lv_at hl 0 rfl) ?_
  refine lv_sipush (v := 1024) hx hb d_Mem_init_5 (by decide) ?_
  refine knewa hx hb hts hK hP hD hS hA 1024 (by decide) (by decide) (by decide) (Nat.le_of_ble_eq_true rfl) (Nat.le_of_ble_eq_true rfl) d_Mem_init_8 (fun q8 c8 H hK hP hD hS => ?_)
  have hP : va_P D classes [(h0, .inr (1, [.null])), (q8, .inl (c8, 1024, .inl (fun _ => 0)))] H := hP
  have hD : va_D A [(h0, .inr (1, [.null])), (q8, .inl (c8, 1024, .inl (fun _ => 0)))] := hD
  have hK : va_K D classes [(c8, FieldType.int)] s := hK
  refine kput (v := .ref q8) (ty := (.array .int)) hx hb hts hown hin hK hP hD hS 0 rfl 0 rfl (by decide) (xk 4 rfl) (by decide +kernel) rfl rfl (Nat.le_of_ble_eq_true rfl) (Or.inr ⟨rfl, rfl⟩) d_Mem_init_10 (fun H locs hP hD hS => ?_)
  have hP : va_P D classes [(h0, .inr (1, [.ref q8])), (q8, .inl (c8, 1024, .inl (fun _ => 0)))] H := hP
  have hD : va_D A [(h0, .inr (1, [.ref q8])), (q8, .inl (c8, 1024, .inl (fun _ => 0)))] := hD
  refine W.widen (k := 1) (n := 1024) (Nat.le_of_ble_eq_true rfl) (Nat.le_of_ble_eq_true rfl) ?_
  exact W.vret hx hb hr (fun t ht hW => ⟨⟨(fun k => ([c8, q8] : List Nat).getD k 0), rfl, trivial, by rw [ht]; exact hP, va_K.moved hW.alike hK, by rw [hAe]; exact hD⟩, by rw [hAe]; exact hS.F ht⟩) hS.2.2 d_Mem_init_13
theorem d_Reg_init_0 : decode b_Reg_init 0 = .ok (.aload_n 0, 1) := by decide +kernel
theorem d_Reg_init_1 : decode b_Reg_init 1 = .ok (.invokespecial 1, 3) := by decide +kernel
theorem d_Reg_init_4 : decode b_Reg_init 4 = .ok (.aload_n 0, 1) := by decide +kernel
theorem d_Reg_init_5 : decode b_Reg_init 5 = .ok (.bipush 8, 2) := by decide +kernel
theorem d_Reg_init_7 : decode b_Reg_init 7 = .ok (.newarray .int, 2) := by decide +kernel
theorem d_Reg_init_9 : decode b_Reg_init 9 = .ok (.putfield 7, 3) := by decide +kernel
theorem d_Reg_init_12 : decode b_Reg_init 12 = .ok (.aload_n 0, 1) := by decide +kernel
theorem d_Reg_init_13 : decode b_Reg_init 13 = .ok (.iconst 4, 1) := by decide +kernel
theorem d_Reg_init_14 : decode b_Reg_init 14 = .ok (.newarray .int, 2) := by decide +kernel
theorem d_Reg_init_16 : decode b_Reg_init 16 = .ok (.putfield 13, 3) := by decide +kernel
theorem d_Reg_init_19 : decode b_Reg_init 19 = .ok (.return_, 1) := by decide +kernel
def wo_Reg_init (h0 : Nat)  (u : Nat → Nat) : va_W := [(h0, .inr (2, [.ref (u 2), .ref (u 3), .int 0])), ((u 2), .inl ((u 0), 8, .inl (fun _ => 0))), ((u 3), .inl ((u 1), 4, .inl (fun _ => 0)))]
def ty_Reg_init (u : Nat → Nat) : List (ClassId × FieldType) := [((u 0), FieldType.int), ((u 1), FieldType.int)]
set_option maxRecDepth 100000 in
set_option maxHeartbeats 4000000 in
theorem c_Reg_init (l : Launch) (D : va_G) (h0 : Nat)  (sz : Nat) : Met l y_Reg_init (Cond.code y_Reg_init b_Reg_init 1 none :: WK) ({ frames := 1, cells := 2, slots := 12, locals := 12 }) (KPre D [] h0 2 [.null, .null, .int 0] sz) (KPost D h0 2 [.null, .null, .int 0] (wo_Reg_init h0 ) ty_Reg_init sz) 2 12 (va_A [(h0, .inr (2, [.null, .null, .int 0]))] sz) := by
  refine Met.ofW (cc := b_Reg_init) (maxL := 1) (ret := none) (by decide +kernel) rfl ?_
  intro p e s m args below meth c s₁ B hml hv
  obtain ⟨rfl, hsz, hP, hK, hD0⟩ := hv
  have hx := B.exec
  have hb := B.bytes
  have hr := B.returns
  have hts : ∀ w ∈ WK, w.before ([.ref h0] : List Value).toArray s = true := fun w hw => atoms_spec (ws := Cond.code y_Reg_init b_Reg_init 1 none :: WK) B.pre w (List.mem_cons_of_mem _ hw)
  have hown : s.vm.findClass R_Reg = some m.cls := findClass_of_methodNamed B.named
  have hlocks := B.notSynchronized
  have hin : meth.name = "<init>" := (name_of_methodNamed B.named B.method).1
  subst hsz
  have hD := hD0.self (sz := s.heap.size)
  generalize hAe : va_A [(h0, .inr (2, [.null, .null, .int 0]))] s.heap.size = A at hD ⊢
  have hA : ∀ q : Nat, s.heap.size ≤ q → A q := fun q h => by rw [← hAe]; exact Or.inr h
  have hS : va_S A s.heap s.heap [] := va_S.rf
  have hP : va_P D classes [(h0, .inr (2, [.null, .null, .int 0]))] s.heap := hP
  have hl := lv_entry ([.ref h0]) (n := 1) (Nat.le_of_ble_eq_true rfl)
  rw [lg_entry_eq]
  generalize (lg_sl ([.ref h0]) ++ List.replicate (1 - (lg_sl ([.ref h0])).length) Slot.unset).toArray = ls at hl ⊢
  have hl : lv_has ls 1 [(0, .ref h0)] := hl
  refine lv_aload_n hx hb d_Reg_init_0 rfl (lv_at hl 0 rfl) ?_
  refine W.objInit hx hb hown (hts _ (xk 5 rfl)) (hts _ (xk 1 rfl)) (hts _ (xk 2 rfl)) rfl (by rw [hml]; exact hl.1) rfl d_Reg_init_1 (Nat.le_of_ble_eq_true rfl) (Nat.le_of_ble_eq_true rfl) ?_
  refine W.eq (g2 := F0 m 4 ls []) rfl ?_
  refine lv_aload_n hx hb d_Reg_init_4 rfl (lv_at hl 0 rfl) ?_
  refine lv_bipush (v := 8) hx hb d_Reg_init_5 (by decide) ?_
  refine knewa hx hb hts hK hP hD hS hA 8 (by decide) (by decide) (by decide) (Nat.le_of_ble_eq_true rfl) (Nat.le_of_ble_eq_true rfl) d_Reg_init_7 (fun q7 c7 H hK hP hD hS => ?_)
  have hP : va_P D classes [(h0, .inr (2, [.null, .null, .int 0])), (q7, .inl (c7, 8, .inl (fun _ => 0)))] H := hP
  have hD : va_D A [(h0, .inr (2, [.null, .null, .int 0])), (q7, .inl (c7, 8, .inl (fun _ => 0)))] := hD
  have hK : va_K D classes [(c7, FieldType.int)] s := hK
  refine kput (v := .ref q7) (ty := (.array .int)) hx hb hts hown hin hK hP hD hS 0 rfl 0 rfl (by decide) (xk 6 rfl) (by decide +kernel) rfl rfl (Nat.le_of_ble_eq_true rfl) (Or.inr ⟨rfl, rfl⟩) d_Reg_init_9 (fun H locs hP hD hS => ?_)
  have hP : va_P D classes [(h0, .inr (2, [.ref q7, .null, .int 0])), (q7, .inl (c7, 8, .inl (fun _ => 0)))] H := hP
  have hD : va_D A [(h0, .inr (2, [.ref q7, .null, .int 0])), (q7, .inl (c7, 8, .inl (fun _ => 0)))] := hD
  refine lv_aload_n hx hb d_Reg_init_12 rfl (lv_at hl 0 rfl) ?_
  refine lv_iconst (v := 4) hx hb d_Reg_init_13 (by decide) ?_
  refine knewa hx hb hts hK hP hD hS hA 4 (by decide) (by decide) (by decide) (Nat.le_of_ble_eq_true rfl) (Nat.le_of_ble_eq_true rfl) d_Reg_init_14 (fun q14 c14 H hK hP hD hS => ?_)
  have hP : va_P D classes [(h0, .inr (2, [.ref q7, .null, .int 0])), (q7, .inl (c7, 8, .inl (fun _ => 0))), (q14, .inl (c14, 4, .inl (fun _ => 0)))] H := hP
  have hD : va_D A [(h0, .inr (2, [.ref q7, .null, .int 0])), (q7, .inl (c7, 8, .inl (fun _ => 0))), (q14, .inl (c14, 4, .inl (fun _ => 0)))] := hD
  have hK : va_K D classes [(c7, FieldType.int), (c14, FieldType.int)] s := hK
  refine kput (v := .ref q14) (ty := (.array .int)) hx hb hts hown hin hK hP hD hS 0 rfl 1 rfl (by decide) (xk 7 rfl) (by decide +kernel) rfl rfl (Nat.le_of_ble_eq_true rfl) (Or.inr ⟨rfl, rfl⟩) d_Reg_init_16 (fun H locs hP hD hS => ?_)
  have hP : va_P D classes [(h0, .inr (2, [.ref q7, .ref q14, .int 0])), (q7, .inl (c7, 8, .inl (fun _ => 0))), (q14, .inl (c14, 4, .inl (fun _ => 0)))] H := hP
  have hD : va_D A [(h0, .inr (2, [.ref q7, .ref q14, .int 0])), (q7, .inl (c7, 8, .inl (fun _ => 0))), (q14, .inl (c14, 4, .inl (fun _ => 0)))] := hD
  refine W.widen (k := 2) (n := 12) (Nat.le_of_ble_eq_true rfl) (Nat.le_of_ble_eq_true rfl) ?_
  exact W.vret hx hb hr (fun t ht hW => ⟨⟨(fun k => ([c7, c14, q7, q14] : List Nat).getD k 0), rfl, trivial, by rw [ht]; exact hP, va_K.moved hW.alike hK, by rw [hAe]; exact hD⟩, by rw [hAe]; exact hS.F ht⟩) hS.2.2 d_Reg_init_19
theorem d_Fla_init_0 : decode b_Fla_init 0 = .ok (.aload_n 0, 1) := by decide +kernel
theorem d_Fla_init_1 : decode b_Fla_init 1 = .ok (.invokespecial 3, 3) := by decide +kernel
theorem d_Fla_init_4 : decode b_Fla_init 4 = .ok (.return_, 1) := by decide +kernel
def wo_Fla_init (h0 : Nat)  (u : Nat → Nat) : va_W := [(h0, .inr (3, [.int 0]))]
def ty_Fla_init (u : Nat → Nat) : List (ClassId × FieldType) := []
set_option maxRecDepth 100000 in
set_option maxHeartbeats 4000000 in
theorem c_Fla_init (l : Launch) (D : va_G) (h0 : Nat)  (sz : Nat) : Met l y_Fla_init (Cond.code y_Fla_init b_Fla_init 1 none :: WK) ({ frames := 1, cells := 0, slots := 0, locals := 12 }) (KPre D [] h0 3 [.int 0] sz) (KPost D h0 3 [.int 0] (wo_Fla_init h0 ) ty_Fla_init sz) 0 0 (va_A [(h0, .inr (3, [.int 0]))] sz) := by
  refine Met.ofW (cc := b_Fla_init) (maxL := 1) (ret := none) (by decide +kernel) rfl ?_
  intro p e s m args below meth c s₁ B hml hv
  obtain ⟨rfl, hsz, hP, hK, hD0⟩ := hv
  have hx := B.exec
  have hb := B.bytes
  have hr := B.returns
  have hts : ∀ w ∈ WK, w.before ([.ref h0] : List Value).toArray s = true := fun w hw => atoms_spec (ws := Cond.code y_Fla_init b_Fla_init 1 none :: WK) B.pre w (List.mem_cons_of_mem _ hw)
  have hown : s.vm.findClass R_Fla = some m.cls := findClass_of_methodNamed B.named
  have hlocks := B.notSynchronized
  have hin : meth.name = "<init>" := (name_of_methodNamed B.named B.method).1
  subst hsz
  have hD := hD0.self (sz := s.heap.size)
  generalize hAe : va_A [(h0, .inr (3, [.int 0]))] s.heap.size = A at hD ⊢
  have hA : ∀ q : Nat, s.heap.size ≤ q → A q := fun q h => by rw [← hAe]; exact Or.inr h
  have hS : va_S A s.heap s.heap [] := va_S.rf
  have hP : va_P D classes [(h0, .inr (3, [.int 0]))] s.heap := hP
  have hl := lv_entry ([.ref h0]) (n := 1) (Nat.le_of_ble_eq_true rfl)
  rw [lg_entry_eq]
  generalize (lg_sl ([.ref h0]) ++ List.replicate (1 - (lg_sl ([.ref h0])).length) Slot.unset).toArray = ls at hl ⊢
  have hl : lv_has ls 1 [(0, .ref h0)] := hl
  refine lv_aload_n hx hb d_Fla_init_0 rfl (lv_at hl 0 rfl) ?_
  refine W.objInit hx hb hown (hts _ (xk 8 rfl)) (hts _ (xk 1 rfl)) (hts _ (xk 2 rfl)) rfl (by rw [hml]; exact hl.1) rfl d_Fla_init_1 (Nat.le_of_ble_eq_true rfl) (Nat.le_of_ble_eq_true rfl) ?_
  refine W.eq (g2 := F0 m 4 ls []) rfl ?_
  refine W.widen (k := 0) (n := 0) (Nat.le_of_ble_eq_true rfl) (Nat.le_of_ble_eq_true rfl) ?_
  exact W.vret hx hb hr (fun t ht hW => ⟨⟨(fun k => ([] : List Nat).getD k 0), rfl, trivial, by rw [ht]; exact hP, va_K.moved hW.alike hK, by rw [hAe]; exact hD⟩, by rw [hAe]; exact hS.F ht⟩) hS.2.2 d_Fla_init_4
theorem d_Ctl_init_0 : decode b_Ctl_init 0 = .ok (.aload_n 0, 1) := by decide +kernel
theorem d_Ctl_init_1 : decode b_Ctl_init 1 = .ok (.invokespecial 1, 3) := by decide +kernel
theorem d_Ctl_init_4 : decode b_Ctl_init 4 = .ok (.aload_n 0, 1) := by decide +kernel
theorem d_Ctl_init_5 : decode b_Ctl_init 5 = .ok (.sipush 255, 3) := by decide +kernel
theorem d_Ctl_init_8 : decode b_Ctl_init 8 = .ok (.putfield 7, 3) := by decide +kernel
theorem d_Ctl_init_11 : decode b_Ctl_init 11 = .ok (.return_, 1) := by decide +kernel
def wo_Ctl_init (h0 : Nat)  (u : Nat → Nat) : va_W := [(h0, .inr (4, [.int 0, .int 0, .int 255, .int 0]))]
def ty_Ctl_init (u : Nat → Nat) : List (ClassId × FieldType) := []
set_option maxRecDepth 100000 in
set_option maxHeartbeats 4000000 in
theorem c_Ctl_init (l : Launch) (D : va_G) (h0 : Nat)  (sz : Nat) : Met l y_Ctl_init (Cond.code y_Ctl_init b_Ctl_init 1 none :: WK) ({ frames := 1, cells := 0, slots := 0, locals := 12 }) (KPre D [] h0 4 [.int 0, .int 0, .int 0, .int 0] sz) (KPost D h0 4 [.int 0, .int 0, .int 0, .int 0] (wo_Ctl_init h0 ) ty_Ctl_init sz) 0 0 (va_A [(h0, .inr (4, [.int 0, .int 0, .int 0, .int 0]))] sz) := by
  refine Met.ofW (cc := b_Ctl_init) (maxL := 1) (ret := none) (by decide +kernel) rfl ?_
  intro p e s m args below meth c s₁ B hml hv
  obtain ⟨rfl, hsz, hP, hK, hD0⟩ := hv
  have hx := B.exec
  have hb := B.bytes
  have hr := B.returns
  have hts : ∀ w ∈ WK, w.before ([.ref h0] : List Value).toArray s = true := fun w hw => atoms_spec (ws := Cond.code y_Ctl_init b_Ctl_init 1 none :: WK) B.pre w (List.mem_cons_of_mem _ hw)
  have hown : s.vm.findClass R_Ctl = some m.cls := findClass_of_methodNamed B.named
  have hlocks := B.notSynchronized
  have hin : meth.name = "<init>" := (name_of_methodNamed B.named B.method).1
  subst hsz
  have hD := hD0.self (sz := s.heap.size)
  generalize hAe : va_A [(h0, .inr (4, [.int 0, .int 0, .int 0, .int 0]))] s.heap.size = A at hD ⊢
  have hA : ∀ q : Nat, s.heap.size ≤ q → A q := fun q h => by rw [← hAe]; exact Or.inr h
  have hS : va_S A s.heap s.heap [] := va_S.rf
  have hP : va_P D classes [(h0, .inr (4, [.int 0, .int 0, .int 0, .int 0]))] s.heap := hP
  have hl := lv_entry ([.ref h0]) (n := 1) (Nat.le_of_ble_eq_true rfl)
  rw [lg_entry_eq]
  generalize (lg_sl ([.ref h0]) ++ List.replicate (1 - (lg_sl ([.ref h0])).length) Slot.unset).toArray = ls at hl ⊢
  have hl : lv_has ls 1 [(0, .ref h0)] := hl
  refine lv_aload_n hx hb d_Ctl_init_0 rfl (lv_at hl 0 rfl) ?_
  refine W.objInit hx hb hown (hts _ (xk 9 rfl)) (hts _ (xk 1 rfl)) (hts _ (xk 2 rfl)) rfl (by rw [hml]; exact hl.1) rfl d_Ctl_init_1 (Nat.le_of_ble_eq_true rfl) (Nat.le_of_ble_eq_true rfl) ?_
  refine W.eq (g2 := F0 m 4 ls []) rfl ?_
  refine lv_aload_n hx hb d_Ctl_init_4 rfl (lv_at hl 0 rfl) ?_
  refine lv_sipush (v := 255) hx hb d_Ctl_init_5 (by decide) ?_
  refine kput (v := .int 255) (ty := .int) hx hb hts hown hin hK hP hD hS 0 rfl 2 rfl (by decide) (xk 10 rfl) (by decide +kernel) rfl rfl (Nat.le_of_ble_eq_true rfl) (Or.inl rfl) d_Ctl_init_8 (fun H locs hP hD hS => ?_)
  have hP : va_P D classes [(h0, .inr (4, [.int 0, .int 0, .int 255, .int 0]))] H := hP
  have hD : va_D A [(h0, .inr (4, [.int 0, .int 0, .int 255, .int 0]))] := hD
  refine W.widen (k := 0) (n := 0) (Nat.le_of_ble_eq_true rfl) (Nat.le_of_ble_eq_true rfl) ?_
  exact W.vret hx hb hr (fun t ht hW => ⟨⟨(fun k => ([] : List Nat).getD k 0), rfl, trivial, by rw [ht]; exact hP, va_K.moved hW.alike hK, by rw [hAe]; exact hD⟩, by rw [hAe]; exact hS.F ht⟩) hS.2.2 d_Ctl_init_11
theorem d_Tim_init_0 : decode b_Tim_init 0 = .ok (.aload_n 0, 1) := by decide +kernel
theorem d_Tim_init_1 : decode b_Tim_init 1 = .ok (.invokespecial 1, 3) := by decide +kernel
theorem d_Tim_init_4 : decode b_Tim_init 4 = .ok (.aload_n 0, 1) := by decide +kernel
theorem d_Tim_init_5 : decode b_Tim_init 5 = .ok (.aload_n 1, 1) := by decide +kernel
theorem d_Tim_init_6 : decode b_Tim_init 6 = .ok (.putfield 7, 3) := by decide +kernel
theorem d_Tim_init_9 : decode b_Tim_init 9 = .ok (.return_, 1) := by decide +kernel
def wo_Tim_init (h0 : Nat) (r1 : Nat) (u : Nat → Nat) : va_W := [(h0, .inr (5, [.ref r1, .int 0, .int 0, .int 0, .int 0, .int 0, .int 0]))]
def ty_Tim_init (u : Nat → Nat) : List (ClassId × FieldType) := []
set_option maxRecDepth 100000 in
set_option maxHeartbeats 4000000 in
theorem c_Tim_init (l : Launch) (D : va_G) (h0 : Nat) (r1 : Nat) (sz : Nat) : Met l y_Tim_init (Cond.code y_Tim_init b_Tim_init 2 none :: WK) ({ frames := 1, cells := 0, slots := 0, locals := 12 }) (KPre D [.ref r1] h0 5 [.null, .int 0, .int 0, .int 0, .int 0, .int 0, .int 0] sz) (KPost D h0 5 [.null, .int 0, .int 0, .int 0, .int 0, .int 0, .int 0] (wo_Tim_init h0 r1) ty_Tim_init sz) 0 0 (va_A [(h0, .inr (5, [.null, .int 0, .int 0, .int 0, .int 0, .int 0, .int 0]))] sz) := by
  refine Met.ofW (cc := b_Tim_init) (maxL := 2) (ret := none) (by decide +kernel) rfl ?_
  intro p e s m args below meth c s₁ B hml hv
  obtain ⟨rfl, hsz, hP, hK, hD0⟩ := hv
  have hx := B.exec
  have hb := B.bytes
  have hr := B.returns
  have hts : ∀ w ∈ WK, w.before ([.ref h0, .ref r1] : List Value).toArray s = true := fun w hw => atoms_spec (ws := Cond.code y_Tim_init b_Tim_init 2 none :: WK) B.pre w (List.mem_cons_of_mem _ hw)
  have hown : s.vm.findClass R_Tim = some m.cls := findClass_of_methodNamed B.named
  have hlocks := B.notSynchronized
  have hin : meth.name = "<init>" := (name_of_methodNamed B.named B.method).1
  subst hsz
  have hD := hD0.self (sz := s.heap.size)
  generalize hAe : va_A [(h0, .inr (5, [.null, .int 0, .int 0, .int 0, .int 0, .int 0, .int 0]))] s.heap.size = A at hD ⊢
  have hA : ∀ q : Nat, s.heap.size ≤ q → A q := fun q h => by rw [← hAe]; exact Or.inr h
  have hS : va_S A s.heap s.heap [] := va_S.rf
  have hP : va_P D classes [(h0, .inr (5, [.null, .int 0, .int 0, .int 0, .int 0, .int 0, .int 0]))] s.heap := hP
  have hl := lv_entry ([.ref h0, .ref r1]) (n := 2) (Nat.le_of_ble_eq_true rfl)
  rw [lg_entry_eq]
  generalize (lg_sl ([.ref h0, .ref r1]) ++ List.replicate (2 - (lg_sl ([.ref h0, .ref r1])).length) Slot.unset).toArray = ls at hl ⊢
  have hl : lv_has ls 2 [(0, .ref h0), (1, .ref r1)] := hl
  refine lv_aload_n hx hb d_Tim_init_0 rfl (lv_at hl 0 rfl) ?_
  refine W.objInit hx hb hown (hts _ (xk 11 rfl)) (hts _ (xk 1 rfl)) (hts _ (xk 2 rfl)) rfl (by rw [hml]; exact hl.1) rfl d_Tim_init_1 (Nat.le_of_ble_eq_true rfl) (Nat.le_of_ble_eq_true rfl) ?_
  refine W.eq (g2 := F0 m 4 ls []) rfl ?_
  refine lv_aload_n hx hb d_Tim_init_4 rfl (lv_at hl 0 rfl) ?_
  refine lv_aload_n hx hb d_Tim_init_5 rfl (lv_at hl 1 rfl) ?_
  refine kput (v := .ref r1) (ty := (.object "SmallComputer$Controller")) hx hb hts hown hin hK hP hD hS 0 rfl 0 rfl (by decide) (xk 12 rfl) (by decide +kernel) rfl rfl (Nat.le_of_ble_eq_true rfl) (Or.inr ⟨rfl, rfl⟩) d_Tim_init_6 (fun H locs hP hD hS => ?_)
  have hP : va_P D classes [(h0, .inr (5, [.ref r1, .int 0, .int 0, .int 0, .int 0, .int 0, .int 0]))] H := hP
  have hD : va_D A [(h0, .inr (5, [.ref r1, .int 0, .int 0, .int 0, .int 0, .int 0, .int 0]))] := hD
  refine W.widen (k := 0) (n := 0) (Nat.le_of_ble_eq_true rfl) (Nat.le_of_ble_eq_true rfl) ?_
  exact W.vret hx hb hr (fun t ht hW => ⟨⟨(fun k => ([] : List Nat).getD k 0), rfl, trivial, by rw [ht]; exact hP, va_K.moved hW.alike hK, by rw [hAe]; exact hD⟩, by rw [hAe]; exact hS.F ht⟩) hS.2.2 d_Tim_init_9
theorem d_Key_init_0 : decode b_Key_init 0 = .ok (.aload_n 0, 1) := by decide +kernel
theorem d_Key_init_1 : decode b_Key_init 1 = .ok (.invokespecial 1, 3) := by decide +kernel
theorem d_Key_init_4 : decode b_Key_init 4 = .ok (.aload_n 0, 1) := by decide +kernel
theorem d_Key_init_5 : decode b_Key_init 5 = .ok (.iconst 4, 1) := by decide +kernel
theorem d_Key_init_6 : decode b_Key_init 6 = .ok (.newarray .int, 2) := by decide +kernel
theorem d_Key_init_8 : decode b_Key_init 8 = .ok (.putfield 9, 3) := by decide +kernel
theorem d_Key_init_11 : decode b_Key_init 11 = .ok (.aload_n 0, 1) := by decide +kernel
theorem d_Key_init_12 : decode b_Key_init 12 = .ok (.aload_n 1, 1) := by decide +kernel
theorem d_Key_init_13 : decode b_Key_init 13 = .ok (.putfield 13, 3) := by decide +kernel
theorem d_Key_init_16 : decode b_Key_init 16 = .ok (.return_, 1) := by decide +kernel
def wo_Key_init (h0 : Nat) (r1 : Nat) (u : Nat → Nat) : va_W := [(h0, .inr (6, [.ref r1, .ref (u 1), .int 0])), ((u 1), .inl ((u 0), 4, .inl (fun _ => 0)))]
def ty_Key_init (u : Nat → Nat) : List (ClassId × FieldType) := [((u 0), FieldType.int)]
set_option maxRecDepth 100000 in
set_option maxHeartbeats 4000000 in
theorem c_Key_init (l : Launch) (D : va_G) (h0 : Nat) (r1 : Nat) (sz : Nat) : Met l y_Key_init (Cond.code y_Key_init b_Key_init 2 none :: WK) ({ frames := 1, cells := 1, slots := 4, locals := 12 }) (KPre D [.ref r1] h0 6 [.null, .null, .int 0] sz) (KPost D h0 6 [.null, .null, .int 0] (wo_Key_init h0 r1) ty_Key_init sz) 1 4 (va_A [(h0, .inr (6, [.null, .null, .int 0]))] sz) := by
  refine Met.ofW (cc := b_Key_init) (maxL := 2) (ret := none) (by decide +kernel) rfl ?_
  intro p e s m args below meth c s₁ B hml hv
  obtain ⟨rfl, hsz, hP, hK, hD0⟩ := hv
  have hx := B.exec
  have hb := B.bytes
  have hr := B.returns
  have hts : ∀ w ∈ WK, w.before ([.ref h0, .ref r1] : List Value).toArray s = true := fun w hw => atoms_spec (ws := Cond.code y_Key_init b_Key_init 2 none :: WK) B.pre w (List.mem_cons_of_mem _ hw)
  have hown : s.vm.findClass R_Key = some m.cls := findClass_of_methodNamed B.named
  have hlocks := B.notSynchronized
  have hin : meth.name = "<init>" := (name_of_methodNamed B.named B.method).1
  subst hsz
  have hD := hD0.self (sz := s.heap.size)
  generalize hAe : va_A [(h0, .inr (6, [.null, .null, .int 0]))] s.heap.size = A at hD ⊢
  have hA : ∀ q : Nat, s.heap.size ≤ q → A q := fun q h => by rw [← hAe]; exact Or.inr h
  have hS : va_S A s.heap s.heap [] := va_S.rf
  have hP : va_P D classes [(h0, .inr (6, [.null, .null, .int 0]))] s.heap := hP
  have hl := lv_entry ([.ref h0, .ref r1]) (n := 2) (Nat.le_of_ble_eq_true rfl)
  rw [lg_entry_eq]
  generalize (lg_sl ([.ref h0, .ref r1]) ++ List.replicate (2 - (lg_sl ([.ref h0, .ref r1])).length) Slot.unset).toArray = ls at hl ⊢
  have hl : lv_has ls 2 [(0, .ref h0), (1, .ref r1)] := hl
  refine lv_aload_n hx hb d_Key_init_0 rfl (lv_at hl 0 rfl) ?_
  refine W.objInit hx hb hown (hts _ (xk 13 rfl)) (hts _ (xk 1 rfl)) (hts _ (xk 2 rfl)) rfl (by rw [hml]; exact hl.1) rfl d_Key_init_1 (Nat.le_of_ble_eq_true rfl) (Nat.le_of_ble_eq_true rfl) ?_
  refine W.eq (g2 := F0 m 4 ls []) rfl ?_
  refine lv_aload_n hx hb d_Key_init_4 rfl (lv_at hl 0 rfl) ?_
  refine lv_iconst (v := 4) hx hb d_Key_init_5 (by decide) ?_
  refine knewa hx hb hts hK hP hD hS hA 4 (by decide) (by decide) (by decide) (Nat.le_of_ble_eq_true rfl) (Nat.le_of_ble_eq_true rfl) d_Key_init_6 (fun q6 c6 H hK hP hD hS => ?_)
  have hP : va_P D classes [(h0, .inr (6, [.null, .null, .int 0])), (q6, .inl (c6, 4, .inl (fun _ => 0)))] H := hP
  have hD : va_D A [(h0, .inr (6, [.null, .null, .int 0])), (q6, .inl (c6, 4, .inl (fun _ => 0)))] := hD
  have hK : va_K D classes [(c6, FieldType.int)] s := hK
  refine kput (v := .ref q6) (ty := (.array .int)) hx hb hts hown hin hK hP hD hS 0 rfl 1 rfl (by decide) (xk 14 rfl) (by decide +kernel) rfl rfl (Nat.le_of_ble_eq_true rfl) (Or.inr ⟨rfl, rfl⟩) d_Key_init_8 (fun H locs hP hD hS => ?_)
  have hP : va_P D classes [(h0, .inr (6, [.null, .ref q6, .int 0])), (q6, .inl (c6, 4, .inl (fun _ => 0)))] H := hP
  have hD : va_D A [(h0, .inr (6, [.null, .ref q6, .int 0])), (q6, .inl (c6, 4, .inl (fun _ => 0)))] := hD
  refine lv_aload_n hx hb d_Key_init_11 rfl (lv_at hl 0 rfl) ?_
  refine lv_aload_n hx hb d_Key_init_12 rfl (lv_at hl 1 rfl) ?_
  refine kput (v := .ref r1) (ty := (.object "SmallComputer$Controller")) hx hb hts hown hin hK hP hD hS 0 rfl 0 rfl (by decide) (xk 15 rfl) (by decide +kernel) rfl rfl (Nat.le_of_ble_eq_true rfl) (Or.inr ⟨rfl, rfl⟩) d_Key_init_13 (fun H locs hP hD hS => ?_)
  have hP : va_P D classes [(h0, .inr (6, [.ref r1, .ref q6, .int 0])), (q6, .inl (c6, 4, .inl (fun _ => 0)))] H := hP
  have hD : va_D A [(h0, .inr (6, [.ref r1, .ref q6, .int 0])), (q6, .inl (c6, 4, .inl (fun _ => 0)))] := hD
  refine W.widen (k := 1) (n := 4) (Nat.le_of_ble_eq_true rfl) (Nat.le_of_ble_eq_true rfl) ?_
  exact W.vret hx hb hr (fun t ht hW => ⟨⟨(fun k => ([c6, q6] : List Nat).getD k 0), rfl, trivial, by rw [ht]; exact hP, va_K.moved hW.alike hK, by rw [hAe]; exact hD⟩, by rw [hAe]; exact hS.F ht⟩) hS.2.2 d_Key_init_16
theorem d_Cha_init_0 : decode b_Cha_init 0 = .ok (.aload_n 0, 1) := by decide +kernel
theorem d_Cha_init_1 : decode b_Cha_init 1 = .ok (.invokespecial 1, 3) := by decide +kernel
theorem d_Cha_init_4 : decode b_Cha_init 4 = .ok (.aload_n 0, 1) := by decide +kernel
theorem d_Cha_init_5 : decode b_Cha_init 5 = .ok (.aload_n 1, 1) := by decide +kernel
theorem d_Cha_init_6 : decode b_Cha_init 6 = .ok (.putfield 7, 3) := by decide +kernel
theorem d_Cha_init_9 : decode b_Cha_init 9 = .ok (.aload_n 0, 1) := by decide +kernel
theorem d_Cha_init_10 : decode b_Cha_init 10 = .ok (.aload_n 2, 1) := by decide +kernel
theorem d_Cha_init_11 : decode b_Cha_init 11 = .ok (.putfield 13, 3) := by decide +kernel
theorem d_Cha_init_14 : decode b_Cha_init 14 = .ok (.return_, 1) := by decide +kernel
def wo_Cha_init (h0 : Nat) (r1 : Nat) (r2 : Nat) (u : Nat → Nat) : va_W := [(h0, .inr (7, [.ref r1, .ref r2, .int 0, .int 0, .int 0, .int 0, .int 0, .int 0]))]
def ty_Cha_init (u : Nat → Nat) : List (ClassId × FieldType) := []
set_option maxRecDepth 100000 in
set_option maxHeartbeats 4000000 in
theorem c_Cha_init (l : Launch) (D : va_G) (h0 : Nat) (r1 : Nat) (r2 : Nat) (sz : Nat) : Met l y_Cha_init (Cond.code y_Cha_init b_Cha_init 3 none :: WK) ({ frames := 1, cells := 0, slots := 0, locals := 12 }) (KPre D [.ref r1, .ref r2] h0 7 [.null, .null, .int 0, .int 0, .int 0, .int 0, .int 0, .int 0] sz) (KPost D h0 7 [.null, .null, .int 0, .int 0, .int 0, .int 0, .int 0, .int 0] (wo_Cha_init h0 r1 r2) ty_Cha_init sz) 0 0 (va_A [(h0, .inr (7, [.null, .null, .int 0, .int 0, .int 0, .int 0, .int 0, .int 0]))] sz) := by
  refine Met.ofW (cc := b_Cha_init) (maxL := 3) (ret := none) (by decide +kernel) rfl ?_
  intro p e s m args below meth c s₁ B hml hv
  obtain ⟨rfl, hsz, hP, hK, hD0⟩ := hv
  have hx := B.exec
  have hb := B.bytes
  have hr := B.returns
  have hts : ∀ w ∈ WK, w.before ([.ref h0, .ref r1, .ref r2] : List Value).toArray s = true := fun w hw => atoms_spec (ws := Cond.code y_Cha_init b_Cha_init 3 none :: WK) B.pre w (List.mem_cons_of_mem _ hw)
  have hown : s.vm.findClass R_Cha = some m.cls := findClass_of_methodNamed B.named
  have hlocks := B.notSynchronized
  have hin : meth.name = "<init>" := (name_of_methodNamed B.named B.method).1
  subst hsz
  have hD := hD0.self (sz := s.heap.size)
  generalize hAe : va_A [(h0, .inr (7, [.null, .null, .int 0, .int 0, .int 0, .int 0, .int 0, .int 0]))] s.heap.size = A at hD ⊢
  have hA : ∀ q : Nat, s.heap.size ≤ q → A q := fun q h => by rw [← hAe]; exact Or.inr h
  have hS : va_S A s.heap s.heap [] := va_S.rf
  have hP : va_P D classes [(h0, .inr (7, [.null, .null, .int 0, .int 0, .int 0, .int 0, .int 0, .int 0]))] s.heap := hP
  have hl := lv_entry ([.ref h0, .ref r1, .ref r2]) (n := 3) (Nat.le_of_ble_eq_true rfl)
  rw [lg_entry_eq]
  generalize (lg_sl ([.ref h0, .ref r1, .ref r2]) ++ List.replicate (3 - (lg_sl ([.ref h0, .ref r1, .ref r2])).length) Slot.unset).toArray = ls at hl ⊢
  have hl : lv_has ls 3 [(0, .ref h0), (1, .ref r1), (2, .ref r2)] := hl
  refine lv_aload_n hx hb d_Cha_init_0 rfl (lv_at hl 0 rfl) ?_
  refine W.objInit hx hb hown (hts _ (xk 16 rfl)) (hts _ (xk 1 rfl)) (hts _ (xk 2 rfl)) rfl (by rw [hml]; exact hl.1) rfl d_Cha_init_1 (Nat.le_of_ble_eq_true rfl) (Nat.le_of_ble_eq_true rfl) ?_
  refine W.eq (g2 := F0 m 4 ls []) rfl ?_
  refine lv_aload_n hx hb d_Cha_init_4 rfl (lv_at hl 0 rfl) ?_
  refine lv_aload_n hx hb d_Cha_init_5 rfl (lv_at hl 1 rfl) ?_
  refine kput (v := .ref r1) (ty := (.object "SmallComputer$Controller")) hx hb hts hown hin hK hP hD hS 0 rfl 0 rfl (by decide) (xk 17 rfl) (by decide +kernel) rfl rfl (Nat.le_of_ble_eq_true rfl) (Or.inr ⟨rfl, rfl⟩) d_Cha_init_6 (fun H locs hP hD hS => ?_)
  have hP : va_P D classes [(h0, .inr (7, [.ref r1, .null, .int 0, .int 0, .int 0, .int 0, .int 0, .int 0]))] H := hP
  have hD : va_D A [(h0, .inr (7, [.ref r1, .null, .int 0, .int 0, .int 0, .int 0, .int 0, .int 0]))] := hD
  refine lv_aload_n hx hb d_Cha_init_9 rfl (lv_at hl 0 rfl) ?_
  refine lv_aload_n hx hb d_Cha_init_10 rfl (lv_at hl 2 rfl) ?_
  refine kput (v := .ref r2) (ty := (.object "SmallComputer$Memory")) hx hb hts hown hin hK hP hD hS 0 rfl 1 rfl (by decide) (xk 18 rfl) (by decide +kernel) rfl rfl (Nat.le_of_ble_eq_true rfl) (Or.inr ⟨rfl, rfl⟩) d_Cha_init_11 (fun H locs hP hD hS => ?_)
  have hP : va_P D classes [(h0, .inr (7, [.ref r1, .ref r2, .int 0, .int 0, .int 0, .int 0, .int 0, .int 0]))] H := hP
  have hD : va_D A [(h0, .inr (7, [.ref r1, .ref r2, .int 0, .int 0, .int 0, .int 0, .int 0, .int 0]))] := hD
  refine W.widen (k := 0) (n := 0) (Nat.le_of_ble_eq_true rfl) (Nat.le_of_ble_eq_true rfl) ?_
  exact W.vret hx hb hr (fun t ht hW => ⟨⟨(fun k => ([] : List Nat).getD k 0), rfl, trivial, by rw [ht]; exact hP, va_K.moved hW.alike hK, by rw [hAe]; exact hD⟩, by rw [hAe]; exact hS.F ht⟩) hS.2.2 d_Cha_init_14
theorem d_Por_init_0 : decode b_Por_init 0 = .ok (.aload_n 0, 1) := by decide +kernel
theorem d_Por_init_1 : decode b_Por_init 1 = .ok (.invokespecial 1, 3) := by decide +kernel
theorem d_Por_init_4 : decode b_Por_init 4 = .ok (.aload_n 0, 1) := by decide +kernel
theorem d_Por_init_5 : decode b_Por_init 5 = .ok (.aload_n 1, 1) := by decide +kernel
theorem d_Por_init_6 : decode b_Por_init 6 = .ok (.putfield 7, 3) := by decide +kernel
theorem d_Por_init_9 : decode b_Por_init 9 = .ok (.aload_n 0, 1) := by decide +kernel
theorem d_Por_init_10 : decode b_Por_init 10 = .ok (.aload_n 2, 1) := by decide +kernel
theorem d_Por_init_11 : decode b_Por_init 11 = .ok (.putfield 13, 3) := by decide +kernel
theorem d_Por_init_14 : decode b_Por_init 14 = .ok (.aload_n 0, 1) := by decide +kernel
theorem d_Por_init_15 : decode b_Por_init 15 = .ok (.aload_n 3, 1) := by decide +kernel
theorem d_Por_init_16 : decode b_Por_init 16 = .ok (.putfield 17, 3) := by decide +kernel
theorem d_Por_init_19 : decode b_Por_init 19 = .ok (.aload_n 0, 1) := by decide +kernel
theorem d_Por_init_20 : decode b_Por_init 20 = .ok (.aload 4, 2) := by decide +kernel
theorem d_Por_init_22 : decode b_Por_init 22 = .ok (.putfield 21, 3) := by decide +kernel
theorem d_Por_init_25 : decode b_Por_init 25 = .ok (.return_, 1) := by decide +kernel
def wo_Por_init (h0 : Nat) (r1 : Nat) (r2 : Nat) (r3 : Nat) (r4 : Nat) (u : Nat → Nat) : va_W := [(h0, .inr (8, [.ref r1, .ref r2, .ref r3, .ref r4]))]
def ty_Por_init (u : Nat → Nat) : List (ClassId × FieldType) := []
set_option maxRecDepth 100000 in
set_option maxHeartbeats 4000000 in
theorem c_Por_init (l : Launch) (D : va_G) (h0 : Nat) (r1 : Nat) (r2 : Nat) (r3 : Nat) (r4 : Nat) (sz : Nat) : Met l y_Por_init (Cond.code y_Por_init b_Por_init 5 none :: WK) ({ frames := 1, cells := 0, slots := 0, locals := 12 }) (KPre D [.ref r1, .ref r2, .ref r3, .ref r4] h0 8 [.null, .null, .null, .null] sz) (KPost D h0 8 [.null, .null, .null, .null] (wo_Por_init h0 r1 r2 r3 r4) ty_Por_init sz) 0 0 (va_A [(h0, .inr (8, [.null, .null, .null, .null]))] sz) := by
  refine Met.ofW (cc := b_Por_init) (maxL := 5) (ret := none) (by decide +kernel) rfl ?_
  intro p e s m args below meth c s₁ B hml hv
  obtain ⟨rfl, hsz, hP, hK, hD0⟩ := hv
  have hx := B.exec
  have hb := B.bytes
  have hr := B.returns
  have hts : ∀ w ∈ WK, w.before ([.ref h0, .ref r1, .ref r2, .ref r3, .ref r4] : List Value).toArray s = true := fun w hw => atoms_spec (ws := Cond.code y_Por_init b_Por_init 5 none :: WK) B.pre w (List.mem_cons_of_mem _ hw)
  have hown : s.vm.findClass R_Por = some m.cls := findClass_of_methodNamed B.named
  have hlocks := B.notSynchronized
  have hin : meth.name = "<init>" := (name_of_methodNamed B.named B.method).1
  subst hsz
  have hD := hD0.self (sz := s.heap.size)
  generalize hAe : va_A [(h0, .inr (8, [.null, .null, .null, .null]))] s.heap.size = A at hD ⊢
  have hA : ∀ q : Nat, s.heap.size ≤ q → A q := fun q h => by rw [← hAe]; exact Or.inr h
  have hS : va_S A s.heap s.heap [] := va_S.rf
  have hP : va_P D classes [(h0, .inr (8, [.null, .null, .null, .null]))] s.heap := hP
  have hl := lv_entry ([.ref h0, .ref r1, .ref r2, .ref r3, .ref r4]) (n := 5) (Nat.le_of_ble_eq_true rfl)
  rw [lg_entry_eq]
  generalize (lg_sl ([.ref h0, .ref r1, .ref r2, .ref r3, .ref r4]) ++ List.replicate (5 - (lg_sl ([.ref h0, .ref r1, .ref r2, .ref r3, .ref r4])).length) Slot.unset).toArray = ls at hl ⊢
  have hl : lv_has ls 5 [(0, .ref h0), (1, .ref r1), (2, .ref r2), (3, .ref r3), (4, .ref r4)] := hl
  refine lv_aload_n hx hb d_Por_init_0 rfl (lv_at hl 0 rfl) ?_
  refine W.objInit hx hb hown (hts _ (xk 19 rfl)) (hts _ (xk 1 rfl)) (hts _ (xk 2 rfl)) rfl (by rw [hml]; exact hl.1) rfl d_Por_init_1 (Nat.le_of_ble_eq_true rfl) (Nat.le_of_ble_eq_true rfl) ?_
  refine W.eq (g2 := F0 m 4 ls []) rfl ?_
  refine lv_aload_n hx hb d_Por_init_4 rfl (lv_at hl 0 rfl) ?_
  refine lv_aload_n hx hb d_Por_init_5 rfl (lv_at hl 1 rfl) ?_
  refine kput (v := .ref r1) (ty := (.object "SmallComputer$Controller")) hx hb hts hown hin hK hP hD hS 0 rfl 0 rfl (by decide) (xk 20 rfl) (by decide +kernel) rfl rfl (Nat.le_of_ble_eq_true rfl) (Or.inr ⟨rfl, rfl⟩) d_Por_init_6 (fun H locs hP hD hS => ?_)
  have hP : va_P D classes [(h0, .inr (8, [.ref r1, .null, .null, .null]))] H := hP
  have hD : va_D A [(h0, .inr (8, [.ref r1, .null, .null, .null]))] := hD
  refine lv_aload_n hx hb d_Por_init_9 rfl (lv_at hl 0 rfl) ?_
  refine lv_aload_n hx hb d_Por_init_10 rfl (lv_at hl 2 rfl) ?_
  refine kput (v := .ref r2) (ty := (.object "SmallComputer$Timer")) hx hb hts hown hin hK hP hD hS 0 rfl 1 rfl (by decide) (xk 21 rfl) (by decide +kernel) rfl rfl (Nat.le_of_ble_eq_true rfl) (Or.inr ⟨rfl, rfl⟩) d_Por_init_11 (fun H locs hP hD hS => ?_)
  have hP : va_P D classes [(h0, .inr (8, [.ref r1, .ref r2, .null, .null]))] H := hP
  have hD : va_D A [(h0, .inr (8, [.ref r1, .ref r2, .null, .null]))] := hD
  refine lv_aload_n hx hb d_Por_init_14 rfl (lv_at hl 0 rfl) ?_
  refine lv_aload_n hx hb d_Por_init_15 rfl (lv_at hl 3 rfl) ?_
  refine kput (v := .ref r3) (ty := (.object "SmallComputer$Keyboard")) hx hb hts hown hin hK hP hD hS 0 rfl 2 rfl (by decide) (xk 22 rfl) (by decide +kernel) rfl rfl (Nat.le_of_ble_eq_true rfl) (Or.inr ⟨rfl, rfl⟩) d_Por_init_16 (fun H locs hP hD hS => ?_)
  have hP : va_P D classes [(h0, .inr (8, [.ref r1, .ref r2, .ref r3, .null]))] H := hP
  have hD : va_D A [(h0, .inr (8, [.ref r1, .ref r2, .ref r3, .null]))] := hD
  refine lv_aload_n hx hb d_Por_init_19 rfl (lv_at hl 0 rfl) ?_
  refine lv_aload hx hb d_Por_init_20 (lv_at hl 4 rfl) ?_
  refine kput (v := .ref r4) (ty := (.object "SmallComputer$Channel")) hx hb hts hown hin hK hP hD hS 0 rfl 3 rfl (by decide) (xk 23 rfl) (by decide +kernel) rfl rfl (Nat.le_of_ble_eq_true rfl) (Or.inr ⟨rfl, rfl⟩) d_Por_init_22 (fun H locs hP hD hS => ?_)
  have hP : va_P D classes [(h0, .inr (8, [.ref r1, .ref r2, .ref r3, .ref r4]))] H := hP
  have hD : va_D A [(h0, .inr (8, [.ref r1, .ref r2, .ref r3, .ref r4]))] := hD
  refine W.widen (k := 0) (n := 0) (Nat.le_of_ble_eq_true rfl) (Nat.le_of_ble_eq_true rfl) ?_
  exact W.vret hx hb hr (fun t ht hW => ⟨⟨(fun k => ([] : List Nat).getD k 0), rfl, trivial, by rw [ht]; exact hP, va_K.moved hW.alike hK, by rw [hAe]; exact hD⟩, by rw [hAe]; exact hS.F ht⟩) hS.2.2 d_Por_init_25
theorem d_Dec_init_0 : decode b_Dec_init 0 = .ok (.aload_n 0, 1) := by decide +kernel
theorem d_Dec_init_1 : decode b_Dec_init 1 = .ok (.invokespecial 1, 3) := by decide +kernel
theorem d_Dec_init_4 : decode b_Dec_init 4 = .ok (.aload_n 0, 1) := by decide +kernel
theorem d_Dec_init_5 : decode b_Dec_init 5 = .ok (.aload_n 1, 1) := by decide +kernel
theorem d_Dec_init_6 : decode b_Dec_init 6 = .ok (.putfield 7, 3) := by decide +kernel
theorem d_Dec_init_9 : decode b_Dec_init 9 = .ok (.aload_n 0, 1) := by decide +kernel
theorem d_Dec_init_10 : decode b_Dec_init 10 = .ok (.aload_n 2, 1) := by decide +kernel
theorem d_Dec_init_11 : decode b_Dec_init 11 = .ok (.putfield 13, 3) := by decide +kernel
theorem d_Dec_init_14 : decode b_Dec_init 14 = .ok (.return_, 1) := by decide +kernel
def wo_Dec_init (h0 : Nat) (r1 : Nat) (r2 : Nat) (u : Nat → Nat) : va_W := [(h0, .inr (9, [.ref r1, .ref r2, .int 0, .int 0, .int 0, .int 0, .int 0, .int 0, .int 0, .int 0, .int 0, .int 0]))]
def ty_Dec_init (u : Nat → Nat) : List (ClassId × FieldType) := []
set_option maxRecDepth 100000 in
set_option maxHeartbeats 4000000 in
theorem c_Dec_init (l : Launch) (D : va_G) (h0 : Nat) (r1 : Nat) (r2 : Nat) (sz : Nat) : Met l y_Dec_init (Cond.code y_Dec_init b_Dec_init 3 none :: WK) ({ frames := 1, cells := 0, slots := 0, locals := 12 }) (KPre D [.ref r1, .ref r2] h0 9 [.null, .null, .int 0, .int 0, .int 0, .int 0, .int 0, .int 0, .int 0, .int 0, .int 0, .int 0] sz) (KPost D h0 9 [.null, .null, .int 0, .int 0, .int 0, .int 0, .int 0, .int 0, .int 0, .int 0, .int 0, .int 0] (wo_Dec_init h0 r1 r2) ty_Dec_init sz) 0 0 (va_A [(h0, .inr (9, [.null, .null, .int 0, .int 0, .int 0, .int 0, .int 0, .int 0, .int 0, .int 0, .int 0, .int 0]))] sz) := by
  refine Met.ofW (cc := b_Dec_init) (maxL := 3) (ret := none) (by decide +kernel) rfl ?_
  intro p e s m args below meth c s₁ B hml hv
  obtain ⟨rfl, hsz, hP, hK, hD0⟩ := hv
  have hx := B.exec
  have hb := B.bytes
  have hr := B.returns
  have hts : ∀ w ∈ WK, w.before ([.ref h0, .ref r1, .ref r2] : List Value).toArray s = true := fun w hw => atoms_spec (ws := Cond.code y_Dec_init b_Dec_init 3 none :: WK) B.pre w (List.mem_cons_of_mem _ hw)
  have hown : s.vm.findClass R_Dec = some m.cls := findClass_of_methodNamed B.named
  have hlocks := B.notSynchronized
  have hin : meth.name = "<init>" := (name_of_methodNamed B.named B.method).1
  subst hsz
  have hD := hD0.self (sz := s.heap.size)
  generalize hAe : va_A [(h0, .inr (9, [.null, .null, .int 0, .int 0, .int 0, .int 0, .int 0, .int 0, .int 0, .int 0, .int 0, .int 0]))] s.heap.size = A at hD ⊢
  have hA : ∀ q : Nat, s.heap.size ≤ q → A q := fun q h => by rw [← hAe]; exact Or.inr h
  have hS : va_S A s.heap s.heap [] := va_S.rf
  have hP : va_P D classes [(h0, .inr (9, [.null, .null, .int 0, .int 0, .int 0, .int 0, .int 0, .int 0, .int 0, .int 0, .int 0, .int 0]))] s.heap := hP
  have hl := lv_entry ([.ref h0, .ref r1, .ref r2]) (n := 3) (Nat.le_of_ble_eq_true rfl)
  rw [lg_entry_eq]
  generalize (lg_sl ([.ref h0, .ref r1, .ref r2]) ++ List.replicate (3 - (lg_sl ([.ref h0, .ref r1, .ref r2])).length) Slot.unset).toArray = ls at hl ⊢
  have hl : lv_has ls 3 [(0, .ref h0), (1, .ref r1), (2, .ref r2)] := hl
  refine lv_aload_n hx hb d_Dec_init_0 rfl (lv_at hl 0 rfl) ?_
  refine W.objInit hx hb hown (hts _ (xk 24 rfl)) (hts _ (xk 1 rfl)) (hts _ (xk 2 rfl)) rfl (by rw [hml]; exact hl.1) rfl d_Dec_init_1 (Nat.le_of_ble_eq_true rfl) (Nat.le_of_ble_eq_true rfl) ?_
  refine W.eq (g2 := F0 m 4 ls []) rfl ?_
  refine lv_aload_n hx hb d_Dec_init_4 rfl (lv_at hl 0 rfl) ?_
  refine lv_aload_n hx hb d_Dec_init_5 rfl (lv_at hl 1 rfl) ?_
  refine kput (v := .ref r1) (ty := (.object "SmallComputer$Memory")) hx hb hts hown hin hK hP hD hS 0 rfl 0 rfl (by decide) (xk 25 rfl) (by decide +kernel) rfl rfl (Nat.le_of_ble_eq_true rfl) (Or.inr ⟨rfl, rfl⟩) d_Dec_init_6 (fun H locs hP hD hS => ?_)
  have hP : va_P D classes [(h0, .inr (9, [.ref r1, .null, .int 0, .int 0, .int 0, .int 0, .int 0, .int 0, .int 0, .int 0, .int 0, .int 0]))] H := hP
  have hD : va_D A [(h0, .inr (9, [.ref r1, .null, .int 0, .int 0, .int 0, .int 0, .int 0, .int 0, .int 0, .int 0, .int 0, .int 0]))] := hD
  refine lv_aload_n hx hb d_Dec_init_9 rfl (lv_at hl 0 rfl) ?_
  refine lv_aload_n hx hb d_Dec_init_10 rfl (lv_at hl 2 rfl) ?_
  refine kput (v := .ref r2) (ty := (.object "SmallComputer$Registers")) hx hb hts hown hin hK hP hD hS 0 rfl 1 rfl (by decide) (xk 26 rfl) (by decide +kernel) rfl rfl (Nat.le_of_ble_eq_true rfl) (Or.inr ⟨rfl, rfl⟩) d_Dec_init_11 (fun H locs hP hD hS => ?_)
  have hP : va_P D classes [(h0, .inr (9, [.ref r1, .ref r2, .int 0, .int 0, .int 0, .int 0, .int 0, .int 0, .int 0, .int 0, .int 0, .int 0]))] H := hP
  have hD : va_D A [(h0, .inr (9, [.ref r1, .ref r2, .int 0, .int 0, .int 0, .int 0, .int 0, .int 0, .int 0, .int 0, .int 0, .int 0]))] := hD
  refine W.widen (k := 0) (n := 0) (Nat.le_of_ble_eq_true rfl) (Nat.le_of_ble_eq_true rfl) ?_
  exact W.vret hx hb hr (fun t ht hW => ⟨⟨(fun k => ([] : List Nat).getD k 0), rfl, trivial, by rw [ht]; exact hP, va_K.moved hW.alike hK, by rw [hAe]; exact hD⟩, by rw [hAe]; exact hS.F ht⟩) hS.2.2 d_Dec_init_14
theorem d_Pro_init_0 : decode b_Pro_init 0 = .ok (.aload_n 0, 1) := by decide +kernel
theorem d_Pro_init_1 : decode b_Pro_init 1 = .ok (.invokespecial 1, 3) := by decide +kernel
theorem d_Pro_init_4 : decode b_Pro_init 4 = .ok (.aload_n 0, 1) := by decide +kernel
theorem d_Pro_init_5 : decode b_Pro_init 5 = .ok (.aload_n 1, 1) := by decide +kernel
theorem d_Pro_init_6 : decode b_Pro_init 6 = .ok (.putfield 7, 3) := by decide +kernel
theorem d_Pro_init_9 : decode b_Pro_init 9 = .ok (.aload_n 0, 1) := by decide +kernel
theorem d_Pro_init_10 : decode b_Pro_init 10 = .ok (.aload_n 2, 1) := by decide +kernel
theorem d_Pro_init_11 : decode b_Pro_init 11 = .ok (.putfield 13, 3) := by decide +kernel
theorem d_Pro_init_14 : decode b_Pro_init 14 = .ok (.aload_n 0, 1) := by decide +kernel
theorem d_Pro_init_15 : decode b_Pro_init 15 = .ok (.aload_n 3, 1) := by decide +kernel
theorem d_Pro_init_16 : decode b_Pro_init 16 = .ok (.putfield 17, 3) := by decide +kernel
theorem d_Pro_init_19 : decode b_Pro_init 19 = .ok (.aload_n 0, 1) := by decide +kernel
theorem d_Pro_init_20 : decode b_Pro_init 20 = .ok (.aload 4, 2) := by decide +kernel
theorem d_Pro_init_22 : decode b_Pro_init 22 = .ok (.putfield 21, 3) := by decide +kernel
theorem d_Pro_init_25 : decode b_Pro_init 25 = .ok (.aload_n 0, 1) := by decide +kernel
theorem d_Pro_init_26 : decode b_Pro_init 26 = .ok (.aload 5, 2) := by decide +kernel
theorem d_Pro_init_28 : decode b_Pro_init 28 = .ok (.putfield 25, 3) := by decide +kernel
theorem d_Pro_init_31 : decode b_Pro_init 31 = .ok (.aload_n 0, 1) := by decide +kernel
theorem d_Pro_init_32 : decode b_Pro_init 32 = .ok (.new 29, 3) := by decide +kernel
theorem d_Pro_init_35 : decode b_Pro_init 35 = .ok (.dup, 1) := by decide +kernel
theorem d_Pro_init_36 : decode b_Pro_init 36 = .ok (.aload_n 1, 1) := by decide +kernel
theorem d_Pro_init_37 : decode b_Pro_init 37 = .ok (.aload_n 2, 1) := by decide +kernel
theorem d_Pro_init_38 : decode b_Pro_init 38 = .ok (.invokespecial 31, 3) := by decide +kernel
theorem d_Pro_init_41 : decode b_Pro_init 41 = .ok (.putfield 34, 3) := by decide +kernel
theorem d_Pro_init_44 : decode b_Pro_init 44 = .ok (.return_, 1) := by decide +kernel
def wo_Pro_init (h0 : Nat) (r1 : Nat) (r2 : Nat) (r3 : Nat) (r4 : Nat) (r5 : Nat) (u : Nat → Nat) : va_W := [(h0, .inr (10, [.ref r1, .ref r2, .ref r3, .ref r4, .ref r5, .ref (u 0), .int 0, .int 0, .int 0])), ((u 0), .inr (9, [.ref r1, .ref r2, .int 0, .int 0, .int 0, .int 0, .int 0, .int 0, .int 0, .int 0, .int 0, .int 0]))]
def ty_Pro_init (u : Nat → Nat) : List (ClassId × FieldType) := []
set_option maxRecDepth 100000 in
set_option maxHeartbeats 4000000 in
theorem c_Pro_init (l : Launch) (D : va_G) (h0 : Nat) (r1 : Nat) (r2 : Nat) (r3 : Nat) (r4 : Nat) (r5 : Nat) (sz : Nat) : Met l y_Pro_init (Cond.code y_Pro_init b_Pro_init 6 none :: WK) ({ frames := 2, cells := 1, slots := 12, locals := 34 }) (KPre D [.ref r1, .ref r2, .ref r3, .ref r4, .ref r5] h0 10 [.null, .null, .null, .null, .null, .null, .int 0, .int 0, .int 0] sz) (KPost D h0 10 [.null, .null, .null, .null, .null, .null, .int 0, .int 0, .int 0] (wo_Pro_init h0 r1 r2 r3 r4 r5) ty_Pro_init sz) 1 12 (va_A [(h0, .inr (10, [.null, .null, .null, .null, .null, .null, .int 0, .int 0, .int 0]))] sz) := by
  refine Met.ofW (cc := b_Pro_init) (maxL := 6) (ret := none) (by decide +kernel) rfl ?_
  intro p e s m args below meth c s₁ B hml hv
  obtain ⟨rfl, hsz, hP, hK, hD0⟩ := hv
  have hx := B.exec
  have hb := B.bytes
  have hr := B.returns
  have hts : ∀ w ∈ WK, w.before ([.ref h0, .ref r1, .ref r2, .ref r3, .ref r4, .ref r5] : List Value).toArray s = true := fun w hw => atoms_spec (ws := Cond.code y_Pro_init b_Pro_init 6 none :: WK) B.pre w (List.mem_cons_of_mem _ hw)
  have hown : s.vm.findClass R_Pro = some m.cls := findClass_of_methodNamed B.named
  have hlocks := B.notSynchronized
  have hin : meth.name = "<init>" := (name_of_methodNamed B.named B.method).1
  subst hsz
  have hD := hD0.self (sz := s.heap.size)
  generalize hAe : va_A [(h0, .inr (10, [.null, .null, .null, .null, .null, .null, .int 0, .int 0, .int 0]))] s.heap.size = A at hD ⊢
  have hA : ∀ q : Nat, s.heap.size ≤ q → A q := fun q h => by rw [← hAe]; exact Or.inr h
  have hS : va_S A s.heap s.heap [] := va_S.rf
  have hP : va_P D classes [(h0, .inr (10, [.null, .null, .null, .null, .null, .null, .int 0, .int 0, .int 0]))] s.heap := hP
  have hl := lv_entry ([.ref h0, .ref r1, .ref r2, .ref r3, .ref r4, .ref r5]) (n := 6) (Nat.le_of_ble_eq_true rfl)
  rw [lg_entry_eq]
  generalize (lg_sl ([.ref h0, .ref r1, .ref r2, .ref r3, .ref r4, .ref r5]) ++ List.replicate (6 - (lg_sl ([.ref h0, .ref r1, .ref r2, .ref r3, .ref r4, .ref r5])).length) Slot.unset).toArray = ls at hl ⊢
  have hl : lv_has ls 6 [(0, .ref h0), (1, .ref r1), (2, .ref r2), (3, .ref r3), (4, .ref r4), (5, .ref r5)] := hl
  refine lv_aload_n hx hb d_Pro_init_0 rfl (lv_at hl 0 rfl) ?_
  refine W.objInit hx hb hown (hts _ (xk 27 rfl)) (hts _ (xk 1 rfl)) (hts _ (xk 2 rfl)) rfl (by rw [hml]; exact hl.1) rfl d_Pro_init_1 (Nat.le_of_ble_eq_true rfl) (Nat.le_of_ble_eq_true rfl) ?_
  refine W.eq (g2 := F0 m 4 ls []) rfl ?_
  refine lv_aload_n hx hb d_Pro_init_4 rfl (lv_at hl 0 rfl) ?_
  refine lv_aload_n hx hb d_Pro_init_5 rfl (lv_at hl 1 rfl) ?_
  refine kput (v := .ref r1) (ty := (.object "SmallComputer$Memory")) hx hb hts hown hin hK hP hD hS 0 rfl 0 rfl (by decide) (xk 28 rfl) (by decide +kernel) rfl rfl (Nat.le_of_ble_eq_true rfl) (Or.inr ⟨rfl, rfl⟩) d_Pro_init_6 (fun H locs hP hD hS => ?_)
  have hP : va_P D classes [(h0, .inr (10, [.ref r1, .null, .null, .null, .null, .null, .int 0, .int 0, .int 0]))] H := hP
  have hD : va_D A [(h0, .inr (10, [.ref r1, .null, .null, .null, .null, .null, .int 0, .int 0, .int 0]))] := hD
  refine lv_aload_n hx hb d_Pro_init_9 rfl (lv_at hl 0 rfl) ?_
  refine lv_aload_n hx hb d_Pro_init_10 rfl (lv_at hl 2 rfl) ?_
  refine kput (v := .ref r2) (ty := (.object "SmallComputer$Registers")) hx hb hts hown hin hK hP hD hS 0 rfl 1 rfl (by decide) (xk 29 rfl) (by decide +kernel) rfl rfl (Nat.le_of_ble_eq_true rfl) (Or.inr ⟨rfl, rfl⟩) d_Pro_init_11 (fun H locs hP hD hS => ?_)
  have hP : va_P D classes [(h0, .inr (10, [.ref r1, .ref r2, .null, .null, .null, .null, .int 0, .int 0, .int 0]))] H := hP
  have hD : va_D A [(h0, .inr (10, [.ref r1, .ref r2, .null, .null, .null, .null, .int 0, .int 0, .int 0]))] := hD
  refine lv_aload_n hx hb d_Pro_init_14 rfl (lv_at hl 0 rfl) ?_
  refine lv_aload_n hx hb d_Pro_init_15 rfl (lv_at hl 3 rfl) ?_
  refine kput (v := .ref r3) (ty := (.object "SmallComputer$Flags")) hx hb hts hown hin hK hP hD hS 0 rfl 2 rfl (by decide) (xk 30 rfl) (by decide +kernel) rfl rfl (Nat.le_of_ble_eq_true rfl) (Or.inr ⟨rfl, rfl⟩) d_Pro_init_16 (fun H locs hP hD hS => ?_)
  have hP : va_P D classes [(h0, .inr (10, [.ref r1, .ref r2, .ref r3, .null, .null, .null, .int 0, .int 0, .int 0]))] H := hP
  have hD : va_D A [(h0, .inr (10, [.ref r1, .ref r2, .ref r3, .null, .null, .null, .int 0, .int 0, .int 0]))] := hD
  refine lv_aload_n hx hb d_Pro_init_19 rfl (lv_at hl 0 rfl) ?_
  refine lv_aload hx hb d_Pro_init_20 (lv_at hl 4 rfl) ?_
  refine kput (v := .ref r4) (ty := (.object "SmallComputer$Controller")) hx hb hts hown hin hK hP hD hS 0 rfl 3 rfl (by decide) (xk 31 rfl) (by decide +kernel) rfl rfl (Nat.le_of_ble_eq_true rfl) (Or.inr ⟨rfl, rfl⟩) d_Pro_init_22 (fun H locs hP hD hS => ?_)
  have hP : va_P D classes [(h0, .inr (10, [.ref r1, .ref r2, .ref r3, .ref r4, .null, .null, .int 0, .int 0, .int 0]))] H := hP
  have hD : va_D A [(h0, .inr (10, [.ref r1, .ref r2, .ref r3, .ref r4, .null, .null, .int 0, .int 0, .int 0]))] := hD
  refine lv_aload_n hx hb d_Pro_init_25 rfl (lv_at hl 0 rfl) ?_
  refine lv_aload hx hb d_Pro_init_26 (lv_at hl 5 rfl) ?_
  refine kput (v := .ref r5) (ty := (.object "SmallComputer$Ports")) hx hb hts hown hin hK hP hD hS 0 rfl 4 rfl (by decide) (xk 32 rfl) (by decide +kernel) rfl rfl (Nat.le_of_ble_eq_true rfl) (Or.inr ⟨rfl, rfl⟩) d_Pro_init_28 (fun H locs hP hD hS => ?_)
  have hP : va_P D classes [(h0, .inr (10, [.ref r1, .ref r2, .ref r3, .ref r4, .ref r5, .null, .int 0, .int 0, .int 0]))] H := hP
  have hD : va_D A [(h0, .inr (10, [.ref r1, .ref r2, .ref r3, .ref r4, .ref r5, .null, .int 0, .int 0, .int 0]))] := hD
  refine lv_aload_n hx hb d_Pro_init_31 rfl (lv_at hl 0 rfl) ?_
  refine knew (ci := 9) (fs := [.null, .null, .int 0, .int 0, .int 0, .int 0, .int 0, .int 0, .int 0, .int 0, .int 0, .int 0]) hx hb hts hown hK hP hD hS hA rfl (xk 33 rfl) (xk 34 rfl) (xk 35 rfl) (df_Dec) (Nat.le_of_ble_eq_true rfl) (Nat.le_of_ble_eq_true rfl) d_Pro_init_32 (fun q32 H hP hD hS => ?_)
  have hP : va_P D classes [(h0, .inr (10, [.ref r1, .ref r2, .ref r3, .ref r4, .ref r5, .null, .int 0, .int 0, .int 0])), (q32, .inr (9, [.null, .null, .int 0, .int 0, .int 0, .int 0, .int 0, .int 0, .int 0, .int 0, .int 0, .int 0]))] H := hP
  have hD : va_D A [(h0, .inr (10, [.ref r1, .ref r2, .ref r3, .ref r4, .ref r5, .null, .int 0, .int 0, .int 0])), (q32, .inr (9, [.null, .null, .int 0, .int 0, .int 0, .int 0, .int 0, .int 0, .int 0, .int 0, .int 0, .int 0]))] := hD
  refine lv_dup hx hb d_Pro_init_35 rfl ?_
  refine lv_aload_n hx hb d_Pro_init_36 rfl (lv_at hl 1 rfl) ?_
  refine lv_aload_n hx hb d_Pro_init_37 rfl (lv_at hl 2 rfl) ?_
  refine kjoin (va_runI (As := [.ref r1, .ref r2]) (rest := [.ref q32, .ref h0]) ⟨hx, hb, hml, hown, hts⟩ (c_Dec_init l D q32 r1 r2 H.size) (cwI 2 hts (goodWK (xk 37 rfl)) rfl rfl rfl (hts _ (xk 35 rfl)) (hts _ (xk 38 rfl)) (hts _ (xk 36 rfl)) rfl (by decide +kernel) ⟨Nat.le_of_ble_eq_true rfl, Nat.le_of_ble_eq_true rfl⟩) (kpre hK hP hD 1 rfl [.ref r1, .ref r2]) rfl rfl hl.1 rfl (lv_room (Nat.le_of_ble_eq_true rfl)) d_Pro_init_38 ⟨Nat.le_of_ble_eq_true rfl, Nat.le_of_ble_eq_true rfl⟩) hK hP hD hS hA 1 rfl [0] (wr := [(h0, .inr (10, [.ref r1, .ref r2, .ref r3, .ref r4, .ref r5, .null, .int 0, .int 0, .int 0]))]) rfl (by decide) (by decide) (fun u38 H locs hP hD hK hS => ?_)
  have hP : va_P D classes [(h0, .inr (10, [.ref r1, .ref r2, .ref r3, .ref r4, .ref r5, .null, .int 0, .int 0, .int 0])), (q32, .inr (9, [.ref r1, .ref r2, .int 0, .int 0, .int 0, .int 0, .int 0, .int 0, .int 0, .int 0, .int 0, .int 0]))] H := hP
  have hD : va_D A [(h0, .inr (10, [.ref r1, .ref r2, .ref r3, .ref r4, .ref r5, .null, .int 0, .int 0, .int 0])), (q32, .inr (9, [.ref r1, .ref r2, .int 0, .int 0, .int 0, .int 0, .int 0, .int 0, .int 0, .int 0, .int 0, .int 0]))] := hD
  have hK : va_K D classes [] s := hK
  refine kput (v := .ref q32) (ty := (.object "SmallComputer$Decoder")) hx hb hts hown hin hK hP hD hS 0 rfl 5 rfl (by decide) (xk 39 rfl) (by decide +kernel) rfl rfl (Nat.le_of_ble_eq_true rfl) (Or.inr ⟨rfl, rfl⟩) d_Pro_init_41 (fun H locs hP hD hS => ?_)
  have hP : va_P D classes [(h0, .inr (10, [.ref r1, .ref r2, .ref r3, .ref r4, .ref r5, .ref q32, .int 0, .int 0, .int 0])), (q32, .inr (9, [.ref r1, .ref r2, .int 0, .int 0, .int 0, .int 0, .int 0, .int 0, .int 0, .int 0, .int 0, .int 0]))] H := hP
  have hD : va_D A [(h0, .inr (10, [.ref r1, .ref r2, .ref r3, .ref r4, .ref r5, .ref q32, .int 0, .int 0, .int 0])), (q32, .inr (9, [.ref r1, .ref r2, .int 0, .int 0, .int 0, .int 0, .int 0, .int 0, .int 0, .int 0, .int 0, .int 0]))] := hD
  refine W.widen (k := 1) (n := 12) (Nat.le_of_ble_eq_true rfl) (Nat.le_of_ble_eq_true rfl) ?_
  exact W.vret hx hb hr (fun t ht hW => ⟨⟨(fun k => ([q32] : List Nat).getD k 0), rfl, trivial, by rw [ht]; exact hP, va_K.moved hW.alike hK, by rw [hAe]; exact hD⟩, by rw [hAe]; exact hS.F ht⟩) hS.2.2 d_Pro_init_44
theorem d_SC_init_0 : decode b_SC_init 0 = .ok (.aload_n 0, 1) := by decide +kernel
theorem d_SC_init_1 : decode b_SC_init 1 = .ok (.invokespecial 1, 3) := by decide +kernel
theorem d_SC_init_4 : decode b_SC_init 4 = .ok (.aload_n 0, 1) := by decide +kernel
theorem d_SC_init_5 : decode b_SC_init 5 = .ok (.new 7, 3) := by decide +kernel
theorem d_SC_init_8 : decode b_SC_init 8 = .ok (.dup, 1) := by decide +kernel
theorem d_SC_init_9 : decode b_SC_init 9 = .ok (.invokespecial 9, 3) := by decide +kernel
theorem d_SC_init_12 : decode b_SC_init 12 = .ok (.putfield 10, 3) := by decide +kernel
theorem d_SC_init_15 : decode b_SC_init 15 = .ok (.aload_n 0, 1) := by decide +kernel
theorem d_SC_init_16 : decode b_SC_init 16 = .ok (.new 16, 3) := by decide +kernel
theorem d_SC_init_19 : decode b_SC_init 19 = .ok (.dup, 1) := by decide +kernel
theorem d_SC_init_20 : decode b_SC_init 20 = .ok (.invokespecial 18, 3) := by decide +kernel
theorem d_SC_init_23 : decode b_SC_init 23 = .ok (.putfield 19, 3) := by decide +kernel
theorem d_SC_init_26 : decode b_SC_init 26 = .ok (.aload_n 0, 1) := by decide +kernel
theorem d_SC_init_27 : decode b_SC_init 27 = .ok (.new 23, 3) := by decide +kernel
theorem d_SC_init_30 : decode b_SC_init 30 = .ok (.dup, 1) := by decide +kernel
theorem d_SC_init_31 : decode b_SC_init 31 = .ok (.invokespecial 25, 3) := by decide +kernel
theorem d_SC_init_34 : decode b_SC_init 34 = .ok (.putfield 26, 3) := by decide +kernel
theorem d_SC_init_37 : decode b_SC_init 37 = .ok (.aload_n 0, 1) := by decide +kernel
theorem d_SC_init_38 : decode b_SC_init 38 = .ok (.new 30, 3) := by decide +kernel
theorem d_SC_init_41 : decode b_SC_init 41 = .ok (.dup, 1) := by decide +kernel
theorem d_SC_init_42 : decode b_SC_init 42 = .ok (.invokespecial 32, 3) := by decide +kernel
theorem d_SC_init_45 : decode b_SC_init 45 = .ok (.putfield 33, 3) := by decide +kernel
theorem d_SC_init_48 : decode b_SC_init 48 = .ok (.aload_n 0, 1) := by decide +kernel
theorem d_SC_init_49 : decode b_SC_init 49 = .ok (.new 37, 3) := by decide +kernel
theorem d_SC_init_52 : decode b_SC_init 52 = .ok (.dup, 1) := by decide +kernel
theorem d_SC_init_53 : decode b_SC_init 53 = .ok (.aload_n 0, 1) := by decide +kernel
theorem d_SC_init_54 : decode b_SC_init 54 = .ok (.getfield 33, 3) := by decide +kernel
theorem d_SC_init_57 : decode b_SC_init 57 = .ok (.invokespecial 39, 3) := by decide +kernel
theorem d_SC_init_60 : decode b_SC_init 60 = .ok (.putfield 42, 3) := by decide +kernel
theorem d_SC_init_63 : decode b_SC_init 63 = .ok (.aload_n 0, 1) := by decide +kernel
theorem d_SC_init_64 : decode b_SC_init 64 = .ok (.new 46, 3) := by decide +kernel
theorem d_SC_init_67 : decode b_SC_init 67 = .ok (.dup, 1) := by decide +kernel
theorem d_SC_init_68 : decode b_SC_init 68 = .ok (.aload_n 0, 1) := by decide +kernel
theorem d_SC_init_69 : decode b_SC_init 69 = .ok (.getfield 33, 3) := by decide +kernel
theorem d_SC_init_72 : decode b_SC_init 72 = .ok (.invokespecial 48, 3) := by decide +kernel
theorem d_SC_init_75 : decode b_SC_init 75 = .ok (.putfield 49, 3) := by decide +kernel
theorem d_SC_init_78 : decode b_SC_init 78 = .ok (.aload_n 0, 1) := by decide +kernel
theorem d_SC_init_79 : decode b_SC_init 79 = .ok (.new 53, 3) := by decide +kernel
theorem d_SC_init_82 : decode b_SC_init 82 = .ok (.dup, 1) := by decide +kernel
theorem d_SC_init_83 : decode b_SC_init 83 = .ok (.aload_n 0, 1) := by decide +kernel
theorem d_SC_init_84 : decode b_SC_init 84 = .ok (.getfield 33, 3) := by decide +kernel
theorem d_SC_init_87 : decode b_SC_init 87 = .ok (.aload_n 0, 1) := by decide +kernel
theorem d_SC_init_88 : decode b_SC_init 88 = .ok (.getfield 10, 3) := by decide +kernel
theorem d_SC_init_91 : decode b_SC_init 91 = .ok (.invokespecial 55, 3) := by decide +kernel
theorem d_SC_init_94 : decode b_SC_init 94 = .ok (.putfield 58, 3) := by decide +kernel
theorem d_SC_init_97 : decode b_SC_init 97 = .ok (.aload_n 0, 1) := by decide +kernel
theorem d_SC_init_98 : decode b_SC_init 98 = .ok (.new 62, 3) := by decide +kernel
theorem d_SC_init_101 : decode b_SC_init 101 = .ok (.dup, 1) := by decide +kernel
theorem d_SC_init_102 : decode b_SC_init 102 = .ok (.aload_n 0, 1) := by decide +kernel
theorem d_SC_init_103 : decode b_SC_init 103 = .ok (.getfield 10, 3) := by decide +kernel
theorem d_SC_init_106 : decode b_SC_init 106 = .ok (.aload_n 0, 1) := by decide +kernel
theorem d_SC_init_107 : decode b_SC_init 107 = .ok (.getfield 19, 3) := by decide +kernel
theorem d_SC_init_110 : decode b_SC_init 110 = .ok (.aload_n 0, 1) := by decide +kernel
theorem d_SC_init_111 : decode b_SC_init 111 = .ok (.getfield 26, 3) := by decide +kernel
theorem d_SC_init_114 : decode b_SC_init 114 = .ok (.aload_n 0, 1) := by decide +kernel
theorem d_SC_init_115 : decode b_SC_init 115 = .ok (.getfield 33, 3) := by decide +kernel
theorem d_SC_init_118 : decode b_SC_init 118 = .ok (.new 64, 3) := by decide +kernel
theorem d_SC_init_121 : decode b_SC_init 121 = .ok (.dup, 1) := by decide +kernel
theorem d_SC_init_122 : decode b_SC_init 122 = .ok (.aload_n 0, 1) := by decide +kernel
theorem d_SC_init_123 : decode b_SC_init 123 = .ok (.getfield 33, 3) := by decide +kernel
theorem d_SC_init_126 : decode b_SC_init 126 = .ok (.aload_n 0, 1) := by decide +kernel
theorem d_SC_init_127 : decode b_SC_init 127 = .ok (.getfield 42, 3) := by decide +kernel
theorem d_SC_init_130 : decode b_SC_init 130 = .ok (.aload_n 0, 1) := by decide +kernel
theorem d_SC_init_131 : decode b_SC_init 131 = .ok (.getfield 49, 3) := by decide +kernel
theorem d_SC_init_134 : decode b_SC_init 134 = .ok (.aload_n 0, 1) := by decide +kernel
theorem d_SC_init_135 : decode b_SC_init 135 = .ok (.getfield 58, 3) := by decide +kernel
theorem d_SC_init_138 : decode b_SC_init 138 = .ok (.invokespecial 66, 3) := by decide +kernel
theorem d_SC_init_141 : decode b_SC_init 141 = .ok (.invokespecial 69, 3) := by decide +kernel
theorem d_SC_init_144 : decode b_SC_init 144 = .ok (.putfield 72, 3) := by decide +kernel
theorem d_SC_init_147 : decode b_SC_init 147 = .ok (.aload_n 0, 1) := by decide +kernel
theorem d_SC_init_148 : decode b_SC_init 148 = .ok (.getfield 19, 3) := by decide +kernel
theorem d_SC_init_151 : decode b_SC_init 151 = .ok (.getfield 76, 3) := by decide +kernel
theorem d_SC_init_154 : decode b_SC_init 154 = .ok (.iconst 4, 1) := by decide +kernel
theorem d_SC_init_155 : decode b_SC_init 155 = .ok (.sipush 256, 3) := by decide +kernel
theorem d_SC_init_158 : decode b_SC_init 158 = .ok (.iastore, 1) := by decide +kernel
theorem d_SC_init_159 : decode b_SC_init 159 = .ok (.aload_n 0, 1) := by decide +kernel
theorem d_SC_init_160 : decode b_SC_init 160 = .ok (.getfield 19, 3) := by decide +kernel
theorem d_SC_init_163 : decode b_SC_init 163 = .ok (.sipush 512, 3) := by decide +kernel
theorem d_SC_init_166 : decode b_SC_init 166 = .ok (.putfield 80, 3) := by decide +kernel
theorem d_SC_init_169 : decode b_SC_init 169 = .ok (.aload_n 0, 1) := by decide +kernel
theorem d_SC_init_170 : decode b_SC_init 170 = .ok (.sipush 512, 3) := by decide +kernel
theorem d_SC_init_173 : decode b_SC_init 173 = .ok (.putfield 84, 3) := by decide +kernel
theorem d_SC_init_176 : decode b_SC_init 176 = .ok (.return_, 1) := by decide +kernel
def wo_SC_init (h0 : Nat)  (u : Nat → Nat) : va_W := [(h0, .inr (0, [.ref (u 4), .ref (u 6), .ref (u 9), .ref (u 10), .ref (u 11), .ref (u 12), .ref (u 14), .ref (u 16), .int 512])), ((u 4), .inr (1, [.ref (u 5)])), ((u 5), .inl ((u 0), 1024, .inl (fun _ => 0))), ((u 6), .inr (2, [.ref (u 7), .ref (u 8), .int 512])), ((u 7), .inl ((u 1), 8, .inl (upd (fun _ => 0) 4 256))), ((u 8), .inl ((u 2), 4, .inl (fun _ => 0))), ((u 9), .inr (3, [.int 0])), ((u 10), .inr (4, [.int 0, .int 0, .int 255, .int 0])), ((u 11), .inr (5, [.ref (u 10), .int 0, .int 0, .int 0, .int 0, .int 0, .int 0])), ((u 12), .inr (6, [.ref (u 10), .ref (u 13), .int 0])), ((u 13), .inl ((u 3), 4, .inl (fun _ => 0))), ((u 14), .inr (7, [.ref (u 10), .ref (u 4), .int 0, .int 0, .int 0, .int 0, .int 0, .int 0])), ((u 15), .inr (8, [.ref (u 10), .ref (u 11), .ref (u 12), .ref (u 14)])), ((u 16), .inr (10, [.ref (u 4), .ref (u 6), .ref (u 9), .ref (u 10), .ref (u 15), .ref (u 17), .int 0, .int 0, .int 0])), ((u 17), .inr (9, [.ref (u 4), .ref (u 6), .int 0, .int 0, .int 0, .int 0, .int 0, .int 0, .int 0, .int 0, .int 0, .int 0]))]
def ty_SC_init (u : Nat → Nat) : List (ClassId × FieldType) := [((u 0), FieldType.int), ((u 1), FieldType.int), ((u 2), FieldType.int), ((u 3), FieldType.int)]
set_option maxRecDepth 100000 in
set_option maxHeartbeats 4000000 in
theorem c_SC_init (l : Launch) (D : va_G) (h0 : Nat)  (sz : Nat) : Met l y_SC_init (Cond.code y_SC_init b_SC_init 1 none :: WK) ({ frames := 3, cells := 14, slots := 1092, locals := 59 }) ((fun a U => KPre D [] h0 0 [.null, .null, .null, .null, .null, .null, .null, .null, .int 0] sz a U ∧ ∀ w ∈ NW, va_Nw w U)) (KPost D h0 0 [.null, .null, .null, .null, .null, .null, .null, .null, .int 0] (wo_SC_init h0 ) ty_SC_init sz) 14 1092 (va_A [(h0, .inr (0, [.null, .null, .null, .null, .null, .null, .null, .null, .int 0]))] sz) := by
  refine Met.ofW (cc := b_SC_init) (maxL := 1) (ret := none) (by decide +kernel) rfl ?_
  intro p e s m args below meth c s₁ B hml hv
  obtain ⟨⟨rfl, hsz, hP, hK, hD0⟩, hnw⟩ := hv
  have hx := B.exec
  have hb := B.bytes
  have hr := B.returns
  have hts : ∀ w ∈ WK, w.before ([.ref h0] : List Value).toArray s = true := fun w hw => atoms_spec (ws := Cond.code y_SC_init b_SC_init 1 none :: WK) B.pre w (List.mem_cons_of_mem _ hw)
  have hown : s.vm.findClass R_SC = some m.cls := findClass_of_methodNamed B.named
  have hlocks := B.notSynchronized
  have hin : meth.name = "<init>" := (name_of_methodNamed B.named B.method).1
  subst hsz
  have hD := hD0.self (sz := s.heap.size)
  generalize hAe : va_A [(h0, .inr (0, [.null, .null, .null, .null, .null, .null, .null, .null, .int 0]))] s.heap.size = A at hD ⊢
  have hA : ∀ q : Nat, s.heap.size ≤ q → A q := fun q h => by rw [← hAe]; exact Or.inr h
  have hS : va_S A s.heap s.heap [] := va_S.rf
  have hP : va_P D classes [(h0, .inr (0, [.null, .null, .null, .null, .null, .null, .null, .null, .int 0]))] s.heap := hP
  have hl := lv_entry ([.ref h0]) (n := 1) (Nat.le_of_ble_eq_true rfl)
  rw [lg_entry_eq]
  generalize (lg_sl ([.ref h0]) ++ List.replicate (1 - (lg_sl ([.ref h0])).length) Slot.unset).toArray = ls at hl ⊢
  have hl : lv_has ls 1 [(0, .ref h0)] := hl
  refine lv_aload_n hx hb d_SC_init_0 rfl (lv_at hl 0 rfl) ?_
  refine W.objInit hx hb hown (hts _ (xk 40 rfl)) (hts _ (xk 1 rfl)) (hts _ (xk 2 rfl)) rfl (by rw [hml]; exact hl.1) rfl d_SC_init_1 (Nat.le_of_ble_eq_true rfl) (Nat.le_of_ble_eq_true rfl) ?_
  refine W.eq (g2 := F0 m 4 ls []) rfl ?_
  refine lv_aload_n hx hb d_SC_init_4 rfl (lv_at hl 0 rfl) ?_
  refine knew (ci := 1) (fs := [.null]) hx hb hts hown hK hP hD hS hA rfl (xk 41 rfl) (xk 42 rfl) (xk 43 rfl) (df_Mem) (Nat.le_of_ble_eq_true rfl) (Nat.le_of_ble_eq_true rfl) d_SC_init_5 (fun q5 H hP hD hS => ?_)
  have hP : va_P D classes [(h0, .inr (0, [.null, .null, .null, .null, .null, .null, .null, .null, .int 0])), (q5, .inr (1, [.null]))] H := hP
  have hD : va_D A [(h0, .inr (0, [.null, .null, .null, .null, .null, .null, .null, .null, .int 0])), (q5, .inr (1, [.null]))] := hD
  refine lv_dup hx hb d_SC_init_8 rfl ?_
  refine kjoin (va_runIN (host := R_SC) (As := []) (rest := [.ref q5, .ref h0]) ⟨hx, hb, hml, hown, hts⟩ (c_Mem_init l D q5  H.size) ⟨va_cnB 0 hts (goodWK (xk 45 rfl)) rfl rfl rfl (hnw _ (by decide +kernel)) (hts _ (xk 43 rfl)) (by decide +kernel) ⟨Nat.le_of_ble_eq_true rfl, Nat.le_of_ble_eq_true rfl⟩, rfl, hts _ (xk 44 rfl)⟩ (kpre hK hP hD 1 rfl []) rfl rfl hl.1 rfl (lv_room (Nat.le_of_ble_eq_true rfl)) d_SC_init_9 ⟨Nat.le_of_ble_eq_true rfl, Nat.le_of_ble_eq_true rfl⟩) hK hP hD hS hA 1 rfl [0] (wr := [(h0, .inr (0, [.null, .null, .null, .null, .null, .null, .null, .null, .int 0]))]) rfl (by decide) (by decide) (fun u9 H locs hP hD hK hS => ?_)
  have hP : va_P D classes [(h0, .inr (0, [.null, .null, .null, .null, .null, .null, .null, .null, .int 0])), (q5, .inr (1, [.ref (u9 1)])), ((u9 1), .inl ((u9 0), 1024, .inl (fun _ => 0)))] H := hP
  have hD : va_D A [(h0, .inr (0, [.null, .null, .null, .null, .null, .null, .null, .null, .int 0])), (q5, .inr (1, [.ref (u9 1)])), ((u9 1), .inl ((u9 0), 1024, .inl (fun _ => 0)))] := hD
  have hK : va_K D classes [((u9 0), FieldType.int)] s := hK
  refine kput (v := .ref q5) (ty := (.object "SmallComputer$Memory")) hx hb hts hown hin hK hP hD hS 0 rfl 0 rfl (by decide) (xk 46 rfl) (by decide +kernel) rfl rfl (Nat.le_of_ble_eq_true rfl) (Or.inr ⟨rfl, rfl⟩) d_SC_init_12 (fun H locs hP hD hS => ?_)
  have hP : va_P D classes [(h0, .inr (0, [.ref q5, .null, .null, .null, .null, .null, .null, .null, .int 0])), (q5, .inr (1, [.ref (u9 1)])), ((u9 1), .inl ((u9 0), 1024, .inl (fun _ => 0)))] H := hP
  have hD : va_D A [(h0, .inr (0, [.ref q5, .null, .null, .null, .null, .null, .null, .null, .int 0])), (q5, .inr (1, [.ref (u9 1)])), ((u9 1), .inl ((u9 0), 1024, .inl (fun _ => 0)))] := hD
  refine lv_aload_n hx hb d_SC_init_15 rfl (lv_at hl 0 rfl) ?_
  refine knew (ci := 2) (fs := [.null, .null, .int 0]) hx hb hts hown hK hP hD hS hA rfl (xk 47 rfl) (xk 48 rfl) (xk 49 rfl) (df_Reg) (Nat.le_of_ble_eq_true rfl) (Nat.le_of_ble_eq_true rfl) d_SC_init_16 (fun q16 H hP hD hS => ?_)
  have hP : va_P D classes [(h0, .inr (0, [.ref q5, .null, .null, .null, .null, .null, .null, .null, .int 0])), (q5, .inr (1, [.ref (u9 1)])), ((u9 1), .inl ((u9 0), 1024, .inl (fun _ => 0))), (q16, .inr (2, [.null, .null, .int 0]))] H := hP
  have hD : va_D A [(h0, .inr (0, [.ref q5, .null, .null, .null, .null, .null, .null, .null, .int 0])), (q5, .inr (1, [.ref (u9 1)])), ((u9 1), .inl ((u9 0), 1024, .inl (fun _ => 0))), (q16, .inr (2, [.null, .null, .int 0]))] := hD
  refine lv_dup hx hb d_SC_init_19 rfl ?_
  refine kjoin (va_runIN (host := R_SC) (As := []) (rest := [.ref q16, .ref h0]) ⟨hx, hb, hml, hown, hts⟩ (c_Reg_init l D q16  H.size) ⟨va_cnB 0 hts (goodWK (xk 51 rfl)) rfl rfl rfl (hnw _ (by decide +kernel)) (hts _ (xk 49 rfl)) (by decide +kernel) ⟨Nat.le_of_ble_eq_true rfl, Nat.le_of_ble_eq_true rfl⟩, rfl, hts _ (xk 50 rfl)⟩ (kpre hK hP hD 3 rfl []) rfl rfl hl.1 rfl (lv_room (Nat.le_of_ble_eq_true rfl)) d_SC_init_20 ⟨Nat.le_of_ble_eq_true rfl, Nat.le_of_ble_eq_true rfl⟩) hK hP hD hS hA 3 rfl [0, 1, 2] (wr := [(h0, .inr (0, [.ref q5, .null, .null, .null, .null, .null, .null, .null, .int 0])), (q5, .inr (1, [.ref (u9 1)])), ((u9 1), .inl ((u9 0), 1024, .inl (fun _ => 0)))]) rfl (by decide) (by decide) (fun u20 H locs hP hD hK hS => ?_)
  have hP : va_P D classes [(h0, .inr (0, [.ref q5, .null, .null, .null, .null, .null, .null, .null, .int 0])), (q5, .inr (1, [.ref (u9 1)])), ((u9 1), .inl ((u9 0), 1024, .inl (fun _ => 0))), (q16, .inr (2, [.ref (u20 2), .ref (u20 3), .int 0])), ((u20 2), .inl ((u20 0), 8, .inl (fun _ => 0))), ((u20 3), .inl ((u20 1), 4, .inl (fun _ => 0)))] H := hP
  have hD : va_D A [(h0, .inr (0, [.ref q5, .null, .null, .null, .null, .null, .null, .null, .int 0])), (q5, .inr (1, [.ref (u9 1)])), ((u9 1), .inl ((u9 0), 1024, .inl (fun _ => 0))), (q16, .inr (2, [.ref (u20 2), .ref (u20 3), .int 0])), ((u20 2), .inl ((u20 0), 8, .inl (fun _ => 0))), ((u20 3), .inl ((u20 1), 4, .inl (fun _ => 0)))] := hD
  have hK : va_K D classes [((u9 0), FieldType.int), ((u20 0), FieldType.int), ((u20 1), FieldType.int)] s := hK
  refine kput (v := .ref q16) (ty := (.object "SmallComputer$Registers")) hx hb hts hown hin hK hP hD hS 0 rfl 1 rfl (by decide) (xk 52 rfl) (by decide +kernel) rfl rfl (Nat.le_of_ble_eq_true rfl) (Or.inr ⟨rfl, rfl⟩) d_SC_init_23 (fun H locs hP hD hS => ?_)
  have hP : va_P D classes [(h0, .inr (0, [.ref q5, .ref q16, .null, .null, .null, .null, .null, .null, .int 0])), (q5, .inr (1, [.ref (u9 1)])), ((u9 1), .inl ((u9 0), 1024, .inl (fun _ => 0))), (q16, .inr (2, [.ref (u20 2), .ref (u20 3), .int 0])), ((u20 2), .inl ((u20 0), 8, .inl (fun _ => 0))), ((u20 3), .inl ((u20 1), 4, .inl (fun _ => 0)))] H := hP
  have hD : va_D A [(h0, .inr (0, [.ref q5, .ref q16, .null, .null, .null, .null, .null, .null, .int 0])), (q5, .inr (1, [.ref (u9 1)])), ((u9 1), .inl ((u9 0), 1024, .inl (fun _ => 0))), (q16, .inr (2, [.ref (u20 2), .ref (u20 3), .int 0])), ((u20 2), .inl ((u20 0), 8, .inl (fun _ => 0))), ((u20 3), .inl ((u20 1), 4, .inl (fun _ => 0)))] := hD
  refine lv_aload_n hx hb d_SC_init_26 rfl (lv_at hl 0 rfl) ?_
  refine knew (ci := 3) (fs := [.int 0]) hx hb hts hown hK hP hD hS hA rfl (xk 53 rfl) (xk 54 rfl) (xk 55 rfl) (df_Fla) (Nat.le_of_ble_eq_true rfl) (Nat.le_of_ble_eq_true rfl) d_SC_init_27 (fun q27 H hP hD hS => ?_)
  have hP : va_P D classes [(h0, .inr (0, [.ref q5, .ref q16, .null, .null, .null, .null, .null, .null, .int 0])), (q5, .inr (1, [.ref (u9 1)])), ((u9 1), .inl ((u9 0), 1024, .inl (fun _ => 0))), (q16, .inr (2, [.ref (u20 2), .ref (u20 3), .int 0])), ((u20 2), .inl ((u20 0), 8, .inl (fun _ => 0))), ((u20 3), .inl ((u20 1), 4, .inl (fun _ => 0))), (q27, .inr (3, [.int 0]))] H := hP
  have hD : va_D A [(h0, .inr (0, [.ref q5, .ref q16, .null, .null, .null, .null, .null, .null, .int 0])), (q5, .inr (1, [.ref (u9 1)])), ((u9 1), .inl ((u9 0), 1024, .inl (fun _ => 0))), (q16, .inr (2, [.ref (u20 2), .ref (u20 3), .int 0])), ((u20 2), .inl ((u20 0), 8, .inl (fun _ => 0))), ((u20 3), .inl ((u20 1), 4, .inl (fun _ => 0))), (q27, .inr (3, [.int 0]))] := hD
  refine lv_dup hx hb d_SC_init_30 rfl ?_
  refine kjoin (va_runIN (host := R_SC) (As := []) (rest := [.ref q27, .ref h0]) ⟨hx, hb, hml, hown, hts⟩ (c_Fla_init l D q27  H.size) ⟨va_cnB 0 hts (goodWK (xk 57 rfl)) rfl rfl rfl (hnw _ (by decide +kernel)) (hts _ (xk 55 rfl)) (by decide +kernel) ⟨Nat.le_of_ble_eq_true rfl, Nat.le_of_ble_eq_true rfl⟩, rfl, hts _ (xk 56 rfl)⟩ (kpre hK hP hD 6 rfl []) rfl rfl hl.1 rfl (lv_room (Nat.le_of_ble_eq_true rfl)) d_SC_init_31 ⟨Nat.le_of_ble_eq_true rfl, Nat.le_of_ble_eq_true rfl⟩) hK hP hD hS hA 6 rfl [0, 1, 2, 3, 4, 5] (wr := [(h0, .inr (0, [.ref q5, .ref q16, .null, .null, .null, .null, .null, .null, .int 0])), (q5, .inr (1, [.ref (u9 1)])), ((u9 1), .inl ((u9 0), 1024, .inl (fun _ => 0))), (q16, .inr (2, [.ref (u20 2), .ref (u20 3), .int 0])), ((u20 2), .inl ((u20 0), 8, .inl (fun _ => 0))), ((u20 3), .inl ((u20 1), 4, .inl (fun _ => 0)))]) rfl (by decide) (by decide) (fun u31 H locs hP hD hK hS => ?_)
  have hP : va_P D classes [(h0, .inr (0, [.ref q5, .ref q16, .null, .null, .null, .null, .null, .null, .int 0])), (q5, .inr (1, [.ref (u9 1)])), ((u9 1), .inl ((u9 0), 1024, .inl (fun _ => 0))), (q16, .inr (2, [.ref (u20 2), .ref (u20 3), .int 0])), ((u20 2), .inl ((u20 0), 8, .inl (fun _ => 0))), ((u20 3), .inl ((u20 1), 4, .inl (fun _ => 0))), (q27, .inr (3, [.int 0]))] H := hP
  have hD : va_D A [(h0, .inr (0, [.ref q5, .ref q16, .null, .null, .null, .null, .null, .null, .int 0])), (q5, .inr (1, [.ref (u9 1)])), ((u9 1), .inl ((u9 0), 1024, .inl (fun _ => 0))), (q16, .inr (2, [.ref (u20 2), .ref (u20 3), .int 0])), ((u20 2), .inl ((u20 0), 8, .inl (fun _ => 0))), ((u20 3), .inl ((u20 1), 4, .inl (fun _ => 0))), (q27, .inr (3, [.int 0]))] := hD
  have hK : va_K D classes [((u9 0), FieldType.int), ((u20 0), FieldType.int), ((u20 1), FieldType.int)] s := hK
  refine kput (v := .ref q27) (ty := (.object "SmallComputer$Flags")) hx hb hts hown hin hK hP hD hS 0 rfl 2 rfl (by decide) (xk 58 rfl) (by decide +kernel) rfl rfl (Nat.le_of_ble_eq_true rfl) (Or.inr ⟨rfl, rfl⟩) d_SC_init_34 (fun H locs hP hD hS => ?_)
  have hP : va_P D classes [(h0, .inr (0, [.ref q5, .ref q16, .ref q27, .null, .null, .null, .null, .null, .int 0])), (q5, .inr (1, [.ref (u9 1)])), ((u9 1), .inl ((u9 0), 1024, .inl (fun _ => 0))), (q16, .inr (2, [.ref (u20 2), .ref (u20 3), .int 0])), ((u20 2), .inl ((u20 0), 8, .inl (fun _ => 0))), ((u20 3), .inl ((u20 1), 4, .inl (fun _ => 0))), (q27, .inr (3, [.int 0]))] H := hP
  have hD : va_D A [(h0, .inr (0, [.ref q5, .ref q16, .ref q27, .null, .null, .null, .null, .null, .int 0])), (q5, .inr (1, [.ref (u9 1)])), ((u9 1), .inl ((u9 0), 1024, .inl (fun _ => 0))), (q16, .inr (2, [.ref (u20 2), .ref (u20 3), .int 0])), ((u20 2), .inl ((u20 0), 8, .inl (fun _ => 0))), ((u20 3), .inl ((u20 1), 4, .inl (fun _ => 0))), (q27, .inr (3, [.int 0]))] := hD
  refine lv_aload_n hx hb d_SC_init_37 rfl (lv_at hl 0 rfl) ?_
  refine knew (ci := 4) (fs := [.int 0, .int 0, .int 0, .int 0]) hx hb hts hown hK hP hD hS hA rfl (xk 59 rfl) (xk 60 rfl) (xk 61 rfl) (df_Ctl) (Nat.le_of_ble_eq_true rfl) (Nat.le_of_ble_eq_true rfl) d_SC_init_38 (fun q38 H hP hD hS => ?_)
  have hP : va_P D classes [(h0, .inr (0, [.ref q5, .ref q16, .ref q27, .null, .null, .null, .null, .null, .int 0])), (q5, .inr (1, [.ref (u9 1)])), ((u9 1), .inl ((u9 0), 1024, .inl (fun _ => 0))), (q16, .inr (2, [.ref (u20 2), .ref (u20 3), .int 0])), ((u20 2), .inl ((u20 0), 8, .inl (fun _ => 0))), ((u20 3), .inl ((u20 1), 4, .inl (fun _ => 0))), (q27, .inr (3, [.int 0])), (q38, .inr (4, [.int 0, .int 0, .int 0, .int 0]))] H := hP
  have hD : va_D A [(h0, .inr (0, [.ref q5, .ref q16, .ref q27, .null, .null, .null, .null, .null, .int 0])), (q5, .inr (1, [.ref (u9 1)])), ((u9 1), .inl ((u9 0), 1024, .inl (fun _ => 0))), (q16, .inr (2, [.ref (u20 2), .ref (u20 3), .int 0])), ((u20 2), .inl ((u20 0), 8, .inl (fun _ => 0))), ((u20 3), .inl ((u20 1), 4, .inl (fun _ => 0))), (q27, .inr (3, [.int 0])), (q38, .inr (4, [.int 0, .int 0, .int 0, .int 0]))] := hD
  refine lv_dup hx hb d_SC_init_41 rfl ?_
  refine kjoin (va_runIN (host := R_SC) (As := []) (rest := [.ref q38, .ref h0]) ⟨hx, hb, hml, hown, hts⟩ (c_Ctl_init l D q38  H.size) ⟨va_cnB 0 hts (goodWK (xk 63 rfl)) rfl rfl rfl (hnw _ (by decide +kernel)) (hts _ (xk 61 rfl)) (by decide +kernel) ⟨Nat.le_of_ble_eq_true rfl, Nat.le_of_ble_eq_true rfl⟩, rfl, hts _ (xk 62 rfl)⟩ (kpre hK hP hD 7 rfl []) rfl rfl hl.1 rfl (lv_room (Nat.le_of_ble_eq_true rfl)) d_SC_init_42 ⟨Nat.le_of_ble_eq_true rfl, Nat.le_of_ble_eq_true rfl⟩) hK hP hD hS hA 7 rfl [0, 1, 2, 3, 4, 5, 6] (wr := [(h0, .inr (0, [.ref q5, .ref q16, .ref q27, .null, .null, .null, .null, .null, .int 0])), (q5, .inr (1, [.ref (u9 1)])), ((u9 1), .inl ((u9 0), 1024, .inl (fun _ => 0))), (q16, .inr (2, [.ref (u20 2), .ref (u20 3), .int 0])), ((u20 2), .inl ((u20 0), 8, .inl (fun _ => 0))), ((u20 3), .inl ((u20 1), 4, .inl (fun _ => 0))), (q27, .inr (3, [.int 0]))]) rfl (by decide) (by decide) (fun u42 H locs hP hD hK hS => ?_)
  have hP : va_P D classes [(h0, .inr (0, [.ref q5, .ref q16, .ref q27, .null, .null, .null, .null, .null, .int 0])), (q5, .inr (1, [.ref (u9 1)])), ((u9 1), .inl ((u9 0), 1024, .inl (fun _ => 0))), (q16, .inr (2, [.ref (u20 2), .ref (u20 3), .int 0])), ((u20 2), .inl ((u20 0), 8, .inl (fun _ => 0))), ((u20 3), .inl ((u20 1), 4, .inl (fun _ => 0))), (q27, .inr (3, [.int 0])), (q38, .inr (4, [.int 0, .int 0, .int 255, .int 0]))] H := hP
  have hD : va_D A [(h0, .inr (0, [.ref q5, .ref q16, .ref q27, .null, .null, .null, .null, .null, .int 0])), (q5, .inr (1, [.ref (u9 1)])), ((u9 1), .inl ((u9 0), 1024, .inl (fun _ => 0))), (q16, .inr (2, [.ref (u20 2), .ref (u20 3), .int 0])), ((u20 2), .inl ((u20 0), 8, .inl (fun _ => 0))), ((u20 3), .inl ((u20 1), 4, .inl (fun _ => 0))), (q27, .inr (3, [.int 0])), (q38, .inr (4, [.int 0, .int 0, .int 255, .int 0]))] := hD
  have hK : va_K D classes [((u9 0), FieldType.int), ((u20 0), FieldType.int), ((u20 1), FieldType.int)] s := hK
  refine kput (v := .ref q38) (ty := (.object "SmallComputer$Controller")) hx hb hts hown hin hK hP hD hS 0 rfl 3 rfl (by decide) (xk 64 rfl) (by decide +kernel) rfl rfl (Nat.le_of_ble_eq_true rfl) (Or.inr ⟨rfl, rfl⟩) d_SC_init_45 (fun H locs hP hD hS => ?_)
  have hP : va_P D classes [(h0, .inr (0, [.ref q5, .ref q16, .ref q27, .ref q38, .null, .null, .null, .null, .int 0])), (q5, .inr (1, [.ref (u9 1)])), ((u9 1), .inl ((u9 0), 1024, .inl (fun _ => 0))), (q16, .inr (2, [.ref (u20 2), .ref (u20 3), .int 0])), ((u20 2), .inl ((u20 0), 8, .inl (fun _ => 0))), ((u20 3), .inl ((u20 1), 4, .inl (fun _ => 0))), (q27, .inr (3, [.int 0])), (q38, .inr (4, [.int 0, .int 0, .int 255, .int 0]))] H := hP
  have hD : va_D A [(h0, .inr (0, [.ref q5, .ref q16, .ref q27, .ref q38, .null, .null, .null, .null, .int 0])), (q5, .inr (1, [.ref (u9 1)])), ((u9 1), .inl ((u9 0), 1024, .inl (fun _ => 0))), (q16, .inr (2, [.ref (u20 2), .ref (u20 3), .int 0])), ((u20 2), .inl ((u20 0), 8, .inl (fun _ => 0))), ((u20 3), .inl ((u20 1), 4, .inl (fun _ => 0))), (q27, .inr (3, [.int 0])), (q38, .inr (4, [.int 0, .int 0, .int 255, .int 0]))] := hD
  refine lv_aload_n hx hb d_SC_init_48 rfl (lv_at hl 0 rfl) ?_
  refine knew (ci := 5) (fs := [.null, .int 0, .int 0, .int 0, .int 0, .int 0, .int 0]) hx hb hts hown hK hP hD hS hA rfl (xk 65 rfl) (xk 66 rfl) (xk 67 rfl) (df_Tim) (Nat.le_of_ble_eq_true rfl) (Nat.le_of_ble_eq_true rfl) d_SC_init_49 (fun q49 H hP hD hS => ?_)
  have hP : va_P D classes [(h0, .inr (0, [.ref q5, .ref q16, .ref q27, .ref q38, .null, .null, .null, .null, .int 0])), (q5, .inr (1, [.ref (u9 1)])), ((u9 1), .inl ((u9 0), 1024, .inl (fun _ => 0))), (q16, .inr (2, [.ref (u20 2), .ref (u20 3), .int 0])), ((u20 2), .inl ((u20 0), 8, .inl (fun _ => 0))), ((u20 3), .inl ((u20 1), 4, .inl (fun _ => 0))), (q27, .inr (3, [.int 0])), (q38, .inr (4, [.int 0, .int 0, .int 255, .int 0])), (q49, .inr (5, [.null, .int 0, .int 0, .int 0, .int 0, .int 0, .int 0]))] H := hP
  have hD : va_D A [(h0, .inr (0, [.ref q5, .ref q16, .ref q27, .ref q38, .null, .null, .null, .null, .int 0])), (q5, .inr (1, [.ref (u9 1)])), ((u9 1), .inl ((u9 0), 1024, .inl (fun _ => 0))), (q16, .inr (2, [.ref (u20 2), .ref (u20 3), .int 0])), ((u20 2), .inl ((u20 0), 8, .inl (fun _ => 0))), ((u20 3), .inl ((u20 1), 4, .inl (fun _ => 0))), (q27, .inr (3, [.int 0])), (q38, .inr (4, [.int 0, .int 0, .int 255, .int 0])), (q49, .inr (5, [.null, .int 0, .int 0, .int 0, .int 0, .int 0, .int 0]))] := hD
  refine lv_dup hx hb d_SC_init_52 rfl ?_
  refine lv_aload_n hx hb d_SC_init_53 rfl (lv_at hl 0 rfl) ?_
  refine kget (v := .ref q38) hx hb hts hown hK hP 0 rfl 3 rfl (by decide) (xk 64 rfl) rfl d_SC_init_54 ?_
  refine kjoin (va_runI (As := [.ref q38]) (rest := [.ref q49, .ref h0]) ⟨hx, hb, hml, hown, hts⟩ (c_Tim_init l D q49 q38 H.size) (cwI 1 hts (goodWK (xk 69 rfl)) rfl rfl rfl (hts _ (xk 67 rfl)) (hts _ (xk 70 rfl)) (hts _ (xk 68 rfl)) rfl (by decide +kernel) ⟨Nat.le_of_ble_eq_true rfl, Nat.le_of_ble_eq_true rfl⟩) (kpre hK hP hD 8 rfl [.ref q38]) rfl rfl hl.1 rfl (lv_room (Nat.le_of_ble_eq_true rfl)) d_SC_init_57 ⟨Nat.le_of_ble_eq_true rfl, Nat.le_of_ble_eq_true rfl⟩) hK hP hD hS hA 8 rfl [0, 1, 2, 3, 4, 5, 6, 7] (wr := [(h0, .inr (0, [.ref q5, .ref q16, .ref q27, .ref q38, .null, .null, .null, .null, .int 0])), (q5, .inr (1, [.ref (u9 1)])), ((u9 1), .inl ((u9 0), 1024, .inl (fun _ => 0))), (q16, .inr (2, [.ref (u20 2), .ref (u20 3), .int 0])), ((u20 2), .inl ((u20 0), 8, .inl (fun _ => 0))), ((u20 3), .inl ((u20 1), 4, .inl (fun _ => 0))), (q27, .inr (3, [.int 0])), (q38, .inr (4, [.int 0, .int 0, .int 255, .int 0]))]) rfl (by decide) (by decide) (fun u57 H locs hP hD hK hS => ?_)
  have hP : va_P D classes [(h0, .inr (0, [.ref q5, .ref q16, .ref q27, .ref q38, .null, .null, .null, .null, .int 0])), (q5, .inr (1, [.ref (u9 1)])), ((u9 1), .inl ((u9 0), 1024, .inl (fun _ => 0))), (q16, .inr (2, [.ref (u20 2), .ref (u20 3), .int 0])), ((u20 2), .inl ((u20 0), 8, .inl (fun _ => 0))), ((u20 3), .inl ((u20 1), 4, .inl (fun _ => 0))), (q27, .inr (3, [.int 0])), (q38, .inr (4, [.int 0, .int 0, .int 255, .int 0])), (q49, .inr (5, [.ref q38, .int 0, .int 0, .int 0, .int 0, .int 0, .int 0]))] H := hP
  have hD : va_D A [(h0, .inr (0, [.ref q5, .ref q16, .ref q27, .ref q38, .null, .null, .null, .null, .int 0])), (q5, .inr (1, [.ref (u9 1)])), ((u9 1), .inl ((u9 0), 1024, .inl (fun _ => 0))), (q16, .inr (2, [.ref (u20 2), .ref (u20 3), .int 0])), ((u20 2), .inl ((u20 0), 8, .inl (fun _ => 0))), ((u20 3), .inl ((u20 1), 4, .inl (fun _ => 0))), (q27, .inr (3, [.int 0])), (q38, .inr (4, [.int 0, .int 0, .int 255, .int 0])), (q49, .inr (5, [.ref q38, .int 0, .int 0, .int 0, .int 0, .int 0, .int 0]))] := hD
  have hK : va_K D classes [((u9 0), FieldType.int), ((u20 0), FieldType.int), ((u20 1), FieldType.int)] s := hK
  refine kput (v := .ref q49) (ty := (.object "SmallComputer$Timer")) hx hb hts hown hin hK hP hD hS 0 rfl 4 rfl (by decide) (xk 71 rfl) (by decide +kernel) rfl rfl (Nat.le_of_ble_eq_true rfl) (Or.inr ⟨rfl, rfl⟩) d_SC_init_60 (fun H locs hP hD hS => ?_)
  have hP : va_P D classes [(h0, .inr (0, [.ref q5, .ref q16, .ref q27, .ref q38, .ref q49, .null, .null, .null, .int 0])), (q5, .inr (1, [.ref (u9 1)])), ((u9 1), .inl ((u9 0), 1024, .inl (fun _ => 0))), (q16, .inr (2, [.ref (u20 2), .ref (u20 3), .int 0])), ((u20 2), .inl ((u20 0), 8, .inl (fun _ => 0))), ((u20 3), .inl ((u20 1), 4, .inl (fun _ => 0))), (q27, .inr (3, [.int 0])), (q38, .inr (4, [.int 0, .int 0, .int 255, .int 0])), (q49, .inr (5, [.ref q38, .int 0, .int 0, .int 0, .int 0, .int 0, .int 0]))] H := hP
  have hD : va_D A [(h0, .inr (0, [.ref q5, .ref q16, .ref q27, .ref q38, .ref q49, .null, .null, .null, .int 0])), (q5, .inr (1, [.ref (u9 1)])), ((u9 1), .inl ((u9 0), 1024, .inl (fun _ => 0))), (q16, .inr (2, [.ref (u20 2), .ref (u20 3), .int 0])), ((u20 2), .inl ((u20 0), 8, .inl (fun _ => 0))), ((u20 3), .inl ((u20 1), 4, .inl (fun _ => 0))), (q27, .inr (3, [.int 0])), (q38, .inr (4, [.int 0, .int 0, .int 255, .int 0])), (q49, .inr (5, [.ref q38, .int 0, .int 0, .int 0, .int 0, .int 0, .int 0]))] := hD
  refine lv_aload_n hx hb d_SC_init_63 rfl (lv_at hl 0 rfl) ?_
  refine knew (ci := 6) (fs := [.null, .null, .int 0]) hx hb hts hown hK hP hD hS hA rfl (xk 72 rfl) (xk 73 rfl) (xk 74 rfl) (df_Key) (Nat.le_of_ble_eq_true rfl) (Nat.le_of_ble_eq_true rfl) d_SC_init_64 (fun q64 H hP hD hS => ?_)
  have hP : va_P D classes [(h0, .inr (0, [.ref q5, .ref q16, .ref q27, .ref q38, .ref q49, .null, .null, .null, .int 0])), (q5, .inr (1, [.ref (u9 1)])), ((u9 1), .inl ((u9 0), 1024, .inl (fun _ => 0))), (q16, .inr (2, [.ref (u20 2), .ref (u20 3), .int 0])), ((u20 2), .inl ((u20 0), 8, .inl (fun _ => 0))), ((u20 3), .inl ((u20 1), 4, .inl (fun _ => 0))), (q27, .inr (3, [.int 0])), (q38, .inr (4, [.int 0, .int 0, .int 255, .int 0])), (q49, .inr (5, [.ref q38, .int 0, .int 0, .int 0, .int 0, .int 0, .int 0])), (q64, .inr (6, [.null, .null, .int 0]))] H := hP
  have hD : va_D A [(h0, .inr (0, [.ref q5, .ref q16, .ref q27, .ref q38, .ref q49, .null, .null, .null, .int 0])), (q5, .inr (1, [.ref (u9 1)])), ((u9 1), .inl ((u9 0), 1024, .inl (fun _ => 0))), (q16, .inr (2, [.ref (u20 2), .ref (u20 3), .int 0])), ((u20 2), .inl ((u20 0), 8, .inl (fun _ => 0))), ((u20 3), .inl ((u20 1), 4, .inl (fun _ => 0))), (q27, .inr (3, [.int 0])), (q38, .inr (4, [.int 0, .int 0, .int 255, .int 0])), (q49, .inr (5, [.ref q38, .int 0, .int 0, .int 0, .int 0, .int 0, .int 0])), (q64, .inr (6, [.null, .null, .int 0]))] := hD
  refine lv_dup hx hb d_SC_init_67 rfl ?_
  refine lv_aload_n hx hb d_SC_init_68 rfl (lv_at hl 0 rfl) ?_
  refine kget (v := .ref q38) hx hb hts hown hK hP 0 rfl 3 rfl (by decide) (xk 64 rfl) rfl d_SC_init_69 ?_
  refine kjoin (va_runI (As := [.ref q38]) (rest := [.ref q64, .ref h0]) ⟨hx, hb, hml, hown, hts⟩ (c_Key_init l D q64 q38 H.size) (cwI 1 hts (goodWK (xk 76 rfl)) rfl rfl rfl (hts _ (xk 74 rfl)) (hts _ (xk 77 rfl)) (hts _ (xk 75 rfl)) rfl (by decide +kernel) ⟨Nat.le_of_ble_eq_true rfl, Nat.le_of_ble_eq_true rfl⟩) (kpre hK hP hD 9 rfl [.ref q38]) rfl rfl hl.1 rfl (lv_room (Nat.le_of_ble_eq_true rfl)) d_SC_init_72 ⟨Nat.le_of_ble_eq_true rfl, Nat.le_of_ble_eq_true rfl⟩) hK hP hD hS hA 9 rfl [0, 1, 2, 3, 4, 5, 6, 7, 8] (wr := [(h0, .inr (0, [.ref q5, .ref q16, .ref q27, .ref q38, .ref q49, .null, .null, .null, .int 0])), (q5, .inr (1, [.ref (u9 1)])), ((u9 1), .inl ((u9 0), 1024, .inl (fun _ => 0))), (q16, .inr (2, [.ref (u20 2), .ref (u20 3), .int 0])), ((u20 2), .inl ((u20 0), 8, .inl (fun _ => 0))), ((u20 3), .inl ((u20 1), 4, .inl (fun _ => 0))), (q27, .inr (3, [.int 0])), (q38, .inr (4, [.int 0, .int 0, .int 255, .int 0])), (q49, .inr (5, [.ref q38, .int 0, .int 0, .int 0, .int 0, .int 0, .int 0]))]) rfl (by decide) (by decide) (fun u72 H locs hP hD hK hS => ?_)
  have hP : va_P D classes [(h0, .inr (0, [.ref q5, .ref q16, .ref q27, .ref q38, .ref q49, .null, .null, .null, .int 0])), (q5, .inr (1, [.ref (u9 1)])), ((u9 1), .inl ((u9 0), 1024, .inl (fun _ => 0))), (q16, .inr (2, [.ref (u20 2), .ref (u20 3), .int 0])), ((u20 2), .inl ((u20 0), 8, .inl (fun _ => 0))), ((u20 3), .inl ((u20 1), 4, .inl (fun _ => 0))), (q27, .inr (3, [.int 0])), (q38, .inr (4, [.int 0, .int 0, .int 255, .int 0])), (q49, .inr (5, [.ref q38, .int 0, .int 0, .int 0, .int 0, .int 0, .int 0])), (q64, .inr (6, [.ref q38, .ref (u72 1), .int 0])), ((u72 1), .inl ((u72 0), 4, .inl (fun _ => 0)))] H := hP
  have hD : va_D A [(h0, .inr (0, [.ref q5, .ref q16, .ref q27, .ref q38, .ref q49, .null, .null, .null, .int 0])), (q5, .inr (1, [.ref (u9 1)])), ((u9 1), .inl ((u9 0), 1024, .inl (fun _ => 0))), (q16, .inr (2, [.ref (u20 2), .ref (u20 3), .int 0])), ((u20 2), .inl ((u20 0), 8, .inl (fun _ => 0))), ((u20 3), .inl ((u20 1), 4, .inl (fun _ => 0))), (q27, .inr (3, [.int 0])), (q38, .inr (4, [.int 0, .int 0, .int 255, .int 0])), (q49, .inr (5, [.ref q38, .int 0, .int 0, .int 0, .int 0, .int 0, .int 0])), (q64, .inr (6, [.ref q38, .ref (u72 1), .int 0])), ((u72 1), .inl ((u72 0), 4, .inl (fun _ => 0)))] := hD
  have hK : va_K D classes [((u9 0), FieldType.int), ((u20 0), FieldType.int), ((u20 1), FieldType.int), ((u72 0), FieldType.int)] s := hK
  refine kput (v := .ref q64) (ty := (.object "SmallComputer$Keyboard")) hx hb hts hown hin hK hP hD hS 0 rfl 5 rfl (by decide) (xk 78 rfl) (by decide +kernel) rfl rfl (Nat.le_of_ble_eq_true rfl) (Or.inr ⟨rfl, rfl⟩) d_SC_init_75 (fun H locs hP hD hS => ?_)
  have hP : va_P D classes [(h0, .inr (0, [.ref q5, .ref q16, .ref q27, .ref q38, .ref q49, .ref q64, .null, .null, .int 0])), (q5, .inr (1, [.ref (u9 1)])), ((u9 1), .inl ((u9 0), 1024, .inl (fun _ => 0))), (q16, .inr (2, [.ref (u20 2), .ref (u20 3), .int 0])), ((u20 2), .inl ((u20 0), 8, .inl (fun _ => 0))), ((u20 3), .inl ((u20 1), 4, .inl (fun _ => 0))), (q27, .inr (3, [.int 0])), (q38, .inr (4, [.int 0, .int 0, .int 255, .int 0])), (q49, .inr (5, [.ref q38, .int 0, .int 0, .int 0, .int 0, .int 0, .int 0])), (q64, .inr (6, [.ref q38, .ref (u72 1), .int 0])), ((u72 1), .inl ((u72 0), 4, .inl (fun _ => 0)))] H := hP
  have hD : va_D A [(h0, .inr (0, [.ref q5, .ref q16, .ref q27, .ref q38, .ref q49, .ref q64, .null, .null, .int 0])), (q5, .inr (1, [.ref (u9 1)])), ((u9 1), .inl ((u9 0), 1024, .inl (fun _ => 0))), (q16, .inr (2, [.ref (u20 2), .ref (u20 3), .int 0])), ((u20 2), .inl ((u20 0), 8, .inl (fun _ => 0))), ((u20 3), .inl ((u20 1), 4, .inl (fun _ => 0))), (q27, .inr (3, [.int 0])), (q38, .inr (4, [.int 0, .int 0, .int 255, .int 0])), (q49, .inr (5, [.ref q38, .int 0, .int 0, .int 0, .int 0, .int 0, .int 0])), (q64, .inr (6, [.ref q38, .ref (u72 1), .int 0])), ((u72 1), .inl ((u72 0), 4, .inl (fun _ => 0)))] := hD
  refine lv_aload_n hx hb d_SC_init_78 rfl (lv_at hl 0 rfl) ?_
  refine knew (ci := 7) (fs := [.null, .null, .int 0, .int 0, .int 0, .int 0, .int 0, .int 0]) hx hb hts hown hK hP hD hS hA rfl (xk 79 rfl) (xk 80 rfl) (xk 81 rfl) (df_Cha) (Nat.le_of_ble_eq_true rfl) (Nat.le_of_ble_eq_true rfl) d_SC_init_79 (fun q79 H hP hD hS => ?_)
  have hP : va_P D classes [(h0, .inr (0, [.ref q5, .ref q16, .ref q27, .ref q38, .ref q49, .ref q64, .null, .null, .int 0])), (q5, .inr (1, [.ref (u9 1)])), ((u9 1), .inl ((u9 0), 1024, .inl (fun _ => 0))), (q16, .inr (2, [.ref (u20 2), .ref (u20 3), .int 0])), ((u20 2), .inl ((u20 0), 8, .inl (fun _ => 0))), ((u20 3), .inl ((u20 1), 4, .inl (fun _ => 0))), (q27, .inr (3, [.int 0])), (q38, .inr (4, [.int 0, .int 0, .int 255, .int 0])), (q49, .inr (5, [.ref q38, .int 0, .int 0, .int 0, .int 0, .int 0, .int 0])), (q64, .inr (6, [.ref q38, .ref (u72 1), .int 0])), ((u72 1), .inl ((u72 0), 4, .inl (fun _ => 0))), (q79, .inr (7, [.null, .null, .int 0, .int 0, .int 0, .int 0, .int 0, .int 0]))] H := hP
  have hD : va_D A [(h0, .inr (0, [.ref q5, .ref q16, .ref q27, .ref q38, .ref q49, .ref q64, .null, .null, .int 0])), (q5, .inr (1, [.ref (u9 1)])), ((u9 1), .inl ((u9 0), 1024, .inl (fun _ => 0))), (q16, .inr (2, [.ref (u20 2), .ref (u20 3), .int 0])), ((u20 2), .inl ((u20 0), 8, .inl (fun _ => 0))), ((u20 3), .inl ((u20 1), 4, .inl (fun _ => 0))), (q27, .inr (3, [.int 0])), (q38, .inr (4, [.int 0, .int 0, .int 255, .int 0])), (q49, .inr (5, [.ref q38, .int 0, .int 0, .int 0, .int 0, .int 0, .int 0])), (q64, .inr (6, [.ref q38, .ref (u72 1), .int 0])), ((u72 1), .inl ((u72 0), 4, .inl (fun _ => 0))), (q79, .inr (7, [.null, .null, .int 0, .int 0, .int 0, .int 0, .int 0, .int 0]))] := hD
  refine lv_dup hx hb d_SC_init_82 rfl ?_
  refine lv_aload_n hx hb d_SC_init_83 rfl (lv_at hl 0 rfl) ?_
  refine kget (v := .ref q38) hx hb hts hown hK hP 0 rfl 3 rfl (by decide) (xk 64 rfl) rfl d_SC_init_84 ?_
  refine lv_aload_n hx hb d_SC_init_87 rfl (lv_at hl 0 rfl) ?_
  refine kget (v := .ref q5) hx hb hts hown hK hP 0 rfl 0 rfl (by decide) (xk 46 rfl) rfl d_SC_init_88 ?_
  refine kjoin (va_runI (As := [.ref q38, .ref q5]) (rest := [.ref q79, .ref h0]) ⟨hx, hb, hml, hown, hts⟩ (c_Cha_init l D q79 q38 q5 H.size) (cwI 2 hts (goodWK (xk 83 rfl)) rfl rfl rfl (hts _ (xk 81 rfl)) (hts _ (xk 84 rfl)) (hts _ (xk 82 rfl)) rfl (by decide +kernel) ⟨Nat.le_of_ble_eq_true rfl, Nat.le_of_ble_eq_true rfl⟩) (kpre hK hP hD 11 rfl [.ref q38, .ref q5]) rfl rfl hl.1 rfl (lv_room (Nat.le_of_ble_eq_true rfl)) d_SC_init_91 ⟨Nat.le_of_ble_eq_true rfl, Nat.le_of_ble_eq_true rfl⟩) hK hP hD hS hA 11 rfl [0, 1, 2, 3, 4, 5, 6, 7, 8, 9, 10] (wr := [(h0, .inr (0, [.ref q5, .ref q16, .ref q27, .ref q38, .ref q49, .ref q64, .null, .null, .int 0])), (q5, .inr (1, [.ref (u9 1)])), ((u9 1), .inl ((u9 0), 1024, .inl (fun _ => 0))), (q16, .inr (2, [.ref (u20 2), .ref (u20 3), .int 0])), ((u20 2), .inl ((u20 0), 8, .inl (fun _ => 0))), ((u20 3), .inl ((u20 1), 4, .inl (fun _ => 0))), (q27, .inr (3, [.int 0])), (q38, .inr (4, [.int 0, .int 0, .int 255, .int 0])), (q49, .inr (5, [.ref q38, .int 0, .int 0, .int 0, .int 0, .int 0, .int 0])), (q64, .inr (6, [.ref q38, .ref (u72 1), .int 0])), ((u72 1), .inl ((u72 0), 4, .inl (fun _ => 0)))]) rfl (by decide) (by decide) (fun u91 H locs hP hD hK hS => ?_)
  have hP : va_P D classes [(h0, .inr (0, [.ref q5, .ref q16, .ref q27, .ref q38, .ref q49, .ref q64, .null, .null, .int 0])), (q5, .inr (1, [.ref (u9 1)])), ((u9 1), .inl ((u9 0), 1024, .inl (fun _ => 0))), (q16, .inr (2, [.ref (u20 2), .ref (u20 3), .int 0])), ((u20 2), .inl ((u20 0), 8, .inl (fun _ => 0))), ((u20 3), .inl ((u20 1), 4, .inl (fun _ => 0))), (q27, .inr (3, [.int 0])), (q38, .inr (4, [.int 0, .int 0, .int 255, .int 0])), (q49, .inr (5, [.ref q38, .int 0, .int 0, .int 0, .int 0, .int 0, .int 0])), (q64, .inr (6, [.ref q38, .ref (u72 1), .int 0])), ((u72 1), .inl ((u72 0), 4, .inl (fun _ => 0))), (q79, .inr (7, [.ref q38, .ref q5, .int 0, .int 0, .int 0, .int 0, .int 0, .int 0]))] H := hP
  have hD : va_D A [(h0, .inr (0, [.ref q5, .ref q16, .ref q27, .ref q38, .ref q49, .ref q64, .null, .null, .int 0])), (q5, .inr (1, [.ref (u9 1)])), ((u9 1), .inl ((u9 0), 1024, .inl (fun _ => 0))), (q16, .inr (2, [.ref (u20 2), .ref (u20 3), .int 0])), ((u20 2), .inl ((u20 0), 8, .inl (fun _ => 0))), ((u20 3), .inl ((u20 1), 4, .inl (fun _ => 0))), (q27, .inr (3, [.int 0])), (q38, .inr (4, [.int 0, .int 0, .int 255, .int 0])), (q49, .inr (5, [.ref q38, .int 0, .int 0, .int 0, .int 0, .int 0, .int 0])), (q64, .inr (6, [.ref q38, .ref (u72 1), .int 0])), ((u72 1), .inl ((u72 0), 4, .inl (fun _ => 0))), (q79, .inr (7, [.ref q38, .ref q5, .int 0, .int 0, .int 0, .int 0, .int 0, .int 0]))] := hD
  have hK : va_K D classes [((u9 0), FieldType.int), ((u20 0), FieldType.int), ((u20 1), FieldType.int), ((u72 0), FieldType.int)] s := hK
  refine kput (v := .ref q79) (ty := (.object "SmallComputer$Channel")) hx hb hts hown hin hK hP hD hS 0 rfl 6 rfl (by decide) (xk 85 rfl) (by decide +kernel) rfl rfl (Nat.le_of_ble_eq_true rfl) (Or.inr ⟨rfl, rfl⟩) d_SC_init_94 (fun H locs hP hD hS => ?_)
  have hP : va_P D classes [(h0, .inr (0, [.ref q5, .ref q16, .ref q27, .ref q38, .ref q49, .ref q64, .ref q79, .null, .int 0])), (q5, .inr (1, [.ref (u9 1)])), ((u9 1), .inl ((u9 0), 1024, .inl (fun _ => 0))), (q16, .inr (2, [.ref (u20 2), .ref (u20 3), .int 0])), ((u20 2), .inl ((u20 0), 8, .inl (fun _ => 0))), ((u20 3), .inl ((u20 1), 4, .inl (fun _ => 0))), (q27, .inr (3, [.int 0])), (q38, .inr (4, [.int 0, .int 0, .int 255, .int 0])), (q49, .inr (5, [.ref q38, .int 0, .int 0, .int 0, .int 0, .int 0, .int 0])), (q64, .inr (6, [.ref q38, .ref (u72 1), .int 0])), ((u72 1), .inl ((u72 0), 4, .inl (fun _ => 0))), (q79, .inr (7, [.ref q38, .ref q5, .int 0, .int 0, .int 0, .int 0, .int 0, .int 0]))] H := hP
  have hD : va_D A [(h0, .inr (0, [.ref q5, .ref q16, .ref q27, .ref q38, .ref q49, .ref q64, .ref q79, .null, .int 0])), (q5, .inr (1, [.ref (u9 1)])), ((u9 1), .inl ((u9 0), 1024, .inl (fun _ => 0))), (q16, .inr (2, [.ref (u20 2), .ref (u20 3), .int 0])), ((u20 2), .inl ((u20 0), 8, .inl (fun _ => 0))), ((u20 3), .inl ((u20 1), 4, .inl (fun _ => 0))), (q27, .inr (3, [.int 0])), (q38, .inr (4, [.int 0, .int 0, .int 255, .int 0])), (q49, .inr (5, [.ref q38, .int 0, .int 0, .int 0, .int 0, .int 0, .int 0])), (q64, .inr (6, [.ref q38, .ref (u72 1), .int 0])), ((u72 1), .inl ((u72 0), 4, .inl (fun _ => 0))), (q79, .inr (7, [.ref q38, .ref q5, .int 0, .int 0, .int 0, .int 0, .int 0, .int 0]))] := hD
  refine lv_aload_n hx hb d_SC_init_97 rfl (lv_at hl 0 rfl) ?_
  refine knew (ci := 10) (fs := [.null, .null, .null, .null, .null, .null, .int 0, .int 0, .int 0]) hx hb hts hown hK hP hD hS hA rfl (xk 86 rfl) (xk 87 rfl) (xk 88 rfl) (df_Pro) (Nat.le_of_ble_eq_true rfl) (Nat.le_of_ble_eq_true rfl) d_SC_init_98 (fun q98 H hP hD hS => ?_)
  have hP : va_P D classes [(h0, .inr (0, [.ref q5, .ref q16, .ref q27, .ref q38, .ref q49, .ref q64, .ref q79, .null, .int 0])), (q5, .inr (1, [.ref (u9 1)])), ((u9 1), .inl ((u9 0), 1024, .inl (fun _ => 0))), (q16, .inr (2, [.ref (u20 2), .ref (u20 3), .int 0])), ((u20 2), .inl ((u20 0), 8, .inl (fun _ => 0))), ((u20 3), .inl ((u20 1), 4, .inl (fun _ => 0))), (q27, .inr (3, [.int 0])), (q38, .inr (4, [.int 0, .int 0, .int 255, .int 0])), (q49, .inr (5, [.ref q38, .int 0, .int 0, .int 0, .int 0, .int 0, .int 0])), (q64, .inr (6, [.ref q38, .ref (u72 1), .int 0])), ((u72 1), .inl ((u72 0), 4, .inl (fun _ => 0))), (q79, .inr (7, [.ref q38, .ref q5, .int 0, .int 0, .int 0, .int 0, .int 0, .int 0])), (q98, .inr (10, [.null, .null, .null, .null, .null, .null, .int 0, .int 0, .int 0]))] H := hP
  have hD : va_D A [(h0, .inr (0, [.ref q5, .ref q16, .ref q27, .ref q38, .ref q49, .ref q64, .ref q79, .null, .int 0])), (q5, .inr (1, [.ref (u9 1)])), ((u9 1), .inl ((u9 0), 1024, .inl (fun _ => 0))), (q16, .inr (2, [.ref (u20 2), .ref (u20 3), .int 0])), ((u20 2), .inl ((u20 0), 8, .inl (fun _ => 0))), ((u20 3), .inl ((u20 1), 4, .inl (fun _ => 0))), (q27, .inr (3, [.int 0])), (q38, .inr (4, [.int 0, .int 0, .int 255, .int 0])), (q49, .inr (5, [.ref q38, .int 0, .int 0, .int 0, .int 0, .int 0, .int 0])), (q64, .inr (6, [.ref q38, .ref (u72 1), .int 0])), ((u72 1), .inl ((u72 0), 4, .inl (fun _ => 0))), (q79, .inr (7, [.ref q38, .ref q5, .int 0, .int 0, .int 0, .int 0, .int 0, .int 0])), (q98, .inr (10, [.null, .null, .null, .null, .null, .null, .int 0, .int 0, .int 0]))] := hD
  refine lv_dup hx hb d_SC_init_101 rfl ?_
  refine lv_aload_n hx hb d_SC_init_102 rfl (lv_at hl 0 rfl) ?_
  refine kget (v := .ref q5) hx hb hts hown hK hP 0 rfl 0 rfl (by decide) (xk 46 rfl) rfl d_SC_init_103 ?_
  refine lv_aload_n hx hb d_SC_init_106 rfl (lv_at hl 0 rfl) ?_
  refine kget (v := .ref q16) hx hb hts hown hK hP 0 rfl 1 rfl (by decide) (xk 52 rfl) rfl d_SC_init_107 ?_
  refine lv_aload_n hx hb d_SC_init_110 rfl (lv_at hl 0 rfl) ?_
  refine kget (v := .ref q27) hx hb hts hown hK hP 0 rfl 2 rfl (by decide) (xk 58 rfl) rfl d_SC_init_111 ?_
  refine lv_aload_n hx hb d_SC_init_114 rfl (lv_at hl 0 rfl) ?_
  refine kget (v := .ref q38) hx hb hts hown hK hP 0 rfl 3 rfl (by decide) (xk 64 rfl) rfl d_SC_init_115 ?_
  refine knew (ci := 8) (fs := [.null, .null, .null, .null]) hx hb hts hown hK hP hD hS hA rfl (xk 89 rfl) (xk 90 rfl) (xk 91 rfl) (df_Por) (Nat.le_of_ble_eq_true rfl) (Nat.le_of_ble_eq_true rfl) d_SC_init_118 (fun q118 H hP hD hS => ?_)
  have hP : va_P D classes [(h0, .inr (0, [.ref q5, .ref q16, .ref q27, .ref q38, .ref q49, .ref q64, .ref q79, .null, .int 0])), (q5, .inr (1, [.ref (u9 1)])), ((u9 1), .inl ((u9 0), 1024, .inl (fun _ => 0))), (q16, .inr (2, [.ref (u20 2), .ref (u20 3), .int 0])), ((u20 2), .inl ((u20 0), 8, .inl (fun _ => 0))), ((u20 3), .inl ((u20 1), 4, .inl (fun _ => 0))), (q27, .inr (3, [.int 0])), (q38, .inr (4, [.int 0, .int 0, .int 255, .int 0])), (q49, .inr (5, [.ref q38, .int 0, .int 0, .int 0, .int 0, .int 0, .int 0])), (q64, .inr (6, [.ref q38, .ref (u72 1), .int 0])), ((u72 1), .inl ((u72 0), 4, .inl (fun _ => 0))), (q79, .inr (7, [.ref q38, .ref q5, .int 0, .int 0, .int 0, .int 0, .int 0, .int 0])), (q98, .inr (10, [.null, .null, .null, .null, .null, .null, .int 0, .int 0, .int 0])), (q118, .inr (8, [.null, .null, .null, .null]))] H := hP
  have hD : va_D A [(h0, .inr (0, [.ref q5, .ref q16, .ref q27, .ref q38, .ref q49, .ref q64, .ref q79, .null, .int 0])), (q5, .inr (1, [.ref (u9 1)])), ((u9 1), .inl ((u9 0), 1024, .inl (fun _ => 0))), (q16, .inr (2, [.ref (u20 2), .ref (u20 3), .int 0])), ((u20 2), .inl ((u20 0), 8, .inl (fun _ => 0))), ((u20 3), .inl ((u20 1), 4, .inl (fun _ => 0))), (q27, .inr (3, [.int 0])), (q38, .inr (4, [.int 0, .int 0, .int 255, .int 0])), (q49, .inr (5, [.ref q38, .int 0, .int 0, .int 0, .int 0, .int 0, .int 0])), (q64, .inr (6, [.ref q38, .ref (u72 1), .int 0])), ((u72 1), .inl ((u72 0), 4, .inl (fun _ => 0))), (q79, .inr (7, [.ref q38, .ref q5, .int 0, .int 0, .int 0, .int 0, .int 0, .int 0])), (q98, .inr (10, [.null, .null, .null, .null, .null, .null, .int 0, .int 0, .int 0])), (q118, .inr (8, [.null, .null, .null, .null]))] := hD
  refine lv_dup hx hb d_SC_init_121 rfl ?_
  refine lv_aload_n hx hb d_SC_init_122 rfl (lv_at hl 0 rfl) ?_
  refine kget (v := .ref q38) hx hb hts hown hK hP 0 rfl 3 rfl (by decide) (xk 64 rfl) rfl d_SC_init_123 ?_
  refine lv_aload_n hx hb d_SC_init_126 rfl (lv_at hl 0 rfl) ?_
  refine kget (v := .ref q49) hx hb hts hown hK hP 0 rfl 4 rfl (by decide) (xk 71 rfl) rfl d_SC_init_127 ?_
  refine lv_aload_n hx hb d_SC_init_130 rfl (lv_at hl 0 rfl) ?_
  refine kget (v := .ref q64) hx hb hts hown hK hP 0 rfl 5 rfl (by decide) (xk 78 rfl) rfl d_SC_init_131 ?_
  refine lv_aload_n hx hb d_SC_init_134 rfl (lv_at hl 0 rfl) ?_
  refine kget (v := .ref q79) hx hb hts hown hK hP 0 rfl 6 rfl (by decide) (xk 85 rfl) rfl d_SC_init_135 ?_
  refine kjoin (va_runI (As := [.ref q38, .ref q49, .ref q64, .ref q79]) (rest := [.ref q118, .ref q38, .ref q27, .ref q16, .ref q5, .ref q98, .ref q98, .ref h0]) ⟨hx, hb, hml, hown, hts⟩ (c_Por_init l D q118 q38 q49 q64 q79 H.size) (cwI 4 hts (goodWK (xk 93 rfl)) rfl rfl rfl (hts _ (xk 91 rfl)) (hts _ (xk 94 rfl)) (hts _ (xk 92 rfl)) rfl (by decide +kernel) ⟨Nat.le_of_ble_eq_true rfl, Nat.le_of_ble_eq_true rfl⟩) (kpre hK hP hD 13 rfl [.ref q38, .ref q49, .ref q64, .ref q79]) rfl rfl hl.1 rfl (lv_room (Nat.le_of_ble_eq_true rfl)) d_SC_init_138 ⟨Nat.le_of_ble_eq_true rfl, Nat.le_of_ble_eq_true rfl⟩) hK hP hD hS hA 13 rfl [0, 1, 2, 3, 4, 5, 6, 7, 8, 9, 10, 11, 12] (wr := [(h0, .inr (0, [.ref q5, .ref q16, .ref q27, .ref q38, .ref q49, .ref q64, .ref q79, .null, .int 0])), (q5, .inr (1, [.ref (u9 1)])), ((u9 1), .inl ((u9 0), 1024, .inl (fun _ => 0))), (q16, .inr (2, [.ref (u20 2), .ref (u20 3), .int 0])), ((u20 2), .inl ((u20 0), 8, .inl (fun _ => 0))), ((u20 3), .inl ((u20 1), 4, .inl (fun _ => 0))), (q27, .inr (3, [.int 0])), (q38, .inr (4, [.int 0, .int 0, .int 255, .int 0])), (q49, .inr (5, [.ref q38, .int 0, .int 0, .int 0, .int 0, .int 0, .int 0])), (q64, .inr (6, [.ref q38, .ref (u72 1), .int 0])), ((u72 1), .inl ((u72 0), 4, .inl (fun _ => 0))), (q79, .inr (7, [.ref q38, .ref q5, .int 0, .int 0, .int 0, .int 0, .int 0, .int 0])), (q98, .inr (10, [.null, .null, .null, .null, .null, .null, .int 0, .int 0, .int 0]))]) rfl (by decide) (by decide) (fun u138 H locs hP hD hK hS => ?_)
  have hP : va_P D classes [(h0, .inr (0, [.ref q5, .ref q16, .ref q27, .ref q38, .ref q49, .ref q64, .ref q79, .null, .int 0])), (q5, .inr (1, [.ref (u9 1)])), ((u9 1), .inl ((u9 0), 1024, .inl (fun _ => 0))), (q16, .inr (2, [.ref (u20 2), .ref (u20 3), .int 0])), ((u20 2), .inl ((u20 0), 8, .inl (fun _ => 0))), ((u20 3), .inl ((u20 1), 4, .inl (fun _ => 0))), (q27, .inr (3, [.int 0])), (q38, .inr (4, [.int 0, .int 0, .int 255, .int 0])), (q49, .inr (5, [.ref q38, .int 0, .int 0, .int 0, .int 0, .int 0, .int 0])), (q64, .inr (6, [.ref q38, .ref (u72 1), .int 0])), ((u72 1), .inl ((u72 0), 4, .inl (fun _ => 0))), (q79, .inr (7, [.ref q38, .ref q5, .int 0, .int 0, .int 0, .int 0, .int 0, .int 0])), (q98, .inr (10, [.null, .null, .null, .null, .null, .null, .int 0, .int 0, .int 0])), (q118, .inr (8, [.ref q38, .ref q49, .ref q64, .ref q79]))] H := hP
  have hD : va_D A [(h0, .inr (0, [.ref q5, .ref q16, .ref q27, .ref q38, .ref q49, .ref q64, .ref q79, .null, .int 0])), (q5, .inr (1, [.ref (u9 1)])), ((u9 1), .inl ((u9 0), 1024, .inl (fun _ => 0))), (q16, .inr (2, [.ref (u20 2), .ref (u20 3), .int 0])), ((u20 2), .inl ((u20 0), 8, .inl (fun _ => 0))), ((u20 3), .inl ((u20 1), 4, .inl (fun _ => 0))), (q27, .inr (3, [.int 0])), (q38, .inr (4, [.int 0, .int 0, .int 255, .int 0])), (q49, .inr (5, [.ref q38, .int 0, .int 0, .int 0, .int 0, .int 0, .int 0])), (q64, .inr (6, [.ref q38, .ref (u72 1), .int 0])), ((u72 1), .inl ((u72 0), 4, .inl (fun _ => 0))), (q79, .inr (7, [.ref q38, .ref q5, .int 0, .int 0, .int 0, .int 0, .int 0, .int 0])), (q98, .inr (10, [.null, .null, .null, .null, .null, .null, .int 0, .int 0, .int 0])), (q118, .inr (8, [.ref q38, .ref q49, .ref q64, .ref q79]))] := hD
  have hK : va_K D classes [((u9 0), FieldType.int), ((u20 0), FieldType.int), ((u20 1), FieldType.int), ((u72 0), FieldType.int)] s := hK
  refine kjoin (va_runI (As := [.ref q5, .ref q16, .ref q27, .ref q38, .ref q118]) (rest := [.ref q98, .ref h0]) ⟨hx, hb, hml, hown, hts⟩ (c_Pro_init l D q98 q5 q16 q27 q38 q118 H.size) (cwI 5 hts (goodWK (xk 96 rfl)) rfl rfl rfl (hts _ (xk 88 rfl)) (hts _ (xk 97 rfl)) (hts _ (xk 95 rfl)) rfl (by decide +kernel) ⟨Nat.le_of_ble_eq_true rfl, Nat.le_of_ble_eq_true rfl⟩) (kpre hK hP hD 12 rfl [.ref q5, .ref q16, .ref q27, .ref q38, .ref q118]) rfl rfl hl.1 rfl (lv_room (Nat.le_of_ble_eq_true rfl)) d_SC_init_141 ⟨Nat.le_of_ble_eq_true rfl, Nat.le_of_ble_eq_true rfl⟩) hK hP hD hS hA 12 rfl [0, 1, 2, 3, 4, 5, 6, 7, 8, 9, 10, 11, 13] (wr := [(h0, .inr (0, [.ref q5, .ref q16, .ref q27, .ref q38, .ref q49, .ref q64, .ref q79, .null, .int 0])), (q5, .inr (1, [.ref (u9 1)])), ((u9 1), .inl ((u9 0), 1024, .inl (fun _ => 0))), (q16, .inr (2, [.ref (u20 2), .ref (u20 3), .int 0])), ((u20 2), .inl ((u20 0), 8, .inl (fun _ => 0))), ((u20 3), .inl ((u20 1), 4, .inl (fun _ => 0))), (q27, .inr (3, [.int 0])), (q38, .inr (4, [.int 0, .int 0, .int 255, .int 0])), (q49, .inr (5, [.ref q38, .int 0, .int 0, .int 0, .int 0, .int 0, .int 0])), (q64, .inr (6, [.ref q38, .ref (u72 1), .int 0])), ((u72 1), .inl ((u72 0), 4, .inl (fun _ => 0))), (q79, .inr (7, [.ref q38, .ref q5, .int 0, .int 0, .int 0, .int 0, .int 0, .int 0])), (q118, .inr (8, [.ref q38, .ref q49, .ref q64, .ref q79]))]) rfl (by decide) (by decide) (fun u141 H locs hP hD hK hS => ?_)
  have hP : va_P D classes [(h0, .inr (0, [.ref q5, .ref q16, .ref q27, .ref q38, .ref q49, .ref q64, .ref q79, .null, .int 0])), (q5, .inr (1, [.ref (u9 1)])), ((u9 1), .inl ((u9 0), 1024, .inl (fun _ => 0))), (q16, .inr (2, [.ref (u20 2), .ref (u20 3), .int 0])), ((u20 2), .inl ((u20 0), 8, .inl (fun _ => 0))), ((u20 3), .inl ((u20 1), 4, .inl (fun _ => 0))), (q27, .inr (3, [.int 0])), (q38, .inr (4, [.int 0, .int 0, .int 255, .int 0])), (q49, .inr (5, [.ref q38, .int 0, .int 0, .int 0, .int 0, .int 0, .int 0])), (q64, .inr (6, [.ref q38, .ref (u72 1), .int 0])), ((u72 1), .inl ((u72 0), 4, .inl (fun _ => 0))), (q79, .inr (7, [.ref q38, .ref q5, .int 0, .int 0, .int 0, .int 0, .int 0, .int 0])), (q118, .inr (8, [.ref q38, .ref q49, .ref q64, .ref q79])), (q98, .inr (10, [.ref q5, .ref q16, .ref q27, .ref q38, .ref q118, .ref (u141 0), .int 0, .int 0, .int 0])), ((u141 0), .inr (9, [.ref q5, .ref q16, .int 0, .int 0, .int 0, .int 0, .int 0, .int 0, .int 0, .int 0, .int 0, .int 0]))] H := hP
  have hD : va_D A [(h0, .inr (0, [.ref q5, .ref q16, .ref q27, .ref q38, .ref q49, .ref q64, .ref q79, .null, .int 0])), (q5, .inr (1, [.ref (u9 1)])), ((u9 1), .inl ((u9 0), 1024, .inl (fun _ => 0))), (q16, .inr (2, [.ref (u20 2), .ref (u20 3), .int 0])), ((u20 2), .inl ((u20 0), 8, .inl (fun _ => 0))), ((u20 3), .inl ((u20 1), 4, .inl (fun _ => 0))), (q27, .inr (3, [.int 0])), (q38, .inr (4, [.int 0, .int 0, .int 255, .int 0])), (q49, .inr (5, [.ref q38, .int 0, .int 0, .int 0, .int 0, .int 0, .int 0])), (q64, .inr (6, [.ref q38, .ref (u72 1), .int 0])), ((u72 1), .inl ((u72 0), 4, .inl (fun _ => 0))), (q79, .inr (7, [.ref q38, .ref q5, .int 0, .int 0, .int 0, .int 0, .int 0, .int 0])), (q118, .inr (8, [.ref q38, .ref q49, .ref q64, .ref q79])), (q98, .inr (10, [.ref q5, .ref q16, .ref q27, .ref q38, .ref q118, .ref (u141 0), .int 0, .int 0, .int 0])), ((u141 0), .inr (9, [.ref q5, .ref q16, .int 0, .int 0, .int 0, .int 0, .int 0, .int 0, .int 0, .int 0, .int 0, .int 0]))] := hD
  have hK : va_K D classes [((u9 0), FieldType.int), ((u20 0), FieldType.int), ((u20 1), FieldType.int), ((u72 0), FieldType.int)] s := hK
  refine kput (v := .ref q98) (ty := (.object "SmallComputer$Processor")) hx hb hts hown hin hK hP hD hS 0 rfl 7 rfl (by decide) (xk 98 rfl) (by decide +kernel) rfl rfl (Nat.le_of_ble_eq_true rfl) (Or.inr ⟨rfl, rfl⟩) d_SC_init_144 (fun H locs hP hD hS => ?_)
  have hP : va_P D classes [(h0, .inr (0, [.ref q5, .ref q16, .ref q27, .ref q38, .ref q49, .ref q64, .ref q79, .ref q98, .int 0])), (q5, .inr (1, [.ref (u9 1)])), ((u9 1), .inl ((u9 0), 1024, .inl (fun _ => 0))), (q16, .inr (2, [.ref (u20 2), .ref (u20 3), .int 0])), ((u20 2), .inl ((u20 0), 8, .inl (fun _ => 0))), ((u20 3), .inl ((u20 1), 4, .inl (fun _ => 0))), (q27, .inr (3, [.int 0])), (q38, .inr (4, [.int 0, .int 0, .int 255, .int 0])), (q49, .inr (5, [.ref q38, .int 0, .int 0, .int 0, .int 0, .int 0, .int 0])), (q64, .inr (6, [.ref q38, .ref (u72 1), .int 0])), ((u72 1), .inl ((u72 0), 4, .inl (fun _ => 0))), (q79, .inr (7, [.ref q38, .ref q5, .int 0, .int 0, .int 0, .int 0, .int 0, .int 0])), (q118, .inr (8, [.ref q38, .ref q49, .ref q64, .ref q79])), (q98, .inr (10, [.ref q5, .ref q16, .ref q27, .ref q38, .ref q118, .ref (u141 0), .int 0, .int 0, .int 0])), ((u141 0), .inr (9, [.ref q5, .ref q16, .int 0, .int 0, .int 0, .int 0, .int 0, .int 0, .int 0, .int 0, .int 0, .int 0]))] H := hP
  have hD : va_D A [(h0, .inr (0, [.ref q5, .ref q16, .ref q27, .ref q38, .ref q49, .ref q64, .ref q79, .ref q98, .int 0])), (q5, .inr (1, [.ref (u9 1)])), ((u9 1), .inl ((u9 0), 1024, .inl (fun _ => 0))), (q16, .inr (2, [.ref (u20 2), .ref (u20 3), .int 0])), ((u20 2), .inl ((u20 0), 8, .inl (fun _ => 0))), ((u20 3), .inl ((u20 1), 4, .inl (fun _ => 0))), (q27, .inr (3, [.int 0])), (q38, .inr (4, [.int 0, .int 0, .int 255, .int 0])), (q49, .inr (5, [.ref q38, .int 0, .int 0, .int 0, .int 0, .int 0, .int 0])), (q64, .inr (6, [.ref q38, .ref (u72 1), .int 0])), ((u72 1), .inl ((u72 0), 4, .inl (fun _ => 0))), (q79, .inr (7, [.ref q38, .ref q5, .int 0, .int 0, .int 0, .int 0, .int 0, .int 0])), (q118, .inr (8, [.ref q38, .ref q49, .ref q64, .ref q79])), (q98, .inr (10, [.ref q5, .ref q16, .ref q27, .ref q38, .ref q118, .ref (u141 0), .int 0, .int 0, .int 0])), ((u141 0), .inr (9, [.ref q5, .ref q16, .int 0, .int 0, .int 0, .int 0, .int 0, .int 0, .int 0, .int 0, .int 0, .int 0]))] := hD
  refine lv_aload_n hx hb d_SC_init_147 rfl (lv_at hl 0 rfl) ?_
  refine kget (v := .ref q16) hx hb hts hown hK hP 0 rfl 1 rfl (by decide) (xk 52 rfl) rfl d_SC_init_148 ?_
  refine kget (v := .ref (u20 2)) hx hb hts hown hK hP 3 rfl 0 rfl (by decide) (xk 99 rfl) rfl d_SC_init_151 ?_
  refine lv_iconst (v := 4) hx hb d_SC_init_154 (by decide) ?_
  refine lv_sipush (v := 256) hx hb d_SC_init_155 (by decide) ?_
  refine va_iast (D := D) (f := fun _ => 0) hx hb hK hP hD hS 4 1 rfl rfl (vin (by decide)) d_SC_init_158 (fun H locs hP hD hS => ?_)
  have hP : va_P D classes [(h0, .inr (0, [.ref q5, .ref q16, .ref q27, .ref q38, .ref q49, .ref q64, .ref q79, .ref q98, .int 0])), (q5, .inr (1, [.ref (u9 1)])), ((u9 1), .inl ((u9 0), 1024, .inl (fun _ => 0))), (q16, .inr (2, [.ref (u20 2), .ref (u20 3), .int 0])), ((u20 2), .inl ((u20 0), 8, .inl (upd (fun _ => 0) 4 256))), ((u20 3), .inl ((u20 1), 4, .inl (fun _ => 0))), (q27, .inr (3, [.int 0])), (q38, .inr (4, [.int 0, .int 0, .int 255, .int 0])), (q49, .inr (5, [.ref q38, .int 0, .int 0, .int 0, .int 0, .int 0, .int 0])), (q64, .inr (6, [.ref q38, .ref (u72 1), .int 0])), ((u72 1), .inl ((u72 0), 4, .inl (fun _ => 0))), (q79, .inr (7, [.ref q38, .ref q5, .int 0, .int 0, .int 0, .int 0, .int 0, .int 0])), (q118, .inr (8, [.ref q38, .ref q49, .ref q64, .ref q79])), (q98, .inr (10, [.ref q5, .ref q16, .ref q27, .ref q38, .ref q118, .ref (u141 0), .int 0, .int 0, .int 0])), ((u141 0), .inr (9, [.ref q5, .ref q16, .int 0, .int 0, .int 0, .int 0, .int 0, .int 0, .int 0, .int 0, .int 0, .int 0]))] H := hP
  have hD : va_D A [(h0, .inr (0, [.ref q5, .ref q16, .ref q27, .ref q38, .ref q49, .ref q64, .ref q79, .ref q98, .int 0])), (q5, .inr (1, [.ref (u9 1)])), ((u9 1), .inl ((u9 0), 1024, .inl (fun _ => 0))), (q16, .inr (2, [.ref (u20 2), .ref (u20 3), .int 0])), ((u20 2), .inl ((u20 0), 8, .inl (upd (fun _ => 0) 4 256))), ((u20 3), .inl ((u20 1), 4, .inl (fun _ => 0))), (q27, .inr (3, [.int 0])), (q38, .inr (4, [.int 0, .int 0, .int 255, .int 0])), (q49, .inr (5, [.ref q38, .int 0, .int 0, .int 0, .int 0, .int 0, .int 0])), (q64, .inr (6, [.ref q38, .ref (u72 1), .int 0])), ((u72 1), .inl ((u72 0), 4, .inl (fun _ => 0))), (q79, .inr (7, [.ref q38, .ref q5, .int 0, .int 0, .int 0, .int 0, .int 0, .int 0])), (q118, .inr (8, [.ref q38, .ref q49, .ref q64, .ref q79])), (q98, .inr (10, [.ref q5, .ref q16, .ref q27, .ref q38, .ref q118, .ref (u141 0), .int 0, .int 0, .int 0])), ((u141 0), .inr (9, [.ref q5, .ref q16, .int 0, .int 0, .int 0, .int 0, .int 0, .int 0, .int 0, .int 0, .int 0, .int 0]))] := hD
  refine lv_aload_n hx hb d_SC_init_159 rfl (lv_at hl 0 rfl) ?_
  refine kget (v := .ref q16) hx hb hts hown hK hP 0 rfl 1 rfl (by decide) (xk 52 rfl) rfl d_SC_init_160 ?_
  refine lv_sipush (v := 512) hx hb d_SC_init_163 (by decide) ?_
  refine kput (v := .int 512) (ty := .int) hx hb hts hown hin hK hP hD hS 3 rfl 2 rfl (by decide) (xk 100 rfl) (by decide +kernel) rfl rfl (Nat.le_of_ble_eq_true rfl) (Or.inl rfl) d_SC_init_166 (fun H locs hP hD hS => ?_)
  have hP : va_P D classes [(h0, .inr (0, [.ref q5, .ref q16, .ref q27, .ref q38, .ref q49, .ref q64, .ref q79, .ref q98, .int 0])), (q5, .inr (1, [.ref (u9 1)])), ((u9 1), .inl ((u9 0), 1024, .inl (fun _ => 0))), (q16, .inr (2, [.ref (u20 2), .ref (u20 3), .int 512])), ((u20 2), .inl ((u20 0), 8, .inl (upd (fun _ => 0) 4 256))), ((u20 3), .inl ((u20 1), 4, .inl (fun _ => 0))), (q27, .inr (3, [.int 0])), (q38, .inr (4, [.int 0, .int 0, .int 255, .int 0])), (q49, .inr (5, [.ref q38, .int 0, .int 0, .int 0, .int 0, .int 0, .int 0])), (q64, .inr (6, [.ref q38, .ref (u72 1), .int 0])), ((u72 1), .inl ((u72 0), 4, .inl (fun _ => 0))), (q79, .inr (7, [.ref q38, .ref q5, .int 0, .int 0, .int 0, .int 0, .int 0, .int 0])), (q118, .inr (8, [.ref q38, .ref q49, .ref q64, .ref q79])), (q98, .inr (10, [.ref q5, .ref q16, .ref q27, .ref q38, .ref q118, .ref (u141 0), .int 0, .int 0, .int 0])), ((u141 0), .inr (9, [.ref q5, .ref q16, .int 0, .int 0, .int 0, .int 0, .int 0, .int 0, .int 0, .int 0, .int 0, .int 0]))] H := hP
  have hD : va_D A [(h0, .inr (0, [.ref q5, .ref q16, .ref q27, .ref q38, .ref q49, .ref q64, .ref q79, .ref q98, .int 0])), (q5, .inr (1, [.ref (u9 1)])), ((u9 1), .inl ((u9 0), 1024, .inl (fun _ => 0))), (q16, .inr (2, [.ref (u20 2), .ref (u20 3), .int 512])), ((u20 2), .inl ((u20 0), 8, .inl (upd (fun _ => 0) 4 256))), ((u20 3), .inl ((u20 1), 4, .inl (fun _ => 0))), (q27, .inr (3, [.int 0])), (q38, .inr (4, [.int 0, .int 0, .int 255, .int 0])), (q49, .inr (5, [.ref q38, .int 0, .int 0, .int 0, .int 0, .int 0, .int 0])), (q64, .inr (6, [.ref q38, .ref (u72 1), .int 0])), ((u72 1), .inl ((u72 0), 4, .inl (fun _ => 0))), (q79, .inr (7, [.ref q38, .ref q5, .int 0, .int 0, .int 0, .int 0, .int 0, .int 0])), (q118, .inr (8, [.ref q38, .ref q49, .ref q64, .ref q79])), (q98, .inr (10, [.ref q5, .ref q16, .ref q27, .ref q38, .ref q118, .ref (u141 0), .int 0, .int 0, .int 0])), ((u141 0), .inr (9, [.ref q5, .ref q16, .int 0, .int 0, .int 0, .int 0, .int 0, .int 0, .int 0, .int 0, .int 0, .int 0]))] := hD
  refine lv_aload_n hx hb d_SC_init_169 rfl (lv_at hl 0 rfl) ?_
  refine lv_sipush (v := 512) hx hb d_SC_init_170 (by decide) ?_
  refine kput (v := .int 512) (ty := .int) hx hb hts hown hin hK hP hD hS 0 rfl 8 rfl (by decide) (xk 101 rfl) (by decide +kernel) rfl rfl (Nat.le_of_ble_eq_true rfl) (Or.inl rfl) d_SC_init_173 (fun H locs hP hD hS => ?_)
  have hP : va_P D classes [(h0, .inr (0, [.ref q5, .ref q16, .ref q27, .ref q38, .ref q49, .ref q64, .ref q79, .ref q98, .int 512])), (q5, .inr (1, [.ref (u9 1)])), ((u9 1), .inl ((u9 0), 1024, .inl (fun _ => 0))), (q16, .inr (2, [.ref (u20 2), .ref (u20 3), .int 512])), ((u20 2), .inl ((u20 0), 8, .inl (upd (fun _ => 0) 4 256))), ((u20 3), .inl ((u20 1), 4, .inl (fun _ => 0))), (q27, .inr (3, [.int 0])), (q38, .inr (4, [.int 0, .int 0, .int 255, .int 0])), (q49, .inr (5, [.ref q38, .int 0, .int 0, .int 0, .int 0, .int 0, .int 0])), (q64, .inr (6, [.ref q38, .ref (u72 1), .int 0])), ((u72 1), .inl ((u72 0), 4, .inl (fun _ => 0))), (q79, .inr (7, [.ref q38, .ref q5, .int 0, .int 0, .int 0, .int 0, .int 0, .int 0])), (q118, .inr (8, [.ref q38, .ref q49, .ref q64, .ref q79])), (q98, .inr (10, [.ref q5, .ref q16, .ref q27, .ref q38, .ref q118, .ref (u141 0), .int 0, .int 0, .int 0])), ((u141 0), .inr (9, [.ref q5, .ref q16, .int 0, .int 0, .int 0, .int 0, .int 0, .int 0, .int 0, .int 0, .int 0, .int 0]))] H := hP
  have hD : va_D A [(h0, .inr (0, [.ref q5, .ref q16, .ref q27, .ref q38, .ref q49, .ref q64, .ref q79, .ref q98, .int 512])), (q5, .inr (1, [.ref (u9 1)])), ((u9 1), .inl ((u9 0), 1024, .inl (fun _ => 0))), (q16, .inr (2, [.ref (u20 2), .ref (u20 3), .int 512])), ((u20 2), .inl ((u20 0), 8, .inl (upd (fun _ => 0) 4 256))), ((u20 3), .inl ((u20 1), 4, .inl (fun _ => 0))), (q27, .inr (3, [.int 0])), (q38, .inr (4, [.int 0, .int 0, .int 255, .int 0])), (q49, .inr (5, [.ref q38, .int 0, .int 0, .int 0, .int 0, .int 0, .int 0])), (q64, .inr (6, [.ref q38, .ref (u72 1), .int 0])), ((u72 1), .inl ((u72 0), 4, .inl (fun _ => 0))), (q79, .inr (7, [.ref q38, .ref q5, .int 0, .int 0, .int 0, .int 0, .int 0, .int 0])), (q118, .inr (8, [.ref q38, .ref q49, .ref q64, .ref q79])), (q98, .inr (10, [.ref q5, .ref q16, .ref q27, .ref q38, .ref q118, .ref (u141 0), .int 0, .int 0, .int 0])), ((u141 0), .inr (9, [.ref q5, .ref q16, .int 0, .int 0, .int 0, .int 0, .int 0, .int 0, .int 0, .int 0, .int 0, .int 0]))] := hD
  refine W.widen (k := 14) (n := 1092) (Nat.le_of_ble_eq_true rfl) (Nat.le_of_ble_eq_true rfl) ?_
  exact W.vret hx hb hr (fun t ht hW => ⟨⟨(fun k => ([(u9 0), (u20 0), (u20 1), (u72 0), q5, (u9 1), q16, (u20 2), (u20 3), q27, q38, q49, q64, (u72 1), q79, q118, q98, (u141 0)] : List Nat).getD k 0), rfl, trivial, by rw [ht]; exact hP, va_K.moved hW.alike hK, by rw [hAe]; exact hD⟩, by rw [hAe]; exact hS.F ht⟩) hS.2.2 d_SC_init_176
theorem d_Mod_init_0 : decode b_Mod_init 0 = .ok (.aload_n 0, 1) := by decide +kernel
theorem d_Mod_init_1 : decode b_Mod_init 1 = .ok (.invokespecial 1, 3) := by decide +kernel
theorem d_Mod_init_4 : decode b_Mod_init 4 = .ok (.aload_n 0, 1) := by decide +kernel
theorem d_Mod_init_5 : decode b_Mod_init 5 = .ok (.sipush 1024, 3) := by decide +kernel
theorem d_Mod_init_8 : decode b_Mod_init 8 = .ok (.newarray .int, 2) := by decide +kernel
theorem d_Mod_init_10 : decode b_Mod_init 10 = .ok (.putfield 7, 3) := by decide +kernel
theorem d_Mod_init_13 : decode b_Mod_init 13 = .ok (.aload_n 0, 1) := by decide +kernel
theorem d_Mod_init_14 : decode b_Mod_init 14 = .ok (.bipush 8, 2) := by decide +kernel
theorem d_Mod_init_16 : decode b_Mod_init 16 = .ok (.newarray .int, 2) := by decide +kernel
theorem d_Mod_init_18 : decode b_Mod_init 18 = .ok (.putfield 13, 3) := by decide +kernel
theorem d_Mod_init_21 : decode b_Mod_init 21 = .ok (.aload_n 0, 1) := by decide +kernel
theorem d_Mod_init_22 : decode b_Mod_init 22 = .ok (.iconst 4, 1) := by decide +kernel
theorem d_Mod_init_23 : decode b_Mod_init 23 = .ok (.newarray .int, 2) := by decide +kernel
theorem d_Mod_init_25 : decode b_Mod_init 25 = .ok (.putfield 16, 3) := by decide +kernel
theorem d_Mod_init_28 : decode b_Mod_init 28 = .ok (.aload_n 0, 1) := by decide +kernel
theorem d_Mod_init_29 : decode b_Mod_init 29 = .ok (.iconst 4, 1) := by decide +kernel
theorem d_Mod_init_30 : decode b_Mod_init 30 = .ok (.newarray .int, 2) := by decide +kernel
theorem d_Mod_init_32 : decode b_Mod_init 32 = .ok (.putfield 19, 3) := by decide +kernel
theorem d_Mod_init_35 : decode b_Mod_init 35 = .ok (.aload_n 0, 1) := by decide +kernel
theorem d_Mod_init_36 : decode b_Mod_init 36 = .ok (.getfield 13, 3) := by decide +kernel
theorem d_Mod_init_39 : decode b_Mod_init 39 = .ok (.iconst 4, 1) := by decide +kernel
theorem d_Mod_init_40 : decode b_Mod_init 40 = .ok (.sipush 256, 3) := by decide +kernel
theorem d_Mod_init_43 : decode b_Mod_init 43 = .ok (.iastore, 1) := by decide +kernel
theorem d_Mod_init_44 : decode b_Mod_init 44 = .ok (.aload_n 0, 1) := by decide +kernel
theorem d_Mod_init_45 : decode b_Mod_init 45 = .ok (.sipush 512, 3) := by decide +kernel
theorem d_Mod_init_48 : decode b_Mod_init 48 = .ok (.putfield 22, 3) := by decide +kernel
theorem d_Mod_init_51 : decode b_Mod_init 51 = .ok (.aload_n 0, 1) := by decide +kernel
theorem d_Mod_init_52 : decode b_Mod_init 52 = .ok (.sipush 512, 3) := by decide +kernel
theorem d_Mod_init_55 : decode b_Mod_init 55 = .ok (.putfield 26, 3) := by decide +kernel
theorem d_Mod_init_58 : decode b_Mod_init 58 = .ok (.aload_n 0, 1) := by decide +kernel
theorem d_Mod_init_59 : decode b_Mod_init 59 = .ok (.sipush 255, 3) := by decide +kernel
theorem d_Mod_init_62 : decode b_Mod_init 62 = .ok (.putfield 29, 3) := by decide +kernel
theorem d_Mod_init_65 : decode b_Mod_init 65 = .ok (.return_, 1) := by decide +kernel
def wo_Mod_init (h0 : Nat)  (u : Nat → Nat) : va_W := [(h0, .inr (11, [.ref (u 4), .ref (u 5), .ref (u 6), .int 512, .int 0, .int 0, .int 0, .int 0, .int 512, .int 0, .int 0, .int 0, .int 0, .int 0, .int 0, .int 0, .int 0, .int 0, .int 0, .int 255, .int 0, .int 0, .int 0, .int 0, .int 0, .int 0, .int 0, .int 0, .int 0, .ref (u 7), .int 0, .int 0, .int 0, .int 0, .int 0, .int 0])), ((u 4), .inl ((u 0), 1024, .inl (fun _ => 0))), ((u 5), .inl ((u 1), 8, .inl (upd (fun _ => 0) 4 256))), ((u 6), .inl ((u 2), 4, .inl (fun _ => 0))), ((u 7), .inl ((u 3), 4, .inl (fun _ => 0)))]
def ty_Mod_init (u : Nat → Nat) : List (ClassId × FieldType) := [((u 0), FieldType.int), ((u 1), FieldType.int), ((u 2), FieldType.int), ((u 3), FieldType.int)]
set_option maxRecDepth 100000 in
set_option maxHeartbeats 4000000 in
theorem c_Mod_init (l : Launch) (D : va_G) (h0 : Nat)  (sz : Nat) : Met l y_Mod_init (Cond.code y_Mod_init b_Mod_init 1 none :: WK) ({ frames := 1, cells := 4, slots := 1040, locals := 12 }) (KPre D [] h0 11 [.null, .null, .null, .int 0, .int 0, .int 0, .int 0, .int 0, .int 0, .int 0, .int 0, .int 0, .int 0, .int 0, .int 0, .int 0, .int 0, .int 0, .int 0, .int 0, .int 0, .int 0, .int 0, .int 0, .int 0, .int 0, .int 0, .int 0, .int 0, .null, .int 0, .int 0, .int 0, .int 0, .int 0, .int 0] sz) (KPost D h0 11 [.null, .null, .null, .int 0, .int 0, .int 0, .int 0, .int 0, .int 0, .int 0, .int 0, .int 0, .int 0, .int 0, .int 0, .int 0, .int 0, .int 0, .int 0, .int 0, .int 0, .int 0, .int 0, .int 0, .int 0, .int 0, .int 0, .int 0, .int 0, .null, .int 0, .int 0, .int 0, .int 0, .int 0, .int 0] (wo_Mod_init h0 ) ty_Mod_init sz) 4 1040 (va_A [(h0, .inr (11, [.null, .null, .null, .int 0, .int 0, .int 0, .int 0, .int 0, .int 0, .int 0, .int 0, .int 0, .int 0, .int 0, .int 0, .int 0, .int 0, .int 0, .int 0, .int 0, .int 0, .int 0, .int 0, .int 0, .int 0, .int 0, .int 0, .int 0, .int 0, .null, .int 0, .int 0, .int 0, .int 0, .int 0, .int 0]))] sz) := by
  refine Met.ofW (cc := b_Mod_init) (maxL := 1) (ret := none) (by decide +kernel) rfl ?_
  intro p e s m args below meth c s₁ B hml hv
  obtain ⟨rfl, hsz, hP, hK, hD0⟩ := hv
  have hx := B.exec
  have hb := B.bytes
  have hr := B.returns
  have hts : ∀ w ∈ WK, w.before ([.ref h0] : List Value).toArray s = true := fun w hw => atoms_spec (ws := Cond.code y_Mod_init b_Mod_init 1 none :: WK) B.pre w (List.mem_cons_of_mem _ hw)
  have hown : s.vm.findClass R_Mod = some m.cls := findClass_of_methodNamed B.named
  have hlocks := B.notSynchronized
  have hin : meth.name = "<init>" := (name_of_methodNamed B.named B.method).1
  subst hsz
  have hD := hD0.self (sz := s.heap.size)
  generalize hAe : va_A [(h0, .inr (11, [.null, .null, .null, .int 0, .int 0, .int 0, .int 0, .int 0, .int 0, .int 0, .int 0, .int 0, .int 0, .int 0, .int 0, .int 0, .int 0, .int 0, .int 0, .int 0, .int 0, .int 0, .int 0, .int 0, .int 0, .int 0, .int 0, .int 0, .int 0, .null, .int 0, .int 0, .int 0, .int 0, .int 0, .int 0]))] s.heap.size = A at hD ⊢
  have hA : ∀ q : Nat, s.heap.size ≤ q → A q := fun q h => by rw [← hAe]; exact Or.inr h
  have hS : va_S A s.heap s.heap [] := va_S.rf
  have hP : va_P D classes [(h0, .inr (11, [.null, .null, .null, .int 0, .int 0, .int 0, .int 0, .int 0, .int 0, .int 0, .int 0, .int 0, .int 0, .int 0, .int 0, .int 0, .int 0, .int 0, .int 0, .int 0, .int 0, .int 0, .int 0, .int 0, .int 0, .int 0, .int 0, .int 0, .int 0, .null, .int 0, .int 0, .int 0, .int 0, .int 0, .int 0]))] s.heap := hP
  have hl := lv_entry ([.ref h0]) (n := 1) (Nat.le_of_ble_eq_true rfl)
  rw [lg_entry_eq]
  generalize (lg_sl ([.ref h0]) ++ List.replicate (1 - (lg_sl ([.ref h0])).length) Slot.unset).toArray = ls at hl ⊢
  have hl : lv_has ls 1 [(0, .ref h0)] := hl
  refine lv_aload_n hx hb d_Mod_init_0 rfl (lv_at hl 0 rfl) ?_
  refine W.objInit hx hb hown (hts _ (xk 102 rfl)) (hts _ (xk 1 rfl)) (hts _ (xk 2 rfl)) rfl (by rw [hml]; exact hl.1) rfl d_Mod_init_1 (Nat.le_of_ble_eq_true rfl) (Nat.le_of_ble_eq_true rfl) ?_
  refine W.eq (g2 := F0 m 4 ls []) rfl ?_
  refine lv_aload_n hx hb d_Mod_init_4 rfl (lv_at hl 0 rfl) ?_
  refine lv_sipush (v := 1024) hx hb d_Mod_init_5 (by decide) ?_
  refine knewa hx hb hts hK hP hD hS hA 1024 (by decide) (by decide) (by decide) (Nat.le_of_ble_eq_true rfl) (Nat.le_of_ble_eq_true rfl) d_Mod_init_8 (fun q8 c8 H hK hP hD hS => ?_)
  have hP : va_P D classes [(h0, .inr (11, [.null, .null, .null, .int 0, .int 0, .int 0, .int 0, .int 0, .int 0, .int 0, .int 0, .int 0, .int 0, .int 0, .int 0, .int 0, .int 0, .int 0, .int 0, .int 0, .int 0, .int 0, .int 0, .int 0, .int 0, .int 0, .int 0, .int 0, .int 0, .null, .int 0, .int 0, .int 0, .int 0, .int 0, .int 0])), (q8, .inl (c8, 1024, .inl (fun _ => 0)))] H := hP
  have hD : va_D A [(h0, .inr (11, [.null, .null, .null, .int 0, .int 0, .int 0, .int 0, .int 0, .int 0, .int 0, .int 0, .int 0, .int 0, .int 0, .int 0, .int 0, .int 0, .int 0, .int 0, .int 0, .int 0, .int 0, .int 0, .int 0, .int 0, .int 0, .int 0, .int 0, .int 0, .null, .int 0, .int 0, .int 0, .int 0, .int 0, .int 0])), (q8, .inl (c8, 1024, .inl (fun _ => 0)))] := hD
  have hK : va_K D classes [(c8, FieldType.int)] s := hK
  refine kput (v := .ref q8) (ty := (.array .int)) hx hb hts hown hin hK hP hD hS 0 rfl 0 rfl (by decide) (xk 103 rfl) (by decide +kernel) rfl rfl (Nat.le_of_ble_eq_true rfl) (Or.inl rfl) d_Mod_init_10 (fun H locs hP hD hS => ?_)
  have hP : va_P D classes [(h0, .inr (11, [.ref q8, .null, .null, .int 0, .int 0, .int 0, .int 0, .int 0, .int 0, .int 0, .int 0, .int 0, .int 0, .int 0, .int 0, .int 0, .int 0, .int 0, .int 0, .int 0, .int 0, .int 0, .int 0, .int 0, .int 0, .int 0, .int 0, .int 0, .int 0, .null, .int 0, .int 0, .int 0, .int 0, .int 0, .int 0])), (q8, .inl (c8, 1024, .inl (fun _ => 0)))] H := hP
  have hD : va_D A [(h0, .inr (11, [.ref q8, .null, .null, .int 0, .int 0, .int 0, .int 0, .int 0, .int 0, .int 0, .int 0, .int 0, .int 0, .int 0, .int 0, .int 0, .int 0, .int 0, .int 0, .int 0, .int 0, .int 0, .int 0, .int 0, .int 0, .int 0, .int 0, .int 0, .int 0, .null, .int 0, .int 0, .int 0, .int 0, .int 0, .int 0])), (q8, .inl (c8, 1024, .inl (fun _ => 0)))] := hD
  refine lv_aload_n hx hb d_Mod_init_13 rfl (lv_at hl 0 rfl) ?_
  refine lv_bipush (v := 8) hx hb d_Mod_init_14 (by decide) ?_
  refine knewa hx hb hts hK hP hD hS hA 8 (by decide) (by decide) (by decide) (Nat.le_of_ble_eq_true rfl) (Nat.le_of_ble_eq_true rfl) d_Mod_init_16 (fun q16 c16 H hK hP hD hS => ?_)
  have hP : va_P D classes [(h0, .inr (11, [.ref q8, .null, .null, .int 0, .int 0, .int 0, .int 0, .int 0, .int 0, .int 0, .int 0, .int 0, .int 0, .int 0, .int 0, .int 0, .int 0, .int 0, .int 0, .int 0, .int 0, .int 0, .int 0, .int 0, .int 0, .int 0, .int 0, .int 0, .int 0, .null, .int 0, .int 0, .int 0, .int 0, .int 0, .int 0])), (q8, .inl (c8, 1024, .inl (fun _ => 0))), (q16, .inl (c16, 8, .inl (fun _ => 0)))] H := hP
  have hD : va_D A [(h0, .inr (11, [.ref q8, .null, .null, .int 0, .int 0, .int 0, .int 0, .int 0, .int 0, .int 0, .int 0, .int 0, .int 0, .int 0, .int 0, .int 0, .int 0, .int 0, .int 0, .int 0, .int 0, .int 0, .int 0, .int 0, .int 0, .int 0, .int 0, .int 0, .int 0, .null, .int 0, .int 0, .int 0, .int 0, .int 0, .int 0])), (q8, .inl (c8, 1024, .inl (fun _ => 0))), (q16, .inl (c16, 8, .inl (fun _ => 0)))] := hD
  have hK : va_K D classes [(c8, FieldType.int), (c16, FieldType.int)] s := hK
  refine kput (v := .ref q16) (ty := (.array .int)) hx hb hts hown hin hK hP hD hS 0 rfl 1 rfl (by decide) (xk 104 rfl) (by decide +kernel) rfl rfl (Nat.le_of_ble_eq_true rfl) (Or.inl rfl) d_Mod_init_18 (fun H locs hP hD hS => ?_)
  have hP : va_P D classes [(h0, .inr (11, [.ref q8, .ref q16, .null, .int 0, .int 0, .int 0, .int 0, .int 0, .int 0, .int 0, .int 0, .int 0, .int 0, .int 0, .int 0, .int 0, .int 0, .int 0, .int 0, .int 0, .int 0, .int 0, .int 0, .int 0, .int 0, .int 0, .int 0, .int 0, .int 0, .null, .int 0, .int 0, .int 0, .int 0, .int 0, .int 0])), (q8, .inl (c8, 1024, .inl (fun _ => 0))), (q16, .inl (c16, 8, .inl (fun _ => 0)))] H := hP
  have hD : va_D A [(h0, .inr (11, [.ref q8, .ref q16, .null, .int 0, .int 0, .int 0, .int 0, .int 0, .int 0, .int 0, .int 0, .int 0, .int 0, .int 0, .int 0, .int 0, .int 0, .int 0, .int 0, .int 0, .int 0, .int 0, .int 0, .int 0, .int 0, .int 0, .int 0, .int 0, .int 0, .null, .int 0, .int 0, .int 0, .int 0, .int 0, .int 0])), (q8, .inl (c8, 1024, .inl (fun _ => 0))), (q16, .inl (c16, 8, .inl (fun _ => 0)))] := hD
  refine lv_aload_n hx hb d_Mod_init_21 rfl (lv_at hl 0 rfl) ?_
  refine lv_iconst (v := 4) hx hb d_Mod_init_22 (by decide) ?_
  refine knewa hx hb hts hK hP hD hS hA 4 (by decide) (by decide) (by decide) (Nat.le_of_ble_eq_true rfl) (Nat.le_of_ble_eq_true rfl) d_Mod_init_23 (fun q23 c23 H hK hP hD hS => ?_)
  have hP : va_P D classes [(h0, .inr (11, [.ref q8, .ref q16, .null, .int 0, .int 0, .int 0, .int 0, .int 0, .int 0, .int 0, .int 0, .int 0, .int 0, .int 0, .int 0, .int 0, .int 0, .int 0, .int 0, .int 0, .int 0, .int 0, .int 0, .int 0, .int 0, .int 0, .int 0, .int 0, .int 0, .null, .int 0, .int 0, .int 0, .int 0, .int 0, .int 0])), (q8, .inl (c8, 1024, .inl (fun _ => 0))), (q16, .inl (c16, 8, .inl (fun _ => 0))), (q23, .inl (c23, 4, .inl (fun _ => 0)))] H := hP
  have hD : va_D A [(h0, .inr (11, [.ref q8, .ref q16, .null, .int 0, .int 0, .int 0, .int 0, .int 0, .int 0, .int 0, .int 0, .int 0, .int 0, .int 0, .int 0, .int 0, .int 0, .int 0, .int 0, .int 0, .int 0, .int 0, .int 0, .int 0, .int 0, .int 0, .int 0, .int 0, .int 0, .null, .int 0, .int 0, .int 0, .int 0, .int 0, .int 0])), (q8, .inl (c8, 1024, .inl (fun _ => 0))), (q16, .inl (c16, 8, .inl (fun _ => 0))), (q23, .inl (c23, 4, .inl (fun _ => 0)))] := hD
  have hK : va_K D classes [(c8, FieldType.int), (c16, FieldType.int), (c23, FieldType.int)] s := hK
  refine kput (v := .ref q23) (ty := (.array .int)) hx hb hts hown hin hK hP hD hS 0 rfl 2 rfl (by decide) (xk 105 rfl) (by decide +kernel) rfl rfl (Nat.le_of_ble_eq_true rfl) (Or.inl rfl) d_Mod_init_25 (fun H locs hP hD hS => ?_)
  have hP : va_P D classes [(h0, .inr (11, [.ref q8, .ref q16, .ref q23, .int 0, .int 0, .int 0, .int 0, .int 0, .int 0, .int 0, .int 0, .int 0, .int 0, .int 0, .int 0, .int 0, .int 0, .int 0, .int 0, .int 0, .int 0, .int 0, .int 0, .int 0, .int 0, .int 0, .int 0, .int 0, .int 0, .null, .int 0, .int 0, .int 0, .int 0, .int 0, .int 0])), (q8, .inl (c8, 1024, .inl (fun _ => 0))), (q16, .inl (c16, 8, .inl (fun _ => 0))), (q23, .inl (c23, 4, .inl (fun _ => 0)))] H := hP
  have hD : va_D A [(h0, .inr (11, [.ref q8, .ref q16, .ref q23, .int 0, .int 0, .int 0, .int 0, .int 0, .int 0, .int 0, .int 0, .int 0, .int 0, .int 0, .int 0, .int 0, .int 0, .int 0, .int 0, .int 0, .int 0, .int 0, .int 0, .int 0, .int 0, .int 0, .int 0, .int 0, .int 0, .null, .int 0, .int 0, .int 0, .int 0, .int 0, .int 0])), (q8, .inl (c8, 1024, .inl (fun _ => 0))), (q16, .inl (c16, 8, .inl (fun _ => 0))), (q23, .inl (c23, 4, .inl (fun _ => 0)))] := hD
  refine lv_aload_n hx hb d_Mod_init_28 rfl (lv_at hl 0 rfl) ?_
  refine lv_iconst (v := 4) hx hb d_Mod_init_29 (by decide) ?_
  refine knewa hx hb hts hK hP hD hS hA 4 (by decide) (by decide) (by decide) (Nat.le_of_ble_eq_true rfl) (Nat.le_of_ble_eq_true rfl) d_Mod_init_30 (fun q30 c30 H hK hP hD hS => ?_)
  have hP : va_P D classes [(h0, .inr (11, [.ref q8, .ref q16, .ref q23, .int 0, .int 0, .int 0, .int 0, .int 0, .int 0, .int 0, .int 0, .int 0, .int 0, .int 0, .int 0, .int 0, .int 0, .int 0, .int 0, .int 0, .int 0, .int 0, .int 0, .int 0, .int 0, .int 0, .int 0, .int 0, .int 0, .null, .int 0, .int 0, .int 0, .int 0, .int 0, .int 0])), (q8, .inl (c8, 1024, .inl (fun _ => 0))), (q16, .inl (c16, 8, .inl (fun _ => 0))), (q23, .inl (c23, 4, .inl (fun _ => 0))), (q30, .inl (c30, 4, .inl (fun _ => 0)))] H := hP
  have hD : va_D A [(h0, .inr (11, [.ref q8, .ref q16, .ref q23, .int 0, .int 0, .int 0, .int 0, .int 0, .int 0, .int 0, .int 0, .int 0, .int 0, .int 0, .int 0, .int 0, .int 0, .int 0, .int 0, .int 0, .int 0, .int 0, .int 0, .int 0, .int 0, .int 0, .int 0, .int 0, .int 0, .null, .int 0, .int 0, .int 0, .int 0, .int 0, .int 0])), (q8, .inl (c8, 1024, .inl (fun _ => 0))), (q16, .inl (c16, 8, .inl (fun _ => 0))), (q23, .inl (c23, 4, .inl (fun _ => 0))), (q30, .inl (c30, 4, .inl (fun _ => 0)))] := hD
  have hK : va_K D classes [(c8, FieldType.int), (c16, FieldType.int), (c23, FieldType.int), (c30, FieldType.int)] s := hK
  refine kput (v := .ref q30) (ty := (.array .int)) hx hb hts hown hin hK hP hD hS 0 rfl 29 rfl (by decide) (xk 106 rfl) (by decide +kernel) rfl rfl (Nat.le_of_ble_eq_true rfl) (Or.inl rfl) d_Mod_init_32 (fun H locs hP hD hS => ?_)
  have hP : va_P D classes [(h0, .inr (11, [.ref q8, .ref q16, .ref q23, .int 0, .int 0, .int 0, .int 0, .int 0, .int 0, .int 0, .int 0, .int 0, .int 0, .int 0, .int 0, .int 0, .int 0, .int 0, .int 0, .int 0, .int 0, .int 0, .int 0, .int 0, .int 0, .int 0, .int 0, .int 0, .int 0, .ref q30, .int 0, .int 0, .int 0, .int 0, .int 0, .int 0])), (q8, .inl (c8, 1024, .inl (fun _ => 0))), (q16, .inl (c16, 8, .inl (fun _ => 0))), (q23, .inl (c23, 4, .inl (fun _ => 0))), (q30, .inl (c30, 4, .inl (fun _ => 0)))] H := hP
  have hD : va_D A [(h0, .inr (11, [.ref q8, .ref q16, .ref q23, .int 0, .int 0, .int 0, .int 0, .int 0, .int 0, .int 0, .int 0, .int 0, .int 0, .int 0, .int 0, .int 0, .int 0, .int 0, .int 0, .int 0, .int 0, .int 0, .int 0, .int 0, .int 0, .int 0, .int 0, .int 0, .int 0, .ref q30, .int 0, .int 0, .int 0, .int 0, .int 0, .int 0])), (q8, .inl (c8, 1024, .inl (fun _ => 0))), (q16, .inl (c16, 8, .inl (fun _ => 0))), (q23, .inl (c23, 4, .inl (fun _ => 0))), (q30, .inl (c30, 4, .inl (fun _ => 0)))] := hD
  refine lv_aload_n hx hb d_Mod_init_35 rfl (lv_at hl 0 rfl) ?_
  refine kget (v := .ref q16) hx hb hts hown hK hP 0 rfl 1 rfl (by decide) (xk 104 rfl) rfl d_Mod_init_36 ?_
  refine lv_iconst (v := 4) hx hb d_Mod_init_39 (by decide) ?_
  refine lv_sipush (v := 256) hx hb d_Mod_init_40 (by decide) ?_
  refine va_iast (D := D) (f := fun _ => 0) hx hb hK hP hD hS 2 1 rfl rfl (vin (by decide)) d_Mod_init_43 (fun H locs hP hD hS => ?_)
  have hP : va_P D classes [(h0, .inr (11, [.ref q8, .ref q16, .ref q23, .int 0, .int 0, .int 0, .int 0, .int 0, .int 0, .int 0, .int 0, .int 0, .int 0, .int 0, .int 0, .int 0, .int 0, .int 0, .int 0, .int 0, .int 0, .int 0, .int 0, .int 0, .int 0, .int 0, .int 0, .int 0, .int 0, .ref q30, .int 0, .int 0, .int 0, .int 0, .int 0, .int 0])), (q8, .inl (c8, 1024, .inl (fun _ => 0))), (q16, .inl (c16, 8, .inl (upd (fun _ => 0) 4 256))), (q23, .inl (c23, 4, .inl (fun _ => 0))), (q30, .inl (c30, 4, .inl (fun _ => 0)))] H := hP
  have hD : va_D A [(h0, .inr (11, [.ref q8, .ref q16, .ref q23, .int 0, .int 0, .int 0, .int 0, .int 0, .int 0, .int 0, .int 0, .int 0, .int 0, .int 0, .int 0, .int 0, .int 0, .int 0, .int 0, .int 0, .int 0, .int 0, .int 0, .int 0, .int 0, .int 0, .int 0, .int 0, .int 0, .ref q30, .int 0, .int 0, .int 0, .int 0, .int 0, .int 0])), (q8, .inl (c8, 1024, .inl (fun _ => 0))), (q16, .inl (c16, 8, .inl (upd (fun _ => 0) 4 256))), (q23, .inl (c23, 4, .inl (fun _ => 0))), (q30, .inl (c30, 4, .inl (fun _ => 0)))] := hD
  refine lv_aload_n hx hb d_Mod_init_44 rfl (lv_at hl 0 rfl) ?_
  refine lv_sipush (v := 512) hx hb d_Mod_init_45 (by decide) ?_
  refine kput (v := .int 512) (ty := .int) hx hb hts hown hin hK hP hD hS 0 rfl 3 rfl (by decide) (xk 107 rfl) (by decide +kernel) rfl rfl (Nat.le_of_ble_eq_true rfl) (Or.inl rfl) d_Mod_init_48 (fun H locs hP hD hS => ?_)
  have hP : va_P D classes [(h0, .inr (11, [.ref q8, .ref q16, .ref q23, .int 512, .int 0, .int 0, .int 0, .int 0, .int 0, .int 0, .int 0, .int 0, .int 0, .int 0, .int 0, .int 0, .int 0, .int 0, .int 0, .int 0, .int 0, .int 0, .int 0, .int 0, .int 0, .int 0, .int 0, .int 0, .int 0, .ref q30, .int 0, .int 0, .int 0, .int 0, .int 0, .int 0])), (q8, .inl (c8, 1024, .inl (fun _ => 0))), (q16, .inl (c16, 8, .inl (upd (fun _ => 0) 4 256))), (q23, .inl (c23, 4, .inl (fun _ => 0))), (q30, .inl (c30, 4, .inl (fun _ => 0)))] H := hP
  have hD : va_D A [(h0, .inr (11, [.ref q8, .ref q16, .ref q23, .int 512, .int 0, .int 0, .int 0, .int 0, .int 0, .int 0, .int 0, .int 0, .int 0, .int 0, .int 0, .int 0, .int 0, .int 0, .int 0, .int 0, .int 0, .int 0, .int 0, .int 0, .int 0, .int 0, .int 0, .int 0, .int 0, .ref q30, .int 0, .int 0, .int 0, .int 0, .int 0, .int 0])), (q8, .inl (c8, 1024, .inl (fun _ => 0))), (q16, .inl (c16, 8, .inl (upd (fun _ => 0) 4 256))), (q23, .inl (c23, 4, .inl (fun _ => 0))), (q30, .inl (c30, 4, .inl (fun _ => 0)))] := hD
  refine lv_aload_n hx hb d_Mod_init_51 rfl (lv_at hl 0 rfl) ?_
  refine lv_sipush (v := 512) hx hb d_Mod_init_52 (by decide) ?_
  refine kput (v := .int 512) (ty := .int) hx hb hts hown hin hK hP hD hS 0 rfl 8 rfl (by decide) (xk 108 rfl) (by decide +kernel) rfl rfl (Nat.le_of_ble_eq_true rfl) (Or.inl rfl) d_Mod_init_55 (fun H locs hP hD hS => ?_)
  have hP : va_P D classes [(h0, .inr (11, [.ref q8, .ref q16, .ref q23, .int 512, .int 0, .int 0, .int 0, .int 0, .int 512, .int 0, .int 0, .int 0, .int 0, .int 0, .int 0, .int 0, .int 0, .int 0, .int 0, .int 0, .int 0, .int 0, .int 0, .int 0, .int 0, .int 0, .int 0, .int 0, .int 0, .ref q30, .int 0, .int 0, .int 0, .int 0, .int 0, .int 0])), (q8, .inl (c8, 1024, .inl (fun _ => 0))), (q16, .inl (c16, 8, .inl (upd (fun _ => 0) 4 256))), (q23, .inl (c23, 4, .inl (fun _ => 0))), (q30, .inl (c30, 4, .inl (fun _ => 0)))] H := hP
  have hD : va_D A [(h0, .inr (11, [.ref q8, .ref q16, .ref q23, .int 512, .int 0, .int 0, .int 0, .int 0, .int 512, .int 0, .int 0, .int 0, .int 0, .int 0, .int 0, .int 0, .int 0, .int 0, .int 0, .int 0, .int 0, .int 0, .int 0, .int 0, .int 0, .int 0, .int 0, .int 0, .int 0, .ref q30, .int 0, .int 0, .int 0, .int 0, .int 0, .int 0])), (q8, .inl (c8, 1024, .inl (fun _ => 0))), (q16, .inl (c16, 8, .inl (upd (fun _ => 0) 4 256))), (q23, .inl (c23, 4, .inl (fun _ => 0))), (q30, .inl (c30, 4, .inl (fun _ => 0)))] := hD
  refine lv_aload_n hx hb d_Mod_init_58 rfl (lv_at hl 0 rfl) ?_
  refine lv_sipush (v := 255) hx hb d_Mod_init_59 (by decide) ?_
  refine kput (v := .int 255) (ty := .int) hx hb hts hown hin hK hP hD hS 0 rfl 19 rfl (by decide) (xk 109 rfl) (by decide +kernel) rfl rfl (Nat.le_of_ble_eq_true rfl) (Or.inl rfl) d_Mod_init_62 (fun H locs hP hD hS => ?_)
  have hP : va_P D classes [(h0, .inr (11, [.ref q8, .ref q16, .ref q23, .int 512, .int 0, .int 0, .int 0, .int 0, .int 512, .int 0, .int 0, .int 0, .int 0, .int 0, .int 0, .int 0, .int 0, .int 0, .int 0, .int 255, .int 0, .int 0, .int 0, .int 0, .int 0, .int 0, .int 0, .int 0, .int 0, .ref q30, .int 0, .int 0, .int 0, .int 0, .int 0, .int 0])), (q8, .inl (c8, 1024, .inl (fun _ => 0))), (q16, .inl (c16, 8, .inl (upd (fun _ => 0) 4 256))), (q23, .inl (c23, 4, .inl (fun _ => 0))), (q30, .inl (c30, 4, .inl (fun _ => 0)))] H := hP
  have hD : va_D A [(h0, .inr (11, [.ref q8, .ref q16, .ref q23, .int 512, .int 0, .int 0, .int 0, .int 0, .int 512, .int 0, .int 0, .int 0, .int 0, .int 0, .int 0, .int 0, .int 0, .int 0, .int 0, .int 255, .int 0, .int 0, .int 0, .int 0, .int 0, .int 0, .int 0, .int 0, .int 0, .ref q30, .int 0, .int 0, .int 0, .int 0, .int 0, .int 0])), (q8, .inl (c8, 1024, .inl (fun _ => 0))), (q16, .inl (c16, 8, .inl (upd (fun _ => 0) 4 256))), (q23, .inl (c23, 4, .inl (fun _ => 0))), (q30, .inl (c30, 4, .inl (fun _ => 0)))] := hD
  refine W.widen (k := 4) (n := 1040) (Nat.le_of_ble_eq_true rfl) (Nat.le_of_ble_eq_true rfl) ?_
  exact W.vret hx hb hr (fun t ht hW => ⟨⟨(fun k => ([c8, c16, c23, c30, q8, q16, q23, q30] : List Nat).getD k 0), rfl, trivial, by rw [ht]; exact hP, va_K.moved hW.alike hK, by rw [hAe]; exact hD⟩, by rw [hAe]; exact hS.F ht⟩) hS.2.2 d_Mod_init_65
