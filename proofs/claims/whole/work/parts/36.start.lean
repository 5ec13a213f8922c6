theorem dn_0 : decode code 0 = .ok (.new 7, 3) := by decide +kernel
theorem dn_3 : decode code 3 = .ok (.dup, 1) := by decide +kernel
theorem dn_4 : decode code 4 = .ok (.invokespecial 9, 3) := by decide +kernel
theorem dn_7 : decode code 7 = .ok (.astore_n 1, 1) := by decide +kernel
theorem dn_8 : decode code 8 = .ok (.new 10, 3) := by decide +kernel
theorem dn_11 : decode code 11 = .ok (.dup, 1) := by decide +kernel
theorem dn_12 : decode code 12 = .ok (.invokespecial 12, 3) := by decide +kernel
theorem dn_15 : decode code 15 = .ok (.astore_n 2, 1) := by decide +kernel
set_option maxRecDepth 100000 in
set_option maxHeartbeats 8000000 in
theorem whole_open {p : Program} {e : Env} {s : State} {m : MethodId} {below : List Frame} {meth : Method} {c : Code} (l : Launch) {b L : Nat} {xs : Nat → Int32} (hL : L ≤ 1536) (C0 : lw_At p s m meth c b L xs) {Rel : Sg → Prop} (r0 : Rel z0) (o_poke : OP_poke Rel) (o_load : OP_load Rel) (o_seek : OP_seek Rel) (o_peek : OP_peek Rel) (o_step : OP_step Rel) (o_register : OP_register Rel) (o_put : OP_put Rel) (o_halted : OP_halted Rel) (o_key : OP_key Rel) (o_transfer : OP_transfer Rel) (o_lines : OP_lines Rel) (o_count : OP_count Rel) (o_interrupts : OP_interrupts Rel) : W p l e room_1 s m #[Value.ref b] below meth c s.heap [] 0 0 (lw_Z below #[Value.ref b] s) (entryFrame m ([Value.ref b] : List Value).toArray 4) := by
  obtain ⟨hx, hb, hr, hml, hown, hts0, hXs, hbl, hlocks, hgv⟩ := C0
  have hts : ∀ w ∈ WK, w.before #[Value.ref b] s = true := fun w hw => hts0 w (WK_in hw)
  have hnw : ∀ w ∈ NW, va_Nw w s := fun w hw => va_Nw.of (List.all_eq_true.mp NW_tab w hw) (hts0 w (NW_in hw))
  have hown : s.vm.findClass R_Law = some m.cls := hown
  obtain ⟨D, hK⟩ := know hts
  generalize hAe : (fun q : Nat => s.heap.size ≤ q) = A
  have hA : ∀ q : Nat, s.heap.size ≤ q → A q := fun q h => by rw [← hAe]; exact h
  have hA' : ∀ q : Nat, A q → s.heap.size ≤ q := fun q h => by rw [← hAe] at h; exact h
  have hS : va_S A s.heap s.heap [] := va_S.rf
  have hP : va_P D classes [] s.heap := fun k q h => (by cases h)
  have hD : va_D A [] := ⟨fun i j p q h _ _ => (by cases h), fun k q h => (by cases h)⟩
  have hl := lv_entry ([Value.ref b]) (n := 4) (Nat.le_of_ble_eq_true rfl)
  rw [lg_entry_eq]
  generalize (lg_sl ([Value.ref b]) ++ List.replicate (4 - (lg_sl ([Value.ref b])).length) Slot.unset).toArray = ls at hl ⊢
  have hl : lv_has ls 4 [(0, .ref b)] := hl
  refine knew (ci := 0) (fs := [.null, .null, .null, .null, .null, .null, .null, .null, .int 0]) hx hb hts hown hK hP hD hS hA rfl (xk 110 rfl) (xk 111 rfl) (xk 112 rfl) df_SC (Nat.le_of_ble_eq_true rfl) (Nat.le_of_ble_eq_true rfl) dn_0 (fun q0 H hP hD hS => ?_)
  have hP : va_P D classes [(q0, .inr (0, [.null, .null, .null, .null, .null, .null, .null, .null, .int 0]))] H := hP
  have hD : va_D A [(q0, .inr (0, [.null, .null, .null, .null, .null, .null, .null, .null, .int 0]))] := hD
  refine lv_dup hx hb dn_3 rfl ?_
  refine kjoin (va_runI (As := []) (rest := [.ref q0]) ⟨hx, hb, hml, hown, hts⟩ (c_SC_init l D q0 H.size) (cwI 0 hts (goodWK (xk 115 rfl)) rfl rfl rfl (hts _ (xk 112 rfl)) (hts _ (xk 113 rfl)) (hts _ (xk 114 rfl)) rfl (by decide +kernel) ⟨Nat.le_of_ble_eq_true rfl, Nat.le_of_ble_eq_true rfl⟩) (NW_pre (kpre hK hP hD 0 rfl []) hnw) rfl rfl hl.1 rfl (lv_room (Nat.le_of_ble_eq_true rfl)) dn_4 ⟨Nat.le_of_ble_eq_true rfl, Nat.le_of_ble_eq_true rfl⟩) hK hP hD hS hA 0 rfl [] (wr := []) rfl (by decide) (by decide) (fun u0 H locs hP hD hK hS => ?_)
  have hP : va_P D classes (wo_SC_init q0 u0) H := hP
  have hD : va_D A (wo_SC_init q0 u0) := hD
  have hK : va_K D classes (ty_SC_init u0) s := hK
  refine lv_astore_n hx hb dn_7 rfl hl (by decide) rfl (fun ls hl => ?_)
  have hl : lv_has ls 4 [(1, .ref q0), (0, .ref b)] := hl
  refine knew (ci := 11) (fs := [.null, .null, .null, .int 0, .int 0, .int 0, .int 0, .int 0, .int 0, .int 0, .int 0, .int 0, .int 0, .int 0, .int 0, .int 0, .int 0, .int 0, .int 0, .int 0, .int 0, .int 0, .int 0, .int 0, .int 0, .int 0, .int 0, .int 0, .int 0, .null, .int 0, .int 0, .int 0, .int 0, .int 0, .int 0]) hx hb hts hown hK hP hD hS hA rfl (xk 116 rfl) (xk 117 rfl) (xk 118 rfl) df_Mod (Nat.le_of_ble_eq_true rfl) (Nat.le_of_ble_eq_true rfl) dn_8 (fun qM H hP hD hS => ?_)
  refine lv_dup hx hb dn_11 rfl ?_
  refine kjoin (va_runI (As := []) (rest := [.ref qM]) ⟨hx, hb, hml, hown, hts⟩ (c_Mod_init l D qM H.size) (cwI 0 hts (goodWK (xk 121 rfl)) rfl rfl rfl (hts _ (xk 118 rfl)) (hts _ (xk 119 rfl)) (hts _ (xk 120 rfl)) rfl (by decide +kernel) ⟨Nat.le_of_ble_eq_true rfl, Nat.le_of_ble_eq_true rfl⟩) (kpre hK hP hD 15 rfl []) rfl rfl hl.1 rfl (lv_room (Nat.le_of_ble_eq_true rfl)) dn_12 ⟨Nat.le_of_ble_eq_true rfl, Nat.le_of_ble_eq_true rfl⟩) hK hP hD hS hA 15 rfl [0, 1, 2, 3, 4, 5, 6, 7, 8, 9, 10, 11, 12, 13, 14] (wr := wo_SC_init q0 u0) rfl (by decide) (by decide) (fun u1 H locs hP hD hK hS => ?_)
  refine lv_astore_n hx hb dn_15 rfl hl (by decide) rfl (fun ls hl => ?_)
  have hl : lv_has ls 4 [(2, .ref qM), (1, .ref q0), (0, .ref b)] := hl
  have cs : ∀ (k : Nat) (cA : ClassId), (ty_SC_init u0 ++ ty_Mod_init u1)[k]? = some (cA, FieldType.int) → cA = u0 0 := fun k cA h => by
    have h1 := va_nm_int (hK.2 k _ h).2
    have h2 := va_nm_int (hK.2 0 (u0 0, FieldType.int) rfl).2
    exact Option.some.inj (h1.symm.trans h2)
  have e1 := cs 1 (u0 1) rfl
  have e2 := cs 2 (u0 2) rfl
  have e3 := cs 3 (u0 3) rfl
  have e4 := cs 4 (u1 0) rfl
  have e5 := cs 5 (u1 1) rfl
  have e6 := cs 6 (u1 2) rfl
  have e7 := cs 7 (u1 3) rfl
  have hw : wo_SC_init q0 u0 ++ wo_Mod_init qM u1 = [(q0, .inr (0, [.ref (u0 4), .ref (u0 6), .ref (u0 9), .ref (u0 10), .ref (u0 11), .ref (u0 12), .ref (u0 14), .ref (u0 16), .int 512])), ((u0 4), .inr (1, [.ref (u0 5)])), ((u0 5), .inl (u0 0, 1024, .inl (fun _ => 0))), ((u0 6), .inr (2, [.ref (u0 7), .ref (u0 8), .int 512])), ((u0 7), .inl (u0 0, 8, .inl (upd (fun _ => 0) 4 256))), ((u0 8), .inl (u0 0, 4, .inl (fun _ => 0))), ((u0 9), .inr (3, [.int 0])), ((u0 10), .inr (4, [.int 0, .int 0, .int 255, .int 0])), ((u0 11), .inr (5, [.ref (u0 10), .int 0, .int 0, .int 0, .int 0, .int 0, .int 0])), ((u0 12), .inr (6, [.ref (u0 10), .ref (u0 13), .int 0])), ((u0 13), .inl (u0 0, 4, .inl (fun _ => 0))), ((u0 14), .inr (7, [.ref (u0 10), .ref (u0 4), .int 0, .int 0, .int 0, .int 0, .int 0, .int 0])), ((u0 15), .inr (8, [.ref (u0 10), .ref (u0 11), .ref (u0 12), .ref (u0 14)])), ((u0 16), .inr (10, [.ref (u0 4), .ref (u0 6), .ref (u0 9), .ref (u0 10), .ref (u0 15), .ref (u0 17), .int 0, .int 0, .int 0])), ((u0 17), .inr (9, [.ref (u0 4), .ref (u0 6), .int 0, .int 0, .int 0, .int 0, .int 0, .int 0, .int 0, .int 0, .int 0, .int 0])), (qM, .inr (11, [.ref (u1 4), .ref (u1 5), .ref (u1 6), .int 512, .int 0, .int 0, .int 0, .int 0, .int 512, .int 0, .int 0, .int 0, .int 0, .int 0, .int 0, .int 0, .int 0, .int 0, .int 0, .int 255, .int 0, .int 0, .int 0, .int 0, .int 0, .int 0, .int 0, .int 0, .int 0, .ref (u1 7), .int 0, .int 0, .int 0, .int 0, .int 0, .int 0])), ((u1 4), .inl (u0 0, 1024, .inl (fun _ => 0))), ((u1 5), .inl (u0 0, 8, .inl (upd (fun _ => 0) 4 256))), ((u1 6), .inl (u0 0, 4, .inl (fun _ => 0))), ((u1 7), .inl (u0 0, 4, .inl (fun _ => 0)))] := by
    unfold wo_SC_init wo_Mod_init
    rw [e1, e2, e3, e4, e5, e6, e7]
    rfl
  rw [hw] at hP hD
  have hK1 : va_K D classes [(u0 0, FieldType.int)] s := hK.sub (tys' := [(u0 0, FieldType.int)]) [0] rfl
  generalize hade : (fun k : Nat => if k = 1000 then b else ([q0, (u0 4), (u0 5), (u0 6), (u0 7), (u0 8), (u0 9), (u0 10), (u0 11), (u0 12), (u0 13), (u0 14), (u0 16), (u0 15), (u0 17), qM, (u1 4), (u1 5), (u1 6), (u1 7)] : List Nat).getD k 0) = ad
  have ad_0 : ad 0 = q0 := by rw [← hade]; rfl
  have ad_1 : ad 1 = (u0 4) := by rw [← hade]; rfl
  have ad_2 : ad 2 = (u0 5) := by rw [← hade]; rfl
  have ad_3 : ad 3 = (u0 6) := by rw [← hade]; rfl
  have ad_4 : ad 4 = (u0 7) := by rw [← hade]; rfl
  have ad_5 : ad 5 = (u0 8) := by rw [← hade]; rfl
  have ad_6 : ad 6 = (u0 9) := by rw [← hade]; rfl
  have ad_7 : ad 7 = (u0 10) := by rw [← hade]; rfl
  have ad_8 : ad 8 = (u0 11) := by rw [← hade]; rfl
  have ad_9 : ad 9 = (u0 12) := by rw [← hade]; rfl
  have ad_10 : ad 10 = (u0 13) := by rw [← hade]; rfl
  have ad_11 : ad 11 = (u0 14) := by rw [← hade]; rfl
  have ad_12 : ad 12 = (u0 16) := by rw [← hade]; rfl
  have ad_13 : ad 13 = (u0 15) := by rw [← hade]; rfl
  have ad_14 : ad 14 = (u0 17) := by rw [← hade]; rfl
  have ad_15 : ad 15 = qM := by rw [← hade]; rfl
  have ad_16 : ad 16 = (u1 4) := by rw [← hade]; rfl
  have ad_17 : ad 17 = (u1 5) := by rw [← hade]; rfl
  have ad_18 : ad 18 = (u1 6) := by rw [← hade]; rfl
  have ad_19 : ad 19 = (u1 7) := by rw [← hade]; rfl
  have hpe : pic ad (u0 0) z0 = [(q0, .inr (0, [.ref (u0 4), .ref (u0 6), .ref (u0 9), .ref (u0 10), .ref (u0 11), .ref (u0 12), .ref (u0 14), .ref (u0 16), .int 512])), ((u0 4), .inr (1, [.ref (u0 5)])), ((u0 5), .inl (u0 0, 1024, .inl (fun _ => 0))), ((u0 6), .inr (2, [.ref (u0 7), .ref (u0 8), .int 512])), ((u0 7), .inl (u0 0, 8, .inl (upd (fun _ => 0) 4 256))), ((u0 8), .inl (u0 0, 4, .inl (fun _ => 0))), ((u0 9), .inr (3, [.int 0])), ((u0 10), .inr (4, [.int 0, .int 0, .int 255, .int 0])), ((u0 11), .inr (5, [.ref (u0 10), .int 0, .int 0, .int 0, .int 0, .int 0, .int 0])), ((u0 12), .inr (6, [.ref (u0 10), .ref (u0 13), .int 0])), ((u0 13), .inl (u0 0, 4, .inl (fun _ => 0))), ((u0 14), .inr (7, [.ref (u0 10), .ref (u0 4), .int 0, .int 0, .int 0, .int 0, .int 0, .int 0])), ((u0 16), .inr (10, [.ref (u0 4), .ref (u0 6), .ref (u0 9), .ref (u0 10), .ref (u0 15), .ref (u0 17), .int 0, .int 0, .int 0])), ((u0 15), .inr (8, [.ref (u0 10), .ref (u0 11), .ref (u0 12), .ref (u0 14)])), ((u0 17), .inr (9, [.ref (u0 4), .ref (u0 6), .int 0, .int 0, .int 0, .int 0, .int 0, .int 0, .int 0, .int 0, .int 0, .int 0])), (qM, .inr (11, [.ref (u1 4), .ref (u1 5), .ref (u1 6), .int 512, .int 0, .int 0, .int 0, .int 0, .int 512, .int 0, .int 0, .int 0, .int 0, .int 0, .int 0, .int 0, .int 0, .int 0, .int 0, .int 255, .int 0, .int 0, .int 0, .int 0, .int 0, .int 0, .int 0, .int 0, .int 0, .ref (u1 7), .int 0, .int 0, .int 0, .int 0, .int 0, .int 0])), ((u1 4), .inl (u0 0, 1024, .inl (fun _ => 0))), ((u1 5), .inl (u0 0, 8, .inl (upd (fun _ => 0) 4 256))), ((u1 6), .inl (u0 0, 4, .inl (fun _ => 0))), ((u1 7), .inl (u0 0, 4, .inl (fun _ => 0)))] := by
    rw [pic_ex]
    simp only [zf_0_8, zc_2, zf_3_2, zc_4, zc_5, zf_6_0, zf_7_0, zf_7_1, zf_7_2, zf_7_3, zf_8_1, zf_8_2, zf_8_3, zf_8_4, zf_8_5, zf_8_6, zf_9_2, zc_10, zf_11_2, zf_11_3, zf_11_4, zf_11_5, zf_11_6, zf_11_7, zf_12_6, zf_12_7, zf_12_8, zf_14_2, zf_14_3, zf_14_4, zf_14_5, zf_14_6, zf_14_7, zf_14_8, zf_14_9, zf_14_10, zf_14_11, zf_15_3, zf_15_4, zf_15_5, zf_15_6, zf_15_7, zf_15_8, zf_15_9, zf_15_10, zf_15_11, zf_15_12, zf_15_13, zf_15_14, zf_15_15, zf_15_16, zf_15_17, zf_15_18, zf_15_19, zf_15_20, zf_15_21, zf_15_22, zf_15_23, zf_15_24, zf_15_25, zf_15_26, zf_15_27, zf_15_28, zf_15_30, zf_15_31, zf_15_32, zf_15_33, zf_15_34, zf_15_35, zc_16, zc_17, zc_18, zc_19, ad_0, ad_1, ad_2, ad_3, ad_4, ad_5, ad_6, ad_7, ad_8, ad_9, ad_10, ad_11, ad_12, ad_13, ad_14, ad_15, ad_16, ad_17, ad_18, ad_19]
  have hP3 := hP.sub (ws' := [(q0, .inr (0, [.ref (u0 4), .ref (u0 6), .ref (u0 9), .ref (u0 10), .ref (u0 11), .ref (u0 12), .ref (u0 14), .ref (u0 16), .int 512])), ((u0 4), .inr (1, [.ref (u0 5)])), ((u0 5), .inl (u0 0, 1024, .inl (fun _ => 0))), ((u0 6), .inr (2, [.ref (u0 7), .ref (u0 8), .int 512])), ((u0 7), .inl (u0 0, 8, .inl (upd (fun _ => 0) 4 256))), ((u0 8), .inl (u0 0, 4, .inl (fun _ => 0))), ((u0 9), .inr (3, [.int 0])), ((u0 10), .inr (4, [.int 0, .int 0, .int 255, .int 0])), ((u0 11), .inr (5, [.ref (u0 10), .int 0, .int 0, .int 0, .int 0, .int 0, .int 0])), ((u0 12), .inr (6, [.ref (u0 10), .ref (u0 13), .int 0])), ((u0 13), .inl (u0 0, 4, .inl (fun _ => 0))), ((u0 14), .inr (7, [.ref (u0 10), .ref (u0 4), .int 0, .int 0, .int 0, .int 0, .int 0, .int 0])), ((u0 16), .inr (10, [.ref (u0 4), .ref (u0 6), .ref (u0 9), .ref (u0 10), .ref (u0 15), .ref (u0 17), .int 0, .int 0, .int 0])), ((u0 15), .inr (8, [.ref (u0 10), .ref (u0 11), .ref (u0 12), .ref (u0 14)])), ((u0 17), .inr (9, [.ref (u0 4), .ref (u0 6), .int 0, .int 0, .int 0, .int 0, .int 0, .int 0, .int 0, .int 0, .int 0, .int 0])), (qM, .inr (11, [.ref (u1 4), .ref (u1 5), .ref (u1 6), .int 512, .int 0, .int 0, .int 0, .int 0, .int 512, .int 0, .int 0, .int 0, .int 0, .int 0, .int 0, .int 0, .int 0, .int 0, .int 0, .int 255, .int 0, .int 0, .int 0, .int 0, .int 0, .int 0, .int 0, .int 0, .int 0, .ref (u1 7), .int 0, .int 0, .int 0, .int 0, .int 0, .int 0])), ((u1 4), .inl (u0 0, 1024, .inl (fun _ => 0))), ((u1 5), .inl (u0 0, 8, .inl (upd (fun _ => 0) 4 256))), ((u1 6), .inl (u0 0, 4, .inl (fun _ => 0))), ((u1 7), .inl (u0 0, 4, .inl (fun _ => 0)))]) [0, 1, 2, 3, 4, 5, 6, 7, 8, 9, 10, 11, 13, 12, 14, 15, 16, 17, 18, 19] rfl
  have hD3 := hD.sub (ws' := [(q0, .inr (0, [.ref (u0 4), .ref (u0 6), .ref (u0 9), .ref (u0 10), .ref (u0 11), .ref (u0 12), .ref (u0 14), .ref (u0 16), .int 512])), ((u0 4), .inr (1, [.ref (u0 5)])), ((u0 5), .inl (u0 0, 1024, .inl (fun _ => 0))), ((u0 6), .inr (2, [.ref (u0 7), .ref (u0 8), .int 512])), ((u0 7), .inl (u0 0, 8, .inl (upd (fun _ => 0) 4 256))), ((u0 8), .inl (u0 0, 4, .inl (fun _ => 0))), ((u0 9), .inr (3, [.int 0])), ((u0 10), .inr (4, [.int 0, .int 0, .int 255, .int 0])), ((u0 11), .inr (5, [.ref (u0 10), .int 0, .int 0, .int 0, .int 0, .int 0, .int 0])), ((u0 12), .inr (6, [.ref (u0 10), .ref (u0 13), .int 0])), ((u0 13), .inl (u0 0, 4, .inl (fun _ => 0))), ((u0 14), .inr (7, [.ref (u0 10), .ref (u0 4), .int 0, .int 0, .int 0, .int 0, .int 0, .int 0])), ((u0 16), .inr (10, [.ref (u0 4), .ref (u0 6), .ref (u0 9), .ref (u0 10), .ref (u0 15), .ref (u0 17), .int 0, .int 0, .int 0])), ((u0 15), .inr (8, [.ref (u0 10), .ref (u0 11), .ref (u0 12), .ref (u0 14)])), ((u0 17), .inr (9, [.ref (u0 4), .ref (u0 6), .int 0, .int 0, .int 0, .int 0, .int 0, .int 0, .int 0, .int 0, .int 0, .int 0])), (qM, .inr (11, [.ref (u1 4), .ref (u1 5), .ref (u1 6), .int 512, .int 0, .int 0, .int 0, .int 0, .int 512, .int 0, .int 0, .int 0, .int 0, .int 0, .int 0, .int 0, .int 0, .int 0, .int 0, .int 255, .int 0, .int 0, .int 0, .int 0, .int 0, .int 0, .int 0, .int 0, .int 0, .ref (u1 7), .int 0, .int 0, .int 0, .int 0, .int 0, .int 0])), ((u1 4), .inl (u0 0, 1024, .inl (fun _ => 0))), ((u1 5), .inl (u0 0, 8, .inl (upd (fun _ => 0) 4 256))), ((u1 6), .inl (u0 0, 4, .inl (fun _ => 0))), ((u1 7), .inl (u0 0, 4, .inl (fun _ => 0)))]) [0, 1, 2, 3, 4, 5, 6, 7, 8, 9, 10, 11, 13, 12, 14, 15, 16, 17, 18, 19] (by decide) rfl
  rw [← hpe] at hP3 hD3
  have a0 := ad_0
  have a15 := ad_15
  have ab : ad 1000 = b := by rw [← hade]; rfl
  have hJ : IJ ad := fun i j hi hj h => hD3.1 i j _ _ (pic_get (List.getElem?_eq_getElem hi)) (pic_get (List.getElem?_eq_getElem hj)) (by rw [ce_1, ce_1]; exact h)
  have hAA : ∀ i, i < shape.length → A (ad i) := fun i hi => by
    have h := hD3.2 i _ (pic_get (List.getElem?_eq_getElem hi))
    rw [ce_1] at h
    exact h
  have hC : CX p room_1 s m #[Value.ref b] c 20 2177 ad D (u0 0) A code 4 pt_Law (11, 252) := ⟨hx, hb, hml, hown, fun w hw => hts w (List.mem_append_left _ hw), hK1, hJ, hAA, pt_Law_in, Nat.le_of_ble_eq_true rfl, Nat.le_of_ble_eq_true rfl, Nat.le_of_ble_eq_true rfl, Nat.le_of_ble_eq_true rfl⟩
  have hR : RT p l e room_1 s m #[Value.ref b] below meth c 20 2177 (lw_Z below #[Value.ref b] s) ad D (u0 0) A code (some .boolean) (fun r _ => r = some (.int 1)) := by
    refine ⟨fun pc ls v σ H locs hd _ hk hP hS => ?_, fun pc ls σ H locs hd hre _ _ _ => by cases hre⟩
    have hv : v = 1 := by injection hk with hk; injection hk
    subst hv
    exact va_forget (fun q hq => hA' _ (hS.2.2 q hq)) (lw_ret hx hb hr hlocks hd)
  have hX : LawX l ad D (u0 0) L xs (XW p l e room_1 s m #[Value.ref b] below meth c 20 2177 (lw_Z below #[Value.ref b] s) ad D (u0 0) A 4) := by
    refine ⟨fun en is hk lv st σ h => blk_ok hC hR en is hk lv st σ h, fun pc lv i r σ hd hin h ls H locs hL hP hS => ?_, fun pc lv r σ hd h ls H locs hL hP hS => ?_⟩
    · show W p l e room_1 s m #[Value.ref b] below meth c H locs 20 2177 (lw_Z below #[Value.ref b] s) (F0 m pc ls (.int i :: .ref (ad 1000) :: r.map (cv ad)))
      rw [ab]
      exact va_sld hx hb hXs hbl (fun z => absurd (hA' b z) (by omega)) hS hin hd (h ls H locs hL hP hS)
    · show W p l e room_1 s m #[Value.ref b] below meth c H locs 20 2177 (lw_Z below #[Value.ref b] s) (F0 m pc ls (.ref (ad 1000) :: r.map (cv ad)))
      rw [ab]
      exact va_slen hx hb hXs hbl (fun z => absurd (hA' b z) (by omega)) hS hd (h ls H locs hL hP hS)
  have hgo : XW p l e room_1 s m #[Value.ref b] below meth c 20 2177 (lw_Z below #[Value.ref b] s) ad D (u0 0) A 4 16 [.ref 1000, .ref 0, .ref 15, .null] [] z0 := by
    refine hX.1 18 I_Law_16 ok_Law_16 _ _ _ ?_
    have h9 := law_loop hX hL o_poke o_load o_seek o_peek o_step o_register o_put o_halted o_key o_transfer o_lines o_count o_interrupts (L + 1) 0 z0 r0 (by omega) (by omega)
    rw [nI_0] at h9
    exact h9
  refine hgo ls H locs ⟨rfl, hl.1, hl.2.1, fun i v hv hn => ?_⟩ hP3 hS
  match i, hv with
  | 0, hv => cases hv; show ls[0]? = some (.val (.ref (ad 1000))); rw [ab]; exact lv_at hl 2 rfl
  | 1, hv => cases hv; show ls[1]? = some (.val (.ref (ad 0))); rw [a0]; exact lv_at hl 1 rfl
  | 2, hv => cases hv; show ls[2]? = some (.val (.ref (ad 15))); rw [a15]; exact lv_at hl 0 rfl
  | 3, hv => cases hv; exact absurd rfl hn
  | i + 4, hv => cases hv
