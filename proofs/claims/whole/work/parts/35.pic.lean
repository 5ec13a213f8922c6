def nix : List Nat := [104, 115, 140, 152]
set_option maxRecDepth 100000 in
theorem NW_eq : NW = nix.filterMap (fun i => lw_tbl[i]?) := by decide +kernel
theorem NW_in {w : Cond} (h : w ∈ NW) : w ∈ lw_tbl := by
  rw [NW_eq] at h
  obtain ⟨i, -, hi⟩ := List.mem_filterMap.mp h
  exact List.mem_of_getElem? hi
theorem NW_tab : NW.all (fun w => w.onTables) = true := by decide +kernel
theorem NW_pre {D : va_G} {s : State} {H : Heap} {vs : List Value} {h0 ci : Nat} {fs : List Value} {sz : Nat} (h : PreS s H (KPre D vs h0 ci fs sz) (.ref h0 :: vs)) (hn : ∀ w ∈ NW, va_Nw w s) : PreS s H (fun a U => KPre D vs h0 ci fs sz a U ∧ ∀ w ∈ NW, va_Nw w U) (.ref h0 :: vs) := by
  refine ⟨fun a U g mk q => ⟨h.1 a U g mk q.1, fun w hw => va_Nw.same (u := U) (U := U.calling g mk a) (List.all_eq_true.mp NW_tab w hw) rfl (q.2 w hw)⟩, fun U hU hW => ⟨h.2 U hU hW, fun w hw => ?_⟩⟩
  have h1 := hn w hw
  simp only [NW, List.mem_cons, List.not_mem_nil, or_false] at hw
  rcases hw with rfl | rfl | rfl | rfl <;> exact va_Nw.warmM hW h1
set_option maxRecDepth 100000 in
theorem cls_inst : classes.all (fun r => decide (Cond.instantiable r.1 r.2.2 ∈ XK)) = true := by decide +kernel
theorem know {s : State} {args : Array Value} (hts : ∀ w ∈ WK, w.before args s = true) : ∃ D : va_G, va_K D classes [] s := by
  have h : ∀ c : Nat, ∃ x : ClassId × (Nat → Nat), ∀ q : vw_C, classes[c]? = some q → u_Kn s q.1 q.2.1 q.2.2 x.1 x.2 := fun c => by
    cases hc : classes[c]? with
    | none => exact ⟨(0, fun _ => 0), fun q hq => by cases hq⟩
    | some r =>
      obtain ⟨C, T, N⟩ := r
      have hi : Cond.instantiable C N ∈ WK := List.mem_append_right _ (of_decide_eq_true (List.all_eq_true.mp cls_inst _ (List.mem_of_getElem? hc)))
      obtain ⟨cC, iS, h⟩ := u_known hts (wC_k hc) (hts _ hi)
      exact ⟨(cC, iS), fun q hq => by cases hq; exact h⟩
  obtain ⟨f, hf⟩ := Classical.axiomOfChoice h
  exact ⟨(fun c => (f c).1, fun c => (f c).2), fun c q hq => hf c q hq, fun k q hk => by cases hk⟩
/-- the first state -/
def z0 : Sg := up2 (up2 (up2 (up2 (up2 (up2 (up2 (up2 (fun _ _ => 0) 0 8 512) 3 2 512) 4 4 256) 7 2 255) 15 3 512) 15 8 512) 15 19 255) 17 4 256
theorem zf_0_8 : z0 0 8 = 512 := rfl
theorem zc_2 : z0 2 = fun _ => 0 := rfl
theorem zf_3_2 : z0 3 2 = 512 := rfl
theorem zc_4 : z0 4 = upd (fun _ => 0) 4 256 := rfl
theorem zc_5 : z0 5 = fun _ => 0 := rfl
theorem zf_6_0 : z0 6 0 = 0 := rfl
theorem zf_7_0 : z0 7 0 = 0 := rfl
theorem zf_7_1 : z0 7 1 = 0 := rfl
theorem zf_7_2 : z0 7 2 = 255 := rfl
theorem zf_7_3 : z0 7 3 = 0 := rfl
theorem zf_8_1 : z0 8 1 = 0 := rfl
theorem zf_8_2 : z0 8 2 = 0 := rfl
theorem zf_8_3 : z0 8 3 = 0 := rfl
theorem zf_8_4 : z0 8 4 = 0 := rfl
theorem zf_8_5 : z0 8 5 = 0 := rfl
theorem zf_8_6 : z0 8 6 = 0 := rfl
theorem zf_9_2 : z0 9 2 = 0 := rfl
theorem zc_10 : z0 10 = fun _ => 0 := rfl
theorem zf_11_2 : z0 11 2 = 0 := rfl
theorem zf_11_3 : z0 11 3 = 0 := rfl
theorem zf_11_4 : z0 11 4 = 0 := rfl
theorem zf_11_5 : z0 11 5 = 0 := rfl
theorem zf_11_6 : z0 11 6 = 0 := rfl
theorem zf_11_7 : z0 11 7 = 0 := rfl
theorem zf_12_6 : z0 12 6 = 0 := rfl
theorem zf_12_7 : z0 12 7 = 0 := rfl
theorem zf_12_8 : z0 12 8 = 0 := rfl
theorem zf_14_2 : z0 14 2 = 0 := rfl
theorem zf_14_3 : z0 14 3 = 0 := rfl
theorem zf_14_4 : z0 14 4 = 0 := rfl
theorem zf_14_5 : z0 14 5 = 0 := rfl
theorem zf_14_6 : z0 14 6 = 0 := rfl
theorem zf_14_7 : z0 14 7 = 0 := rfl
theorem zf_14_8 : z0 14 8 = 0 := rfl
theorem zf_14_9 : z0 14 9 = 0 := rfl
theorem zf_14_10 : z0 14 10 = 0 := rfl
theorem zf_14_11 : z0 14 11 = 0 := rfl
theorem zf_15_3 : z0 15 3 = 512 := rfl
theorem zf_15_4 : z0 15 4 = 0 := rfl
theorem zf_15_5 : z0 15 5 = 0 := rfl
theorem zf_15_6 : z0 15 6 = 0 := rfl
theorem zf_15_7 : z0 15 7 = 0 := rfl
theorem zf_15_8 : z0 15 8 = 512 := rfl
theorem zf_15_9 : z0 15 9 = 0 := rfl
theorem zf_15_10 : z0 15 10 = 0 := rfl
theorem zf_15_11 : z0 15 11 = 0 := rfl
theorem zf_15_12 : z0 15 12 = 0 := rfl
theorem zf_15_13 : z0 15 13 = 0 := rfl
theorem zf_15_14 : z0 15 14 = 0 := rfl
theorem zf_15_15 : z0 15 15 = 0 := rfl
theorem zf_15_16 : z0 15 16 = 0 := rfl
theorem zf_15_17 : z0 15 17 = 0 := rfl
theorem zf_15_18 : z0 15 18 = 0 := rfl
theorem zf_15_19 : z0 15 19 = 255 := rfl
theorem zf_15_20 : z0 15 20 = 0 := rfl
theorem zf_15_21 : z0 15 21 = 0 := rfl
theorem zf_15_22 : z0 15 22 = 0 := rfl
theorem zf_15_23 : z0 15 23 = 0 := rfl
theorem zf_15_24 : z0 15 24 = 0 := rfl
theorem zf_15_25 : z0 15 25 = 0 := rfl
theorem zf_15_26 : z0 15 26 = 0 := rfl
theorem zf_15_27 : z0 15 27 = 0 := rfl
theorem zf_15_28 : z0 15 28 = 0 := rfl
theorem zf_15_30 : z0 15 30 = 0 := rfl
theorem zf_15_31 : z0 15 31 = 0 := rfl
theorem zf_15_32 : z0 15 32 = 0 := rfl
theorem zf_15_33 : z0 15 33 = 0 := rfl
theorem zf_15_34 : z0 15 34 = 0 := rfl
theorem zf_15_35 : z0 15 35 = 0 := rfl
theorem zc_16 : z0 16 = fun _ => 0 := rfl
theorem zc_17 : z0 17 = upd (fun _ => 0) 4 256 := rfl
theorem zc_18 : z0 18 = fun _ => 0 := rfl
theorem zc_19 : z0 19 = fun _ => 0 := rfl
set_option maxRecDepth 100000 in
set_option maxHeartbeats 1000000 in
theorem pic_ex (ad : Nat → Nat) (cI : ClassId) (σ : Sg) : pic ad cI σ = [(ad 0, .inr (0, [.ref (ad 1), .ref (ad 3), .ref (ad 6), .ref (ad 7), .ref (ad 8), .ref (ad 9), .ref (ad 11), .ref (ad 12), .int (σ 0 8)])), (ad 1, .inr (1, [.ref (ad 2)])), (ad 2, .inl (cI, 1024, .inl (σ 2))), (ad 3, .inr (2, [.ref (ad 4), .ref (ad 5), .int (σ 3 2)])), (ad 4, .inl (cI, 8, .inl (σ 4))), (ad 5, .inl (cI, 4, .inl (σ 5))), (ad 6, .inr (3, [.int (σ 6 0)])), (ad 7, .inr (4, [.int (σ 7 0), .int (σ 7 1), .int (σ 7 2), .int (σ 7 3)])), (ad 8, .inr (5, [.ref (ad 7), .int (σ 8 1), .int (σ 8 2), .int (σ 8 3), .int (σ 8 4), .int (σ 8 5), .int (σ 8 6)])), (ad 9, .inr (6, [.ref (ad 7), .ref (ad 10), .int (σ 9 2)])), (ad 10, .inl (cI, 4, .inl (σ 10))), (ad 11, .inr (7, [.ref (ad 7), .ref (ad 1), .int (σ 11 2), .int (σ 11 3), .int (σ 11 4), .int (σ 11 5), .int (σ 11 6), .int (σ 11 7)])), (ad 12, .inr (10, [.ref (ad 1), .ref (ad 3), .ref (ad 6), .ref (ad 7), .ref (ad 13), .ref (ad 14), .int (σ 12 6), .int (σ 12 7), .int (σ 12 8)])), (ad 13, .inr (8, [.ref (ad 7), .ref (ad 8), .ref (ad 9), .ref (ad 11)])), (ad 14, .inr (9, [.ref (ad 1), .ref (ad 3), .int (σ 14 2), .int (σ 14 3), .int (σ 14 4), .int (σ 14 5), .int (σ 14 6), .int (σ 14 7), .int (σ 14 8), .int (σ 14 9), .int (σ 14 10), .int (σ 14 11)])), (ad 15, .inr (11, [.ref (ad 16), .ref (ad 17), .ref (ad 18), .int (σ 15 3), .int (σ 15 4), .int (σ 15 5), .int (σ 15 6), .int (σ 15 7), .int (σ 15 8), .int (σ 15 9), .int (σ 15 10), .int (σ 15 11), .int (σ 15 12), .int (σ 15 13), .int (σ 15 14), .int (σ 15 15), .int (σ 15 16), .int (σ 15 17), .int (σ 15 18), .int (σ 15 19), .int (σ 15 20), .int (σ 15 21), .int (σ 15 22), .int (σ 15 23), .int (σ 15 24), .int (σ 15 25), .int (σ 15 26), .int (σ 15 27), .int (σ 15 28), .ref (ad 19), .int (σ 15 30), .int (σ 15 31), .int (σ 15 32), .int (σ 15 33), .int (σ 15 34), .int (σ 15 35)])), (ad 16, .inl (cI, 1024, .inl (σ 16))), (ad 17, .inl (cI, 8, .inl (σ 17))), (ad 18, .inl (cI, 4, .inl (σ 18))), (ad 19, .inl (cI, 4, .inl (σ 19)))] := by simp [pic, shape, ce, fv]
