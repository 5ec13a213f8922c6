/-! constructors: words, and rows of the kit at this claim's tables -/
abbrev b_Mem_init : ByteArray := prog_7_method_1_code
def y_Mem_init : MethodName := ⟨R_Mem, "<init>", "()V"⟩
abbrev b_Reg_init : ByteArray := prog_10_method_1_code
def y_Reg_init : MethodName := ⟨R_Reg, "<init>", "()V"⟩
abbrev b_Fla_init : ByteArray := prog_5_method_1_code
def y_Fla_init : MethodName := ⟨R_Fla, "<init>", "()V"⟩
abbrev b_Ctl_init : ByteArray := prog_3_method_1_code
def y_Ctl_init : MethodName := ⟨R_Ctl, "<init>", "()V"⟩
abbrev b_Tim_init : ByteArray := prog_11_method_1_code
def y_Tim_init : MethodName := ⟨R_Tim, "<init>", "(LSmallComputer$Controller;)V"⟩
abbrev b_Key_init : ByteArray := prog_6_method_1_code
def y_Key_init : MethodName := ⟨R_Key, "<init>", "(LSmallComputer$Controller;)V"⟩
abbrev b_Cha_init : ByteArray := prog_2_method_1_code
def y_Cha_init : MethodName := ⟨R_Cha, "<init>", "(LSmallComputer$Controller;LSmallComputer$Memory;)V"⟩
abbrev b_Por_init : ByteArray := prog_8_method_1_code
def y_Por_init : MethodName := ⟨R_Por, "<init>", "(LSmallComputer$Controller;LSmallComputer$Timer;LSmallComputer$Keyboard;LSmallComputer$Channel;)V"⟩
abbrev b_Dec_init : ByteArray := prog_4_method_1_code
def y_Dec_init : MethodName := ⟨R_Dec, "<init>", "(LSmallComputer$Memory;LSmallComputer$Registers;)V"⟩
abbrev b_Pro_init : ByteArray := prog_9_method_1_code
def y_Pro_init : MethodName := ⟨R_Pro, "<init>", "(LSmallComputer$Memory;LSmallComputer$Registers;LSmallComputer$Flags;LSmallComputer$Controller;LSmallComputer$Ports;)V"⟩
abbrev b_SC_init : ByteArray := prog_1_method_1_code
def y_SC_init : MethodName := ⟨R_SC, "<init>", "()V"⟩
abbrev b_Mod_init : ByteArray := prog_13_method_1_code
def y_Mod_init : MethodName := ⟨R_Mod, "<init>", "()V"⟩
abbrev XK : List Cond := [.arrayClass .int, .instanceMethod objectInit, .code objectInit ⟨#[0xb1]⟩ 1 none, .methodLink R_Mem 3 objectInit, .fieldLink R_Mem 9 "SmallComputer$Memory" "bytes" "[I", .methodLink R_Reg 1 objectInit, .fieldLink R_Reg 7 "SmallComputer$Registers" "words" "[I", .fieldLink R_Reg 13 "SmallComputer$Registers" "segments" "[I", .methodLink R_Fla 3 objectInit, .methodLink R_Ctl 1 objectInit, .fieldLink R_Ctl 7 "SmallComputer$Controller" "masked" "I", .methodLink R_Tim 1 objectInit, .fieldLink R_Tim 7 "SmallComputer$Timer" "controller" "LSmallComputer$Controller;", .methodLink R_Key 1 objectInit, .fieldLink R_Key 9 "SmallComputer$Keyboard" "keys" "[I", .fieldLink R_Key 13 "SmallComputer$Keyboard" "controller" "LSmallComputer$Controller;", .methodLink R_Cha 1 objectInit, .fieldLink R_Cha 7 "SmallComputer$Channel" "controller" "LSmallComputer$Controller;", .fieldLink R_Cha 13 "SmallComputer$Channel" "memory" "LSmallComputer$Memory;", .methodLink R_Por 1 objectInit, .fieldLink R_Por 7 "SmallComputer$Ports" "controller" "LSmallComputer$Controller;", .fieldLink R_Por 13 "SmallComputer$Ports" "timer" "LSmallComputer$Timer;", .fieldLink R_Por 17 "SmallComputer$Ports" "keyboard" "LSmallComputer$Keyboard;", .fieldLink R_Por 21 "SmallComputer$Ports" "channel" "LSmallComputer$Channel;", .methodLink R_Dec 1 objectInit, .fieldLink R_Dec 7 "SmallComputer$Decoder" "memory" "LSmallComputer$Memory;", .fieldLink R_Dec 13 "SmallComputer$Decoder" "registers" "LSmallComputer$Registers;", .methodLink R_Pro 1 objectInit, .fieldLink R_Pro 7 "SmallComputer$Processor" "memory" "LSmallComputer$Memory;", .fieldLink R_Pro 13 "SmallComputer$Processor" "registers" "LSmallComputer$Registers;", .fieldLink R_Pro 17 "SmallComputer$Processor" "flags" "LSmallComputer$Flags;", .fieldLink R_Pro 21 "SmallComputer$Processor" "controller" "LSmallComputer$Controller;", .fieldLink R_Pro 25 "SmallComputer$Processor" "ports" "LSmallComputer$Ports;", .classLink R_Pro 29 R_Dec, .instantiable R_Dec 12, .initialized R_Dec, .instanceMethod y_Dec_init, .code y_Dec_init b_Dec_init 3 none, .methodLink R_Pro 31 y_Dec_init, .fieldLink R_Pro 34 "SmallComputer$Processor" "decoder" "LSmallComputer$Decoder;", .methodLink R_SC 1 objectInit, .classLink R_SC 7 R_Mem, .instantiable R_Mem 1, .initialized R_Mem, .instanceMethod y_Mem_init, .code y_Mem_init b_Mem_init 1 none, .fieldLink R_SC 10 "SmallComputer" "memory" "LSmallComputer$Memory;", .classLink R_SC 16 R_Reg, .instantiable R_Reg 3, .initialized R_Reg, .instanceMethod y_Reg_init, .code y_Reg_init b_Reg_init 1 none, .fieldLink R_SC 19 "SmallComputer" "registers" "LSmallComputer$Registers;", .classLink R_SC 23 R_Fla, .instantiable R_Fla 1, .initialized R_Fla, .instanceMethod y_Fla_init, .code y_Fla_init b_Fla_init 1 none, .fieldLink R_SC 26 "SmallComputer" "flags" "LSmallComputer$Flags;", .classLink R_SC 30 R_Ctl, .instantiable R_Ctl 4, .initialized R_Ctl, .instanceMethod y_Ctl_init, .code y_Ctl_init b_Ctl_init 1 none, .fieldLink R_SC 33 "SmallComputer" "controller" "LSmallComputer$Controller;", .classLink R_SC 37 R_Tim, .instantiable R_Tim 7, .initialized R_Tim, .instanceMethod y_Tim_init, .code y_Tim_init b_Tim_init 2 none, .methodLink R_SC 39 y_Tim_init, .fieldLink R_SC 42 "SmallComputer" "timer" "LSmallComputer$Timer;", .classLink R_SC 46 R_Key, .instantiable R_Key 3, .initialized R_Key, .instanceMethod y_Key_init, .code y_Key_init b_Key_init 2 none, .methodLink R_SC 48 y_Key_init, .fieldLink R_SC 49 "SmallComputer" "keyboard" "LSmallComputer$Keyboard;", .classLink R_SC 53 R_Cha, .instantiable R_Cha 8, .initialized R_Cha, .instanceMethod y_Cha_init, .code y_Cha_init b_Cha_init 3 none, .methodLink R_SC 55 y_Cha_init, .fieldLink R_SC 58 "SmallComputer" "channel" "LSmallComputer$Channel;", .classLink R_SC 62 R_Pro, .instantiable R_Pro 9, .initialized R_Pro, .classLink R_SC 64 R_Por, .instantiable R_Por 4, .initialized R_Por, .instanceMethod y_Por_init, .code y_Por_init b_Por_init 5 none, .methodLink R_SC 66 y_Por_init, .instanceMethod y_Pro_init, .code y_Pro_init b_Pro_init 6 none, .methodLink R_SC 69 y_Pro_init, .fieldLink R_SC 72 "SmallComputer" "processor" "LSmallComputer$Processor;", .fieldLink R_SC 76 "SmallComputer$Registers" "words" "[I", .fieldLink R_SC 80 "SmallComputer$Registers" "ip" "I", .fieldLink R_SC 84 "SmallComputer" "place" "I", .methodLink R_Mod 1 objectInit, .fieldLink R_Mod 7 "SmallComputerModel" "memory" "[I", .fieldLink R_Mod 13 "SmallComputerModel" "word" "[I", .fieldLink R_Mod 16 "SmallComputerModel" "segment" "[I", .fieldLink R_Mod 19 "SmallComputerModel" "waiting" "[I", .fieldLink R_Mod 22 "SmallComputerModel" "ip" "I", .fieldLink R_Mod 26 "SmallComputerModel" "place" "I", .fieldLink R_Mod 29 "SmallComputerModel" "masked" "I", .classLink R_Law 7 R_SC, .instantiable R_SC 9, .initialized R_SC, .methodLink R_Law 9 y_SC_init, .instanceMethod y_SC_init, .code y_SC_init b_SC_init 1 none, .classLink R_Law 10 R_Mod, .instantiable R_Mod 36, .initialized R_Mod, .methodLink R_Law 12 y_Mod_init, .instanceMethod y_Mod_init, .code y_Mod_init b_Mod_init 1 none]
def NW : List Cond := [.methodLinkNest R_SC 9 y_Mem_init R_SC, .methodLinkNest R_SC 18 y_Reg_init R_SC, .methodLinkNest R_SC 25 y_Fla_init R_SC, .methodLinkNest R_SC 32 y_Ctl_init R_SC]
def WK : List Cond := WS ++ XK
theorem XK_good : XK.all goodWord = true := by decide +kernel
theorem xk {w : Cond} (n : Nat) (h : XK[n]? = some w) : w ∈ WK := List.mem_append_right _ (List.mem_of_getElem? h)
theorem WK_arr : Cond.arrayClass (newarray.typeOf .int) ∈ WK := xk 0 rfl
theorem goodWK {y : MethodName} {b : ByteArray} {n : Nat} (h : Cond.code y b n none ∈ WK) : GoodIn WK (Cond.code y b n none :: WK) := by
  intro w hw
  rcases List.mem_cons.mp hw with rfl | hw
  · exact ⟨h, Or.inl rfl⟩
  · refine ⟨hw, good_of_word ?_⟩
    rcases List.mem_append.mp hw with hw | hw
    · exact List.all_eq_true.mp WS_good w hw
    · exact List.all_eq_true.mp XK_good w hw
section CT
variable {p : Program} {l : Launch} {e : Env} {R : Room} {s : State} {m : MethodId} {args : Array Value} {below : List Frame} {meth : Method} {c : Code} {H : Heap} {locs : List Loc} {cells slots : Nat} {Q : State → Prop}
variable {cc : ByteArray} {pc : Nat} {ls : Array Slot} {rest : List Value} {D : va_G} {A : Nat → Prop} {a : Nat} {tys : List (ClassId × FieldType)} {ws : va_W} {H0 : Heap}
theorem wC_k {ci : Nat} {C : String} {T : u_T} {N : Nat} (hc : classes[ci]? = some (C, T, N)) : ∀ w ∈ u_ws C T N, w ∈ WK := fun w hw => List.mem_append_left _ (wC_in hc w hw)
theorem kput (hx : p.tables.exec = Jvm.exec) (hb : c.code = cc) (hts : ∀ w ∈ WK, w.before args s = true) {own : String} (hown : s.vm.findClass own = some m.cls) (hin : meth.name = "<init>") (hK : va_K D classes tys s) (hP : va_P D classes ws H) (hD : va_D A ws) (hS : va_S A H0 H locs) (q0 : Nat) {ci : Nat} {fs : List Value} (he : ws[q0]? = some (a, .inr (ci, fs))) (k : Nat) {C : String} {T : u_T} {N : Nat} (hc : classes[ci]? = some (C, T, N)) (hk : k < N) {index : Nat} (hl : Cond.fieldLink own index (T k).1 (T k).2.1 (T k).2.2.1 ∈ WK) {ty : FieldType} {v : Value} (hd : parseFieldDescriptor (T k).2.2.1 = some ty) (hn : narrow ty v = v) (hfit : fits ty v = true) (hlen : k < fs.length) (hf : (T k).2.2.2 = false ∨ ((T k).2.2.2 = true ∧ (T k).1 = own)) (hdg : decode cc pc = .ok (.putfield index, 3))
    (kk : ∀ (H1 : Heap) (locs1 : List Loc), va_P D classes (ws.set q0 (a, .inr (ci, fs.set k v))) H1 → va_D A (ws.set q0 (a, .inr (ci, fs.set k v))) → va_S A H0 H1 locs1 → W p l e R s m args below meth c H1 locs1 cells slots Q (F0 m (pc + 3) ls rest)) : W p l e R s m args below meth c H locs cells slots Q (F0 m pc ls (v :: .ref a :: rest)) := by
  obtain ⟨ty0, hty⟩ := cls_ty hc
  rcases hf with hf | ⟨hf, ho⟩
  · exact va_put (D := D) (v := v) hx hb hts (wC_k hc) ty0 hty (cls_nm hc) hown hK hP hD hS q0 he hc k hk (hts _ hl) (fun _ z => z) hf hd hn hfit hlen hdg kk
  · exact va_putF (D := D) (v := v) hx hb hts (wC_k hc) ty0 hty (cls_nm hc) hown hK hP hD hS q0 he hc k hk (hts _ hl) (fun _ z => z) hf hin ho hd hn hfit hlen hdg kk
theorem kget (hx : p.tables.exec = Jvm.exec) (hb : c.code = cc) (hts : ∀ w ∈ WK, w.before args s = true) {own : String} (hown : s.vm.findClass own = some m.cls) (hK : va_K D classes tys s) (hP : va_P D classes ws H) (q0 : Nat) {ci : Nat} {fs : List Value} (he : ws[q0]? = some (a, .inr (ci, fs))) (k : Nat) {C : String} {T : u_T} {N : Nat} (hc : classes[ci]? = some (C, T, N)) (hk : k < N) {index : Nat} (hl : Cond.fieldLink own index (T k).1 (T k).2.1 (T k).2.2.1 ∈ WK) {v : Value} (hv : fs[k]? = some v) (hdg : decode cc pc = .ok (.getfield index, 3))
    (kk : W p l e R s m args below meth c H locs cells slots Q (F0 m (pc + 3) ls (v :: rest))) : W p l e R s m args below meth c H locs cells slots Q (F0 m pc ls (.ref a :: rest)) :=
  va_get (D := D) (v := v) hx hb hts (wC_k hc) hown hK hP q0 he hc k hk (hts _ hl) (fun _ z => z) hv hdg kk
theorem knew (hx : p.tables.exec = Jvm.exec) (hb : c.code = cc) (hts : ∀ w ∈ WK, w.before args s = true) {own : String} (hown : s.vm.findClass own = some m.cls) (hK : va_K D classes tys s) (hP : va_P D classes ws H) (hD : va_D A ws) (hS : va_S A H0 H locs) (hA : ∀ q, H0.size ≤ q → A q) {ci : Nat} {C : String} {T : u_T} {N : Nat} (hc : classes[ci]? = some (C, T, N)) {index : Nat} (h1 : Cond.classLink own index C ∈ WK) (h2 : Cond.instantiable C N ∈ WK) (h3 : Cond.initialized C ∈ WK) {fs : List Value} (hfs : ∀ (ty : Nat → FieldType), (∀ k, k < N → parseFieldDescriptor (T k).2.2.1 = some (ty k)) → ∀ j, j < N → defaultValue (ty j) = vp_V fs j) (hcells : cells + 1 ≤ R.cells) (hslots : slots + N ≤ R.slots) (hdg : decode cc pc = .ok (.new index, 3))
    (kk : ∀ (q : Nat) (H1 : Heap), va_P D classes (ws ++ [(q, .inr (ci, fs))]) H1 → va_D A (ws ++ [(q, .inr (ci, fs))]) → va_S A H0 H1 locs → W p l e R s m args below meth c H1 locs (cells + 1) (slots + N) Q (F0 m (pc + 3) ls (.ref q :: rest))) : W p l e R s m args below meth c H locs cells slots Q (F0 m pc ls rest) := by
  obtain ⟨ty0, hty⟩ := cls_ty hc
  exact va_new (D := D) hx hb hts (wC_k hc) ty0 hty hown (hts _ h1) (hts _ h2) (hts _ h3) hK hP hD hS hA hc (hfs ty0 hty) hcells hslots hdg kk
theorem knewa (hx : p.tables.exec = Jvm.exec) (hb : c.code = cc) (hts : ∀ w ∈ WK, w.before args s = true) (hK : va_K D classes tys s) (hP : va_P D classes ws H) (hD : va_D A ws) (hS : va_S A H0 H locs) (hA : ∀ q, H0.size ≤ q → A q) {n : Int32} (N : Nat) (hn : ¬ n < 0) (hN : n.toNatClampNeg = N) (hs : N ≤ 65536) (hcells : cells + 1 ≤ R.cells) (hslots : slots + N ≤ R.slots) (hdg : decode cc pc = .ok (.newarray .int, 2))
    (kk : ∀ (q : Nat) (cA : ClassId) (H1 : Heap), va_K D classes (tys ++ [(cA, .int)]) s → va_P D classes (ws ++ [(q, .inl (cA, N, .inl (fun _ => 0)))]) H1 → va_D A (ws ++ [(q, .inl (cA, N, .inl (fun _ => 0)))]) → va_S A H0 H1 locs → W p l e R s m args below meth c H1 locs (cells + 1) (slots + N) Q (F0 m (pc + 2) ls (.ref q :: rest))) : W p l e R s m args below meth c H locs cells slots Q (F0 m pc ls (.int n :: rest)) :=
  va_newa (D := D) (a0 := (N, .inl (fun _ => 0))) hx hb (hts _ WK_arr) rfl hK hP hD hS hA (fun cA => rfl) hn hN (by show N * 4 ≤ 536870912; omega) hcells hslots hdg kk
/-- a constructor's contract: from its own cell to the cells wo u, arrays of the classes ty u -/
def KPre (D : va_G) (vs : List Value) (h0 ci : Nat) (fs : List Value) (sz : Nat) : Array Value → State → Prop := va_Pc (.ref h0 :: vs) (fun U => U.heap.size = sz ∧ va_P D classes [(h0, .inr (ci, fs))] U.heap ∧ va_K D classes [] U ∧ va_D (fun _ => True) [(h0, .inr (ci, fs))])
def KPost (D : va_G) (h0 ci : Nat) (fs : List Value) (wo : (Nat → Nat) → va_W) (ty : (Nat → Nat) → List (ClassId × FieldType)) (sz : Nat) : Array Value → State → Outcome → State → Prop := va_Qv (fun _ : Nat → Nat => True) (fun u t => va_P D classes (wo u) t.heap ∧ va_K D classes (ty u) t ∧ va_D (va_A [(h0, .inr (ci, fs))] sz) (wo u)) (va_A [(h0, .inr (ci, fs))] sz)
theorem kblind (D : va_G) (vs : List Value) (h0 ci : Nat) (fs : List Value) (sz : Nat) : FrameBlind (KPre D vs h0 ci fs sz) := by
  intro a U g mk q
  obtain ⟨q0, q1, qP, qK, qD⟩ := q
  exact ⟨q0, q1, qP, va_K.moved (u := U) (U := U.calling g mk a) (Vm.Alike.refl U.vm) qK, qD⟩
theorem kpre (hK : va_K D classes tys s) (hP : va_P D classes ws H) (hD : va_D A ws) (q0 : Nat) {ci h0 : Nat} {fs : List Value} (he : ws[q0]? = some (h0, .inr (ci, fs))) (vs : List Value) : PreS s H (KPre D vs h0 ci fs H.size) (.ref h0 :: vs) := by
  refine ⟨kblind D vs h0 ci fs H.size, fun U hU hW => ⟨rfl, by rw [hU], ?_, va_K.moved hW.alike (hK.sub (tys' := []) [] rfl), ?_⟩⟩
  · rw [hU]
    exact hP.sub (ws' := [(h0, .inr (ci, fs))]) [q0] (by simp [he])
  · exact (hD.sub (ws' := [(h0, .inr (ci, fs))]) [q0] (by simp [va_nd]) (by simp [he])).weaken (fun _ _ _ _ => trivial)
theorem kjoin {mc ms : Nat} {st0 : List Value} {av : Array Value} {h0 ci : Nat} {fs : List Value} {wo : (Nat → Nat) → va_W} {ty : (Nat → Nat) → List (ClassId × FieldType)} (hr : va_Run p l e R s m args below meth c H locs cells slots mc ms (F0 m pc ls st0) rest (KPost D h0 ci fs wo ty H.size av) (va_A [(h0, .inr (ci, fs))] H.size)) (hK : va_K D classes tys s) (hP : va_P D classes ws H) (hD : va_D A ws) (hS : va_S A H0 H locs) (hA : ∀ q, H0.size ≤ q → A q) (q0 : Nat) (he : ws[q0]? = some (h0, .inr (ci, fs))) (isR : List Nat) {wr : va_W} (hR : isR.map (fun i => ws[i]?) = wr.map some) (hn : va_nd isR = true) (hdis : ∀ i ∈ isR, i ∉ [q0])
    (kk : ∀ (u : Nat → Nat) (H1 : Heap) (locs1 : List Loc), va_P D classes (wr ++ wo u) H1 → va_D A (wr ++ wo u) → va_K D classes (tys ++ ty u) s → va_S A H0 H1 locs1 → W p l e R s m args below meth c H1 locs1 (cells + mc) (slots + ms) Q (F0 m (pc + 3) ls rest)) : W p l e R s m args below meth c H locs cells slots Q (F0 m pc ls st0) := by
  have hC : [q0].map (fun i => ws[i]?) = ([(h0, .inr (ci, fs))] : va_W).map some := by simp [he]
  have hFc := va_free (wc := [(h0, .inr (ci, fs))]) hD hS hA [q0] hC
  refine va_callv hr hS (fun q _ h => hFc q h) hFc (fun u t H1 locs1 ht hvm _ hB hz1 hk1 hS1 => ?_)
  obtain ⟨hP1, hK1, hD1⟩ := hB
  rw [ht] at hP1
  have hK1 := va_K.moved hvm.symm hK1
  obtain ⟨hP2, hD2⟩ := va_join (wr := wr) (w1 := wo u) hP hD [q0] isR hC hR hn hdis hk1 hFc hP1 hD1
  exact kk u H1 locs1 hP2 hD2 (hK.app hK1) hS1
end CT
theorem df_SC : ∀ (ty : Nat → FieldType), (∀ k, k < 9 → parseFieldDescriptor (F_SC k).2.2.1 = some (ty k)) → ∀ j, j < 9 → defaultValue (ty j) = vp_V [.null, .null, .null, .null, .null, .null, .null, .null, .int 0] j := by
  intro ty hty j hj
  have h := hty j hj
  have hq : ∀ k, k < 9 → (parseFieldDescriptor (F_SC k).2.2.1).map defaultValue = some (vp_V [.null, .null, .null, .null, .null, .null, .null, .null, .int 0] k) := by decide +kernel
  have h2 := hq j hj
  rw [h] at h2
  exact Option.some.inj h2
theorem df_Mem : ∀ (ty : Nat → FieldType), (∀ k, k < 1 → parseFieldDescriptor (F_Mem k).2.2.1 = some (ty k)) → ∀ j, j < 1 → defaultValue (ty j) = vp_V [.null] j := by
  intro ty hty j hj
  have h := hty j hj
  have hq : ∀ k, k < 1 → (parseFieldDescriptor (F_Mem k).2.2.1).map defaultValue = some (vp_V [.null] k) := by decide +kernel
  have h2 := hq j hj
  rw [h] at h2
  exact Option.some.inj h2
theorem df_Reg : ∀ (ty : Nat → FieldType), (∀ k, k < 3 → parseFieldDescriptor (F_Reg k).2.2.1 = some (ty k)) → ∀ j, j < 3 → defaultValue (ty j) = vp_V [.null, .null, .int 0] j := by
  intro ty hty j hj
  have h := hty j hj
  have hq : ∀ k, k < 3 → (parseFieldDescriptor (F_Reg k).2.2.1).map defaultValue = some (vp_V [.null, .null, .int 0] k) := by decide +kernel
  have h2 := hq j hj
  rw [h] at h2
  exact Option.some.inj h2
theorem df_Fla : ∀ (ty : Nat → FieldType), (∀ k, k < 1 → parseFieldDescriptor (F_Fla k).2.2.1 = some (ty k)) → ∀ j, j < 1 → defaultValue (ty j) = vp_V [.int 0] j := by
  intro ty hty j hj
  have h := hty j hj
  have hq : ∀ k, k < 1 → (parseFieldDescriptor (F_Fla k).2.2.1).map defaultValue = some (vp_V [.int 0] k) := by decide +kernel
  have h2 := hq j hj
  rw [h] at h2
  exact Option.some.inj h2
theorem df_Ctl : ∀ (ty : Nat → FieldType), (∀ k, k < 4 → parseFieldDescriptor (F_Ctl k).2.2.1 = some (ty k)) → ∀ j, j < 4 → defaultValue (ty j) = vp_V [.int 0, .int 0, .int 0, .int 0] j := by
  intro ty hty j hj
  have h := hty j hj
  have hq : ∀ k, k < 4 → (parseFieldDescriptor (F_Ctl k).2.2.1).map defaultValue = some (vp_V [.int 0, .int 0, .int 0, .int 0] k) := by decide +kernel
  have h2 := hq j hj
  rw [h] at h2
  exact Option.some.inj h2
theorem df_Tim : ∀ (ty : Nat → FieldType), (∀ k, k < 7 → parseFieldDescriptor (F_Tim k).2.2.1 = some (ty k)) → ∀ j, j < 7 → defaultValue (ty j) = vp_V [.null, .int 0, .int 0, .int 0, .int 0, .int 0, .int 0] j := by
  intro ty hty j hj
  have h := hty j hj
  have hq : ∀ k, k < 7 → (parseFieldDescriptor (F_Tim k).2.2.1).map defaultValue = some (vp_V [.null, .int 0, .int 0, .int 0, .int 0, .int 0, .int 0] k) := by decide +kernel
  have h2 := hq j hj
  rw [h] at h2
  exact Option.some.inj h2
theorem df_Key : ∀ (ty : Nat → FieldType), (∀ k, k < 3 → parseFieldDescriptor (F_Key k).2.2.1 = some (ty k)) → ∀ j, j < 3 → defaultValue (ty j) = vp_V [.null, .null, .int 0] j := by
  intro ty hty j hj
  have h := hty j hj
  have hq : ∀ k, k < 3 → (parseFieldDescriptor (F_Key k).2.2.1).map defaultValue = some (vp_V [.null, .null, .int 0] k) := by decide +kernel
  have h2 := hq j hj
  rw [h] at h2
  exact Option.some.inj h2
theorem df_Cha : ∀ (ty : Nat → FieldType), (∀ k, k < 8 → parseFieldDescriptor (F_Cha k).2.2.1 = some (ty k)) → ∀ j, j < 8 → defaultValue (ty j) = vp_V [.null, .null, .int 0, .int 0, .int 0, .int 0, .int 0, .int 0] j := by
  intro ty hty j hj
  have h := hty j hj
  have hq : ∀ k, k < 8 → (parseFieldDescriptor (F_Cha k).2.2.1).map defaultValue = some (vp_V [.null, .null, .int 0, .int 0, .int 0, .int 0, .int 0, .int 0] k) := by decide +kernel
  have h2 := hq j hj
  rw [h] at h2
  exact Option.some.inj h2
theorem df_Por : ∀ (ty : Nat → FieldType), (∀ k, k < 4 → parseFieldDescriptor (F_Por k).2.2.1 = some (ty k)) → ∀ j, j < 4 → defaultValue (ty j) = vp_V [.null, .null, .null, .null] j := by
  intro ty hty j hj
  have h := hty j hj
  have hq : ∀ k, k < 4 → (parseFieldDescriptor (F_Por k).2.2.1).map defaultValue = some (vp_V [.null, .null, .null, .null] k) := by decide +kernel
  have h2 := hq j hj
  rw [h] at h2
  exact Option.some.inj h2
theorem df_Dec : ∀ (ty : Nat → FieldType), (∀ k, k < 12 → parseFieldDescriptor (F_Dec k).2.2.1 = some (ty k)) → ∀ j, j < 12 → defaultValue (ty j) = vp_V [.null, .null, .int 0, .int 0, .int 0, .int 0, .int 0, .int 0, .int 0, .int 0, .int 0, .int 0] j := by
  intro ty hty j hj
  have h := hty j hj
  have hq : ∀ k, k < 12 → (parseFieldDescriptor (F_Dec k).2.2.1).map defaultValue = some (vp_V [.null, .null, .int 0, .int 0, .int 0, .int 0, .int 0, .int 0, .int 0, .int 0, .int 0, .int 0] k) := by decide +kernel
  have h2 := hq j hj
  rw [h] at h2
  exact Option.some.inj h2
theorem df_Pro : ∀ (ty : Nat → FieldType), (∀ k, k < 9 → parseFieldDescriptor (F_Pro k).2.2.1 = some (ty k)) → ∀ j, j < 9 → defaultValue (ty j) = vp_V [.null, .null, .null, .null, .null, .null, .int 0, .int 0, .int 0] j := by
  intro ty hty j hj
  have h := hty j hj
  have hq : ∀ k, k < 9 → (parseFieldDescriptor (F_Pro k).2.2.1).map defaultValue = some (vp_V [.null, .null, .null, .null, .null, .null, .int 0, .int 0, .int 0] k) := by decide +kernel
  have h2 := hq j hj
  rw [h] at h2
  exact Option.some.inj h2
theorem df_Mod : ∀ (ty : Nat → FieldType), (∀ k, k < 36 → parseFieldDescriptor (F_Mod k).2.2.1 = some (ty k)) → ∀ j, j < 36 → defaultValue (ty j) = vp_V [.null, .null, .null, .int 0, .int 0, .int 0, .int 0, .int 0, .int 0, .int 0, .int 0, .int 0, .int 0, .int 0, .int 0, .int 0, .int 0, .int 0, .int 0, .int 0, .int 0, .int 0, .int 0, .int 0, .int 0, .int 0, .int 0, .int 0, .int 0, .null, .int 0, .int 0, .int 0, .int 0, .int 0, .int 0] j := by
  intro ty hty j hj
  have h := hty j hj
  have hq : ∀ k, k < 36 → (parseFieldDescriptor (F_Mod k).2.2.1).map defaultValue = some (vp_V [.null, .null, .null, .int 0, .int 0, .int 0, .int 0, .int 0, .int 0, .int 0, .int 0, .int 0, .int 0, .int 0, .int 0, .int 0, .int 0, .int 0, .int 0, .int 0, .int 0, .int 0, .int 0, .int 0, .int 0, .int 0, .int 0, .int 0, .int 0, .null, .int 0, .int 0, .int 0, .int 0, .int 0, .int 0] k) := by decide +kernel
  have h2 := hq j hj
  rw [h] at h2
  exact Option.some.inj h2
