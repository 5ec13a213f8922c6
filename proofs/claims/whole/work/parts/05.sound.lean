/-! SOUNDNESS: a step of the abstract machine is a step of the machine. -/
theorem wF_in {pt : PT} (hpt : pt ∈ pts) {q : Nat × Nat × Nat × Nat} (hq : q ∈ pF pt) {r : vw_C} (hr : classes[q.2.1]? = some r) : Cond.fieldLink pt.1 q.1 (r.2.1 q.2.2.1).1 (r.2.1 q.2.2.1).2.1 (r.2.1 q.2.2.1).2.2.1 ∈ WS := by
  refine List.mem_append_right _ (List.mem_flatMap.mpr ⟨pt, hpt, ?_⟩)
  refine List.mem_append_left _ (List.mem_flatMap.mpr ⟨q, hq, ?_⟩)
  unfold wF
  rw [hr]
  exact List.mem_singleton.mpr rfl
theorem wV_in {pt : PT} (hpt : pt ∈ pts) {q : Nat × MI × Nat × Nat} (hq : q ∈ pV pt) {w : Cond} (hw : w ∈ wV pt.1 q) : w ∈ WS := by
  refine List.mem_append_right _ (List.mem_flatMap.mpr ⟨pt, hpt, ?_⟩)
  exact List.mem_append_right _ (List.mem_append_left _ (List.mem_flatMap.mpr ⟨q, hq, hw⟩))
theorem wS_in {pt : PT} (hpt : pt ∈ pts) {q : Nat × MI × Nat} (hq : q ∈ pS pt) {w : Cond} (hw : w ∈ wS pt.1 q) : w ∈ WS := by
  refine List.mem_append_right _ (List.mem_flatMap.mpr ⟨pt, hpt, ?_⟩)
  exact List.mem_append_right _ (List.mem_append_right _ (List.mem_append_left _ (List.mem_flatMap.mpr ⟨q, hq, hw⟩)))
theorem wI_in {pt : PT} (hpt : pt ∈ pts) {k : Nat} {v : Int32} (hq : (k, v) ∈ pI pt) : Cond.constant pt.1 k v ∈ WS := by
  refine List.mem_append_right _ (List.mem_flatMap.mpr ⟨pt, hpt, ?_⟩)
  exact List.mem_append_right _ (List.mem_append_right _ (List.mem_append_right _ (List.mem_append_left _ (List.mem_map.mpr ⟨(k, v), hq, rfl⟩))))
theorem wL_in {pt : PT} (hpt : pt ∈ pts) {k : Nat} {v : Int64} (hq : (k, v) ∈ pL pt) : Cond.constantLong pt.1 k v ∈ WS := by
  refine List.mem_append_right _ (List.mem_flatMap.mpr ⟨pt, hpt, ?_⟩)
  exact List.mem_append_right _ (List.mem_append_right _ (List.mem_append_right _ (List.mem_append_right _ (List.mem_map.mpr ⟨(k, v), hq, rfl⟩))))
theorem wC_in {ci : Nat} {r : vw_C} (hr : classes[ci]? = some r) : ∀ w ∈ u_ws r.1 r.2.1 r.2.2, w ∈ WS := fun w hw =>
  List.mem_append_left _ (List.mem_flatMap.mpr ⟨r, List.mem_of_getElem? hr, hw⟩)
theorem goodWS (mi : MI) (h : Cond.code mi.1 mi.2.1 mi.2.2.1 mi.2.2.2.1 ∈ WS) : GoodIn WS (wsJ mi) := by
  intro w hw
  rcases List.mem_cons.mp hw with rfl | hw
  · exact ⟨h, Or.inl rfl⟩
  · exact ⟨hw, good_of_word (List.all_eq_true.mp WS_good w hw)⟩
theorem blind (ad : Nat → Nat) (D : va_G) (cI : ClassId) (σ : Sg) (vs : List Value) : FrameBlind (va_Pc vs (WB ad D cI σ)) := by
  intro a U g mk q
  obtain ⟨q0, qP, qK, qJ⟩ := q
  exact ⟨q0, qP, va_K.moved (u := U) (U := U.calling g mk a) (Vm.Alike.refl U.vm) qK, qJ⟩
section SND
variable {p : Program} {l : Launch} {e : Env} {R : Room} {s : State} {m : MethodId} {args : Array Value} {below : List Frame} {meth : Method} {c : Code} {cells slots : Nat} {Q : State → Prop}
variable {ad : Nat → Nat} {D : va_G} {cI : ClassId} {A : Nat → Prop}
theorem mj_call {H H0 : Heap} {locs : List Loc} {pc : Nat} {ls : Array Slot} {st0 rest : List Value} {K : Option Value → Sg → Prop} {a : Array Value} (hr : va_Run p l e R s m args below meth c H locs cells slots 0 0 (F0 m pc ls st0) rest (QJ ad D cI K a) (AA ad)) (hS : va_S A H0 H locs) (hA : ∀ i, i < shape.length → A (ad i))
    (kk : ∀ (r : Option Value) (σ : Sg) (H1 : Heap) (locs1 : List Loc), K r σ → va_P D classes (pic ad cI σ) H1 → va_S A H0 H1 locs1 → W p l e R s m args below meth c H1 locs1 cells slots Q (F0 m (pc + 3) ls ((r.map (cv ad)).toList ++ rest))) : W p l e R s m args below meth c H locs cells slots Q (F0 m pc ls st0) := by
  have hAA : ∀ q, AA ad q → A q := fun q h => by obtain ⟨i, h1, h2⟩ := h; rw [h2]; exact hA i h1
  intro T hT X
  obtain ⟨v, st₀, t, T', L, h0, X', hL, e1, e2, ⟨⟨r, σ, hv, hk, hp⟩, hz, hkp⟩, st⟩ := hr T hT X
  have hv' : v = r.map (cv ad) := by injection hv
  subst hv'
  rw [h0] at hz hkp
  obtain ⟨t2, a1, b1⟩ := kk r σ T'.heap (locs ++ L) hk (by rw [e1]; exact hp)
    ⟨Nat.le_trans hS.1 (by rw [e1]; exact hz), fun q h1 h2 => by rw [e1, hkp q (Nat.lt_of_lt_of_le h1 hS.1) (fun z => h2 (hAA q z))]; exact hS.2.1 q h1 h2, fun q hq => by
      rcases List.mem_append.mp hq with h | h
      · exact hS.2.2 q h
      · exact hAA _ (hL q h)⟩ T' rfl X'
  exact ⟨t2, st t2 a1, b1⟩
/-- the machine at an abstract state -/
def XW (p : Program) (l : Launch) (e : Env) (R : Room) (s : State) (m : MethodId) (args : Array Value) (below : List Frame) (meth : Method) (c : Code) (cells slots : Nat) (Q : State → Prop) (ad : Nat → Nat) (D : va_G) (cI : ClassId) (A : Nat → Prop) (nL : Nat) (pc : Nat) (lv st : List Value) (σ : Sg) : Prop :=
  ∀ (ls : Array Slot) (H : Heap) (locs : List Loc), LL ad nL lv ls → va_P D classes (pic ad cI σ) H → va_S A s.heap H locs → W p l e R s m args below meth c H locs cells slots Q (F0 m pc ls (st.map (cv ad)))
/-- what a body needs -/
def CX (p : Program) (R : Room) (s : State) (m : MethodId) (args : Array Value) (c : Code) (cells slots : Nat) (ad : Nat → Nat) (D : va_G) (cI : ClassId) (A : Nat → Prop) (cc : ByteArray) (nL : Nat) (pt : PT) (d : Nat × Nat) : Prop :=
  p.tables.exec = Jvm.exec ∧ c.code = cc ∧ c.maxLocals = nL ∧ s.vm.findClass pt.1 = some m.cls ∧ (∀ w ∈ WS, w.before args s = true) ∧ va_K D classes [(cI, FieldType.int)] s ∧ IJ ad ∧ (∀ i, i < shape.length → A (ad i)) ∧ pt ∈ pts ∧ d.1 ≤ R.frames ∧ d.2 ≤ R.locals ∧ cells ≤ R.cells ∧ slots ≤ R.slots
/-- its returns -/
def RT (p : Program) (l : Launch) (e : Env) (R : Room) (s : State) (m : MethodId) (args : Array Value) (below : List Frame) (meth : Method) (c : Code) (cells slots : Nat) (Q : State → Prop) (ad : Nat → Nat) (D : va_G) (cI : ClassId) (A : Nat → Prop) (cc : ByteArray) (ret : Option FieldType) (K : Option Value → Sg → Prop) : Prop :=
  (∀ (pc : Nat) (ls : Array Slot) (v : Int32) (σ : Sg) (H : Heap) (locs : List Loc), decode cc pc = .ok (.ireturn, 1) → (ret = some .int ∨ (ret = some .boolean ∧ (v = 0 ∨ v = 1))) → K (some (.int v)) σ → va_P D classes (pic ad cI σ) H → va_S A s.heap H locs → W p l e R s m args below meth c H locs cells slots Q (F0 m pc ls [.int v])) ∧
  (∀ (pc : Nat) (ls : Array Slot) (σ : Sg) (H : Heap) (locs : List Loc), decode cc pc = .ok (.return_, 1) → ret = none → K none σ → va_P D classes (pic ad cI σ) H → va_S A s.heap H locs → W p l e R s m args below meth c H locs cells slots Q (F0 m pc ls []))
theorem ptb_F {pt : PT} (hpt : pt ∈ pts) {q : Nat × Nat × Nat × Nat} (hq : q ∈ pF pt) : fb q = true := by
  have h := List.all_eq_true.mp pts_ok pt hpt
  unfold ptb at h
  simp only [Bool.and_eq_true] at h
  exact List.all_eq_true.mp h.1 q hq
theorem ptb_V {pt : PT} (hpt : pt ∈ pts) {q : Nat × MI × Nat × Nat} (hq : q ∈ pV pt) : vb q = true := by
  have h := List.all_eq_true.mp pts_ok pt hpt
  unfold ptb at h
  simp only [Bool.and_eq_true] at h
  exact List.all_eq_true.mp h.2.1 q hq
theorem ptb_S {pt : PT} (hpt : pt ∈ pts) {q : Nat × MI × Nat} (hq : q ∈ pS pt) : sb q = true := by
  have h := List.all_eq_true.mp pts_ok pt hpt
  unfold ptb at h
  simp only [Bool.and_eq_true] at h
  exact List.all_eq_true.mp h.2.2 q hq
theorem fb_e {q : Nat × Nat × Nat × Nat} (h : fb q = true) : ∃ C T N, classes[q.2.1]? = some (C, T, N) ∧ q.2.2.1 < N ∧ (q.2.2.2 = 1 → (T q.2.2.1).2.2.2 = false ∧ parseFieldDescriptor (T q.2.2.1).2.2.1 = some .int) ∧ (q.2.2.2 = 2 → (T q.2.2.1).2.2.2 = false ∧ parseFieldDescriptor (T q.2.2.1).2.2.1 = some .boolean) := by
  unfold fb at h
  split at h
  · rename_i r hr
    obtain ⟨C, T, N⟩ := r
    simp only [Bool.and_eq_true, decide_eq_true_eq] at h
    obtain ⟨h1, h2, h3⟩ := h
    refine ⟨C, T, N, hr, h1, fun e => ?_, fun e => ?_⟩
    · rw [if_pos e] at h2
      simp only [Bool.and_eq_true, decide_eq_true_eq] at h2
      exact h2
    · rw [if_pos e] at h3
      simp only [Bool.and_eq_true, decide_eq_true_eq] at h3
      exact h3
  · cases h
theorem cls_ty {ci : Nat} {C : String} {T : u_T} {N : Nat} (h : classes[ci]? = some (C, T, N)) : ∃ ty : Nat → FieldType, ∀ k, k < N → parseFieldDescriptor (T k).2.2.1 = some (ty k) := by
  have h1 := List.all_eq_true.mp classes_ok _ (List.mem_of_getElem? h)
  unfold clb at h1
  simp only [Bool.and_eq_true] at h1
  refine ⟨fun k => (parseFieldDescriptor (T k).2.2.1).getD .int, fun k hk => ?_⟩
  have h2 := List.all_eq_true.mp h1.1 k (List.mem_range.mpr hk)
  cases hp : parseFieldDescriptor (T k).2.2.1 with
  | none => rw [hp] at h2; cases h2
  | some t => simp [hp]
theorem cls_nm {ci : Nat} {C : String} {T : u_T} {N : Nat} (h : classes[ci]? = some (C, T, N)) : ∀ a, a < N → ∀ b, b < N → a ≠ b → (T a).2.1 ≠ (T b).2.1 := by
  have h1 := List.all_eq_true.mp classes_ok _ (List.mem_of_getElem? h)
  unfold clb at h1
  simp only [Bool.and_eq_true] at h1
  intro a ha b hb hab
  have h2 := List.all_eq_true.mp (List.all_eq_true.mp h1.2 a (List.mem_range.mpr ha)) b (List.mem_range.mpr hb)
  simp only [Bool.or_eq_true, decide_eq_true_eq] at h2
  rcases h2 with h2 | h2
  · exact absurd h2 hab
  · exact h2
set_option maxHeartbeats 4000000 in
theorem stp_ok {cc : ByteArray} {nL : Nat} {pt : PT} {ret : Option FieldType} {d : Nat × Nat} {K : Option Value → Sg → Prop} {Y : List Value → List Value → Sg → Prop} {nx : Nat} {it : IT} (hC : CX p R s m args c cells slots ad D cI A cc nL pt d) (hR : RT p l e R s m args below meth c cells slots Q ad D cI A cc ret K) (hok : itOK cc pt nx it = true)
    (hY : ∀ lv st σ, Y lv st σ → XW p l e R s m args below meth c cells slots Q ad D cI A nL nx lv st σ) {lv st : List Value} {σ : Sg} (h : stp l ad D cI pt ret d (XW p l e R s m args below meth c cells slots Q ad D cI A nL) K it Y lv st σ) : XW p l e R s m args below meth c cells slots Q ad D cI A nL it.1 lv st σ := by
  obtain ⟨hx, hb, hml, hown, hts, hK, hJ, hA, hpt, hfr, hlo, hce, hsl⟩ := hC
  obtain ⟨pc, i, n, v, t, ps⟩ := it
  simp only [itOK, Bool.and_eq_true, decide_eq_true_eq] at hok
  obtain ⟨hd, rfl, ha⟩ := hok
  intro ls H locs hL hP hS
  cases i with
  | iconst k =>
    simp only [itA, Bool.and_eq_true, decide_eq_true_eq] at ha
    obtain ⟨rfl, hv⟩ := ha
    exact lv_iconst hx hb hd hv (hY _ _ _ h ls H locs hL hP hS)
  | bipush k =>
    simp only [itA, Bool.and_eq_true, decide_eq_true_eq] at ha
    obtain ⟨rfl, hv⟩ := ha
    exact lv_bipush hx hb hd hv (hY _ _ _ h ls H locs hL hP hS)
  | sipush k =>
    simp only [itA, Bool.and_eq_true, decide_eq_true_eq] at ha
    obtain ⟨rfl, hv⟩ := ha
    exact lv_sipush hx hb hd hv (hY _ _ _ h ls H locs hL hP hS)
  | ldc k =>
    simp only [itA, Bool.and_eq_true, decide_eq_true_eq] at ha
    obtain ⟨rfl, hv⟩ := ha
    exact lv_ldc hx hb hown (hts _ (wI_in hpt hv)) hd (hY _ _ _ h ls H locs hL hP hS)
  | ldc_w k =>
    simp only [itA, Bool.and_eq_true, decide_eq_true_eq] at ha
    obtain ⟨rfl, hv⟩ := ha
    exact lv_ldcw hx hb hown (hts _ (wI_in hpt hv)) hd (hY _ _ _ h ls H locs hL hP hS)
  | lconst k =>
    have hn : n = 1 := of_decide_eq_true ha
    subst hn
    exact lv_lconst hx hb hd rfl (hY _ _ _ h ls H locs hL hP hS)
  | ldc2_w k =>
    have hn : n = 3 := of_decide_eq_true ha
    subst hn
    obtain ⟨x, hm, h⟩ := lku_e h
    exact lv_ldc2 hx hb hown (hts _ (wL_in hpt hm)) hd (hY _ _ _ h ls H locs hL hP hS)
  | iload_n k =>
    have hn : n = 1 := of_decide_eq_true ha
    subst hn
    obtain ⟨x, hx1, h⟩ := ldI_e h
    exact lv_iload_n hx hb hd rfl (hL.at hx1 (by simp)) (hY _ _ _ h ls H locs hL hP hS)
  | iload k =>
    have hn : n = 2 := of_decide_eq_true ha
    subst hn
    obtain ⟨x, hx1, h⟩ := ldI_e h
    exact lv_iload hx hb hd (hL.at hx1 (by simp)) (hY _ _ _ h ls H locs hL hP hS)
  | istore_n k =>
    have hn : n = 1 := of_decide_eq_true ha
    subst hn
    have h : stI lv st k (fun lv r => Y lv r σ) := h
    obtain ⟨x, r, rfl, hi, h⟩ := stI_e h
    exact lv_istore_n hx hb hd rfl hL.has (by rw [← hL.1]; exact hi) rfl fun ls2 h2 => hY _ _ _ h ls2 H locs (hL.st1 h2) hP hS
  | istore k =>
    have hn : n = 2 := of_decide_eq_true ha
    subst hn
    have h : stI lv st k (fun lv r => Y lv r σ) := h
    obtain ⟨x, r, rfl, hi, h⟩ := stI_e h
    exact lv_istore hx hb hd hL.has (by rw [← hL.1]; exact hi) rfl fun ls2 h2 => hY _ _ _ h ls2 H locs (hL.st1 h2) hP hS
  | lload_n k =>
    have hn : n = 1 := of_decide_eq_true ha
    subst hn
    obtain ⟨x, hx1, h⟩ := ldL_e h
    exact lv_lload_n hx hb hd rfl (hL.at hx1 (by simp)) (hY _ _ _ h ls H locs hL hP hS)
  | lload k =>
    have hn : n = 2 := of_decide_eq_true ha
    subst hn
    obtain ⟨x, hx1, h⟩ := ldL_e h
    exact lv_lload hx hb hd (hL.at hx1 (by simp)) (hY _ _ _ h ls H locs hL hP hS)
  | lstore_n k =>
    have hn : n = 1 := of_decide_eq_true ha
    subst hn
    have h : stL lv st k (fun lv r => Y lv r σ) := h
    obtain ⟨x, r, rfl, hi, h⟩ := stL_e h
    exact lv_lstore_n hx hb hd rfl hL.has (by rw [← hL.1]; exact hi) rfl fun ls2 h2 => hY _ _ _ h ls2 H locs (hL.st2 h2) hP hS
  | lstore k =>
    have hn : n = 2 := of_decide_eq_true ha
    subst hn
    have h : stL lv st k (fun lv r => Y lv r σ) := h
    obtain ⟨x, r, rfl, hi, h⟩ := stL_e h
    exact lv_lstore hx hb hd hL.has (by rw [← hL.1]; exact hi) rfl fun ls2 h2 => hY _ _ _ h ls2 H locs (hL.st2 h2) hP hS
  | aload_n k =>
    have hn : n = 1 := of_decide_eq_true ha
    subst hn
    obtain ⟨x, hx1, h⟩ := ldR_e h
    exact lv_aload_n hx hb hd rfl (hL.at hx1 (by simp)) (hY _ _ _ h ls H locs hL hP hS)
  | aload k =>
    have hn : n = 2 := of_decide_eq_true ha
    subst hn
    obtain ⟨x, hx1, h⟩ := ldR_e h
    exact lv_aload hx hb hd (hL.at hx1 (by simp)) (hY _ _ _ h ls H locs hL hP hS)
  | astore_n k =>
    have hn : n = 1 := of_decide_eq_true ha
    subst hn
    have h : stR lv st k (fun lv r => Y lv r σ) := h
    obtain ⟨x, r, rfl, hi, h⟩ := stR_e h
    exact lv_astore_n hx hb hd rfl hL.has (by rw [← hL.1]; exact hi) rfl fun ls2 h2 => hY _ _ _ h ls2 H locs (hL.st1 h2) hP hS
  | astore k =>
    have hn : n = 2 := of_decide_eq_true ha
    subst hn
    have h : stR lv st k (fun lv r => Y lv r σ) := h
    obtain ⟨x, r, rfl, hi, h⟩ := stR_e h
    exact lv_astore hx hb hd hL.has (by rw [← hL.1]; exact hi) rfl fun ls2 h2 => hY _ _ _ h ls2 H locs (hL.st1 h2) hP hS
  | iinc k w =>
    simp only [itA, Bool.and_eq_true, decide_eq_true_eq] at ha
    obtain ⟨rfl, hv⟩ := ha
    obtain ⟨x, hx1, h⟩ := ldI_e h
    rw [lsn_eq] at h
    obtain ⟨kk, hkk⟩ := List.getElem?_of_mem (lp_in (ad := ad) hx1 (by simp))
    exact lv_iinc (x := x) hx hb hd hL.has hkk (by rw [hv]) (by rw [← hL.1]; exact (List.getElem?_eq_some_iff.mp hx1).1) rfl fun ls2 h2 => hY _ _ _ h ls2 H locs (hL.st1 (v := .int (x + v)) h2) hP hS
  | iadd =>
    have hn : n = 1 := of_decide_eq_true ha
    subst hn
    obtain ⟨a, b, r, rfl, h⟩ := qII_e h
    exact lv_iadd hx hb hd (hY _ _ _ h ls H locs hL hP hS)
  | isub =>
    have hn : n = 1 := of_decide_eq_true ha
    subst hn
    obtain ⟨a, b, r, rfl, h⟩ := qII_e h
    exact lv_isub hx hb hd (hY _ _ _ h ls H locs hL hP hS)
  | imul =>
    have hn : n = 1 := of_decide_eq_true ha
    subst hn
    obtain ⟨a, b, r, rfl, h⟩ := qII_e h
    exact lv_imul hx hb hd (hY _ _ _ h ls H locs hL hP hS)
  | iand =>
    have hn : n = 1 := of_decide_eq_true ha
    subst hn
    obtain ⟨a, b, r, rfl, h⟩ := qII_e h
    exact lv_iand hx hb hd (hY _ _ _ h ls H locs hL hP hS)
  | ior =>
    have hn : n = 1 := of_decide_eq_true ha
    subst hn
    obtain ⟨a, b, r, rfl, h⟩ := qII_e h
    exact lv_ior hx hb hd (hY _ _ _ h ls H locs hL hP hS)
  | ixor =>
    have hn : n = 1 := of_decide_eq_true ha
    subst hn
    obtain ⟨a, b, r, rfl, h⟩ := qII_e h
    exact lv_ixor hx hb hd (hY _ _ _ h ls H locs hL hP hS)
  | ishl =>
    have hn : n = 1 := of_decide_eq_true ha
    subst hn
    obtain ⟨a, b, r, rfl, h⟩ := qII_e h
    exact lv_ishl hx hb hd (hY _ _ _ h ls H locs hL hP hS)
  | ishr =>
    have hn : n = 1 := of_decide_eq_true ha
    subst hn
    obtain ⟨a, b, r, rfl, h⟩ := qII_e h
    exact lv_ishr hx hb hd (hY _ _ _ h ls H locs hL hP hS)
  | iushr =>
    have hn : n = 1 := of_decide_eq_true ha
    subst hn
    obtain ⟨a, b, r, rfl, h⟩ := qII_e h
    exact lv_iushr hx hb hd rfl (hY _ _ _ h ls H locs hL hP hS)
  | idiv =>
    have hn : n = 1 := of_decide_eq_true ha
    subst hn
    obtain ⟨a, b, r, rfl, h0, h⟩ := qII_e h
    exact lv_idiv hx hb hd h0 (hY _ _ _ h ls H locs hL hP hS)
  | ineg =>
    have hn : n = 1 := of_decide_eq_true ha
    subst hn
    obtain ⟨a, r, rfl, h⟩ := qI_e h
    exact lv_ineg hx hb hd (hY _ _ _ h ls H locs hL hP hS)
  | ladd =>
    have hn : n = 1 := of_decide_eq_true ha
    subst hn
    obtain ⟨a, b, r, rfl, h⟩ := qLL_e h
    exact lv_ladd hx hb hd (hY _ _ _ h ls H locs hL hP hS)
  | lsub =>
    have hn : n = 1 := of_decide_eq_true ha
    subst hn
    obtain ⟨a, b, r, rfl, h⟩ := qLL_e h
    exact lv_lsub hx hb hd (hY _ _ _ h ls H locs hL hP hS)
  | lmul =>
    have hn : n = 1 := of_decide_eq_true ha
    subst hn
    obtain ⟨a, b, r, rfl, h⟩ := qLL_e h
    exact lv_lmul hx hb hd (hY _ _ _ h ls H locs hL hP hS)
  | land =>
    have hn : n = 1 := of_decide_eq_true ha
    subst hn
    obtain ⟨a, b, r, rfl, h⟩ := qLL_e h
    exact lv_land hx hb hd (hY _ _ _ h ls H locs hL hP hS)
  | lor =>
    have hn : n = 1 := of_decide_eq_true ha
    subst hn
    obtain ⟨a, b, r, rfl, h⟩ := qLL_e h
    exact lv_lor hx hb hd (hY _ _ _ h ls H locs hL hP hS)
  | ldiv =>
    have hn : n = 1 := of_decide_eq_true ha
    subst hn
    obtain ⟨a, b, r, rfl, h0, h⟩ := qLL_e h
    exact lv_ldiv hx hb hd h0 (hY _ _ _ h ls H locs hL hP hS)
  | lrem =>
    have hn : n = 1 := of_decide_eq_true ha
    subst hn
    obtain ⟨a, b, r, rfl, h0, h⟩ := qLL_e h
    exact lv_lrem hx hb hd h0 (hY _ _ _ h ls H locs hL hP hS)
  | lshl =>
    have hn : n = 1 := of_decide_eq_true ha
    subst hn
    obtain ⟨a, b, r, rfl, h⟩ := qLI_e h
    exact lv_lshl hx hb hd rfl (hY _ _ _ h ls H locs hL hP hS)
  | lshr =>
    have hn : n = 1 := of_decide_eq_true ha
    subst hn
    obtain ⟨a, b, r, rfl, h⟩ := qLI_e h
    exact lv_lshr hx hb hd rfl (hY _ _ _ h ls H locs hL hP hS)
  | lcmp =>
    have hn : n = 1 := of_decide_eq_true ha
    subst hn
    obtain ⟨a, b, r, rfl, h⟩ := qLL_e h
    exact W.lcmp hx hb hd (hY _ _ _ h ls H locs hL hP hS)
  | i2l =>
    have hn : n = 1 := of_decide_eq_true ha
    subst hn
    obtain ⟨a, r, rfl, h⟩ := qI_e h
    exact lv_i2l hx hb hd rfl (hY _ _ _ h ls H locs hL hP hS)
  | i2b =>
    have hn : n = 1 := of_decide_eq_true ha
    subst hn
    obtain ⟨a, r, rfl, h⟩ := qI_e h
    exact lv_i2b hx hb hd rfl (hY _ _ _ h ls H locs hL hP hS)
  | l2i =>
    have hn : n = 1 := of_decide_eq_true ha
    subst hn
    obtain ⟨a, r, rfl, h⟩ := qL_e h
    exact lv_l2i hx hb hd rfl (hY _ _ _ h ls H locs hL hP hS)
  | dup =>
    have hn : n = 1 := of_decide_eq_true ha
    subst hn
    obtain ⟨a, r, rfl, c1, h⟩ := pp_e h
    exact lv_dup hx hb hd (by rw [cv_cat]; assumption) (hY _ _ _ h ls H locs hL hP hS)
  | pop =>
    have hn : n = 1 := of_decide_eq_true ha
    subst hn
    obtain ⟨a, r, rfl, c1, h⟩ := pp_e h
    exact lv_pop hx hb hd (by rw [cv_cat]; assumption) (hY _ _ _ h ls H locs hL hP hS)
  | dup_x1 =>
    have hn : n = 1 := of_decide_eq_true ha
    subst hn
    obtain ⟨a, r, rfl, c1, h⟩ := pp_e h
    obtain ⟨b, r, rfl, c2, h⟩ := pp_e h
    exact lv_dup_x1 hx hb hd (by rw [cv_cat]; exact c1) (by rw [cv_cat]; exact c2) (hY _ _ _ h ls H locs hL hP hS)
  | dup_x2 =>
    have hn : n = 1 := of_decide_eq_true ha
    subst hn
    obtain ⟨a, r, rfl, c1, h⟩ := pp_e h
    obtain ⟨b, r, rfl, c2, h⟩ := pp_e h
    obtain ⟨w, r, rfl, c3, h⟩ := pp_e h
    exact lv_dup_x2 hx hb hd (by rw [cv_cat]; exact c1) (by rw [cv_cat]; exact c2) (by rw [cv_cat]; exact c3) (hY _ _ _ h ls H locs hL hP hS)
  | dup2 =>
    have hn : n = 1 := of_decide_eq_true ha
    subst hn
    obtain ⟨a, r, rfl, c1, h⟩ := pp_e h
    obtain ⟨b, r, rfl, c2, h⟩ := pp_e h
    exact lv_dup2_11 hx hb hd (by rw [cv_cat]; exact c1) (by rw [cv_cat]; exact c2) (hY _ _ _ h ls H locs hL hP hS)
  | goto o =>
    simp only [itA, Bool.and_eq_true, decide_eq_true_eq] at ha
    obtain ⟨rfl, hv⟩ := ha
    exact lv_goto hx hb hd hv (h ls H locs hL hP hS)
  | ifCond k o =>
    simp only [itA, Bool.and_eq_true, decide_eq_true_eq] at ha
    obtain ⟨rfl, hv⟩ := ha
    cases k with
    | eq =>
      obtain ⟨a, r, rfl, h1, h2⟩ := qI_e h
      exact lv_if_eq hx hb hd hv (fun q => h1 q ls H locs hL hP hS) (fun q => hY _ _ _ (h2 q) ls H locs hL hP hS)
    | ne =>
      obtain ⟨a, r, rfl, h1, h2⟩ := qI_e h
      exact lv_if_ne hx hb hd hv (fun q => h2 q ls H locs hL hP hS) (fun q => hY _ _ _ (h1 q) ls H locs hL hP hS)
    | lt =>
      obtain ⟨a, r, rfl, h1, h2⟩ := qI_e h
      exact lv_if_lt hx hb hd hv (fun q => h1 q ls H locs hL hP hS) (fun q => hY _ _ _ (h2 q) ls H locs hL hP hS)
    | ge =>
      obtain ⟨a, r, rfl, h1, h2⟩ := qI_e h
      exact lv_if_ge hx hb hd hv (fun q => h1 q ls H locs hL hP hS) (fun q => hY _ _ _ (h2 q) ls H locs hL hP hS)
    | gt =>
      obtain ⟨a, r, rfl, h1, h2⟩ := qI_e h
      exact lv_if_gt hx hb hd hv (fun q => h1 q ls H locs hL hP hS) (fun q => hY _ _ _ (h2 q) ls H locs hL hP hS)
    | le =>
      obtain ⟨a, r, rfl, h1, h2⟩ := qI_e h
      exact lv_if_le hx hb hd hv (fun q => h1 q ls H locs hL hP hS) (fun q => hY _ _ _ (h2 q) ls H locs hL hP hS)
  | if_icmp k o =>
    simp only [itA, Bool.and_eq_true, decide_eq_true_eq] at ha
    obtain ⟨rfl, hv⟩ := ha
    cases k with
    | eq =>
      obtain ⟨a, b, r, rfl, h1, h2⟩ := qII_e h
      exact lv_icmp_eq hx hb hd hv (fun q => h1 q ls H locs hL hP hS) (fun q => hY _ _ _ (h2 q) ls H locs hL hP hS)
    | ne =>
      obtain ⟨a, b, r, rfl, h1, h2⟩ := qII_e h
      exact lv_icmp_ne hx hb hd hv (fun q => h2 q ls H locs hL hP hS) (fun q => hY _ _ _ (h1 q) ls H locs hL hP hS)
    | lt =>
      obtain ⟨a, b, r, rfl, h1, h2⟩ := qII_e h
      exact lv_icmp_lt hx hb hd hv (fun q => h1 q ls H locs hL hP hS) (fun q => hY _ _ _ (h2 q) ls H locs hL hP hS)
    | ge =>
      obtain ⟨a, b, r, rfl, h1, h2⟩ := qII_e h
      exact lv_icmp_ge hx hb hd hv (fun q => h1 q ls H locs hL hP hS) (fun q => hY _ _ _ (h2 q) ls H locs hL hP hS)
    | gt =>
      obtain ⟨a, b, r, rfl, h1, h2⟩ := qII_e h
      exact lv_icmp_gt hx hb hd hv (fun q => h1 q ls H locs hL hP hS) (fun q => hY _ _ _ (h2 q) ls H locs hL hP hS)
    | le =>
      obtain ⟨a, b, r, rfl, h1, h2⟩ := qII_e h
      exact lv_icmp_le hx hb hd hv (fun q => h1 q ls H locs hL hP hS) (fun q => hY _ _ _ (h2 q) ls H locs hL hP hS)
  | lookupswitch df pr =>
    simp only [itA, Bool.and_eq_true, decide_eq_true_eq] at ha
    obtain ⟨h1, h2, h3⟩ := ha
    obtain ⟨a, r, rfl, h⟩ := qI_e h
    obtain ⟨t2, e2, hk⟩ := swl_ok h3 _ _ h2 h
    exact lv_lookup hx hb hd h1 rfl e2 (hk ls H locs hL hP hS)
  | tableswitch df lo hi os =>
    simp only [itA, Bool.and_eq_true, decide_eq_true_eq] at ha
    obtain ⟨h1, h2, h3⟩ := ha
    obtain ⟨a, r, rfl, h⟩ := qI_e h
    obtain ⟨t2, hk, hq⟩ := swt_ok lo _ _ h2 h
    have hz : (os.toList.length : Int) = (os.size : Int) := by simp
    rcases hq with ⟨rfl, hq⟩ | ⟨off, q1, q2, q3, q4⟩
    · exact lv_tableOut hx hb hd (by omega) h3 (hk ls H locs hL hP hS)
    · exact lv_tableIn hx hb hd q1 (by omega) (by rw [← Array.getElem?_toList]; exact q3) q4 (hk ls H locs hL hP hS)
  | getfield k =>
    have hn : n = 3 := of_decide_eq_true ha
    subst hn
    obtain ⟨q, hm, h⟩ := lku_e h
    obtain ⟨o, r, rfl, g5⟩ := qR_e h
    obtain ⟨fs, w, h1, h2, g6⟩ := gtf_e g5
    obtain ⟨C, T, N, hc, hk, -, -⟩ := fb_e (ptb_F hpt hm)
    refine va_get (D := D) (v := fv ad σ o q.2.1 w) hx hb hts (wC_in hc) hown hK hP o (pic_get h1) hc q.2.1 hk (hts _ (wF_in hpt hm hc)) (fun _ z => z) ?_ hd ?_
    · rw [List.getElem?_mapIdx, h2]; rfl
    · have h9 := hY _ _ _ g6 ls H locs hL hP hS
      cases w with
      | none => exact h9
      | some k2 => exact h9
  | putfield k =>
    have hn : n = 3 := of_decide_eq_true ha
    subst hn
    obtain ⟨q, hm, h⟩ := lku_e h
    obtain ⟨x, o, r, rfl, h⟩ := qIR_e h
    obtain ⟨fs, h1, h2, h⟩ := ptf_e h
    obtain ⟨C, T, N, hc, hk, g1, g2⟩ := fb_e (ptb_F hpt hm)
    obtain ⟨ty, hty⟩ := cls_ty hc
    have hjl : q.2.1 < (fs.mapIdx (fv ad σ o)).length := by rw [List.length_mapIdx]; exact (List.getElem?_eq_some_iff.mp h2).1
    obtain ⟨q1, q2, q3⟩ := q
    dsimp only at h hc hk g1 g2 h1 h2 hjl
    have key : (∃ fty, parseFieldDescriptor (T q2).2.2.1 = some fty ∧ (T q2).2.2.2 = false ∧ narrow fty (.int x) = .int x ∧ fits fty (.int x) = true) ∧ Y lv r (up2 σ o q2 x) := by
      split at h
      · exact ⟨⟨.int, (g1 rfl).2, (g1 rfl).1, rfl, rfl⟩, h.2⟩
      · refine ⟨⟨.boolean, (g2 rfl).2, (g2 rfl).1, ?_, ?_⟩, h.2⟩
        · rcases h.1 with e | e <;> rw [e] <;> rfl
        · rcases h.1 with e | e <;> rw [e] <;> rfl
      · exact h.elim
    obtain ⟨⟨fty, k1, k2, k3, k4⟩, h⟩ := key
    refine va_put (D := D) (v := .int x) hx hb hts (wC_in hc) ty hty (cls_nm hc) hown hK hP (pic_D hJ hA σ) hS o (pic_get h1) hc q2 hk (hts _ (wF_in hpt hm hc)) (fun _ z => z) k2 k1 k3 k4 hjl hd fun H1 locs1 hP1 hD1 hS1 => ?_
    rw [pic_put h1 h2] at hP1
    exact hY _ _ _ h ls H1 locs1 hL hP1 hS1
  | iaload =>
    have hn : n = 1 := of_decide_eq_true ha
    subst hn
    obtain ⟨x, o, r, rfl, h⟩ := qIR_e h
    obtain ⟨N, h1, h2, h⟩ := arr_e h
    exact va_iald (D := D) (f := σ o) hx hb hK hP o 0 (pic_get h1) rfl h2 hd (hY _ _ _ h ls H locs hL hP hS)
  | iastore =>
    have hn : n = 1 := of_decide_eq_true ha
    subst hn
    obtain ⟨x, j, o, r, rfl, h⟩ := qIIR_e h
    obtain ⟨N, h1, h2, h⟩ := arr_e h
    refine va_iast (D := D) (f := σ o) hx hb hK hP (pic_D hJ hA σ) hS o 0 (pic_get h1) rfl h2 hd fun H1 locs1 hP1 hD1 hS1 => ?_
    rw [pic_ast h1] at hP1
    exact hY _ _ _ h ls H1 locs1 hL hP1 hS1
  | arraylength =>
    have hn : n = 1 := of_decide_eq_true ha
    subst hn
    obtain ⟨o, r, rfl, h⟩ := qR_e h
    obtain ⟨N, h1, h⟩ := arr_e h
    exact va_alen (D := D) hx hb hK hP o 0 (pic_get h1) rfl rfl hd (hY _ _ _ h ls H locs hL hP hS)
  | invokevirtual k =>
    have hn : n = 3 := of_decide_eq_true ha
    subst hn
    obtain ⟨q, hm, h⟩ := lku_e h
    obtain ⟨mi, na, ci⟩ := q
    obtain ⟨o, r, hst, h⟩ := qR_e h
    split at h
    · rename_i hrc
      obtain ⟨h8, h⟩ := sm8_e h
      simp only [Bool.and_eq_true, rom, Nat.ble_eq] at hrc
      obtain ⟨hrc, hr1, hr2⟩ := hrc
      obtain ⟨fs, hsh⟩ := rcv_e hrc
      have hv := ptb_V hpt hm
      simp only [vb, Bool.and_eq_true, decide_eq_true_eq] at hv
      obtain ⟨hv1, hv2, hv3, hv4⟩ := hv
      have hcl : ∃ T N, classes[ci]? = some (mi.1.cls, T, N) := by
        split at hv1
        · rename_i r9 hr9
          obtain ⟨C, T, N⟩ := r9
          simp only [decide_eq_true_eq] at hv1
          exact ⟨T, N, by rw [hr9, ← hv1]⟩
        · cases hv1
      obtain ⟨T, N, hc⟩ := hcl
      have w : ∀ {z}, z ∈ wV pt.1 (k, mi, na, ci) → z ∈ WS := fun hz => wV_in hpt hm hz
      dsimp only at hst h h8
      have hle : na ≤ st.length := by
        by_cases hq : na ≤ st.length
        · exact hq
        · rw [List.drop_eq_nil_of_le (by omega)] at hst; cases hst
      have hsplit : st.map (cv ad) = (((st.take na).reverse).map (cv ad)).reverse ++ .ref (ad o) :: r.map (cv ad) := by
        rw [← List.map_reverse, List.reverse_reverse]
        have e9 : st = st.take na ++ .ref o :: r := by rw [← hst, List.take_append_drop]
        calc st.map (cv ad) = (st.take na ++ .ref o :: r).map (cv ad) := by rw [← e9]
          _ = _ := by rw [List.map_append]; rfl
      refine mj_call (K := fun rv σ2 => Y lv (rv.toList ++ r) σ2) (rest := r.map (cv ad)) (va_runV (As := ((st.take na).reverse).map (cv ad)) (b := ad o) (n := na) ⟨hx, hb, hml, hown, hts⟩ h ⟨callB_of na hts (goodWS mi (w (by simp [wV]))) rfl rfl rfl (hts _ (w (by simp [wV]))) (hts _ (w (by simp [wV]))) ⟨hv2, hv3, hv4⟩ ⟨?_, ?_⟩, hts _ (w (by simp [wV])), hts _ (w (by simp [wV]))⟩ ⟨blind ad D cI σ _, va_recv hK hP hc (pic_get hsh), fun U hU hW => ⟨rfl, by rw [hU]; exact hP, va_K.moved hW.alike hK, hJ⟩⟩ rfl ?_ (hL.2.1) hsplit ?_ hd ⟨hce, hsl⟩) hS hA fun rv σ2 H1 locs1 hk hP1 hS1 => ?_
      · show mi.2.2.2.2.1 + 1 ≤ R.frames; exact Nat.le_trans hr1 hfr
      · show 8 + (mi.2.2.1 + 11) + mi.2.2.2.2.2 ≤ R.locals; exact Nat.le_trans hr2 hlo
      · simp [hle]
      · exact lv_room (by rw [cv_cats]; exact h8)
      · have h9 := hY _ _ _ hk ls H1 locs1 hL hP1 hS1
        rw [List.map_append] at h9
        cases rv <;> exact h9
    · exact h.elim
  | invokestatic k =>
    have hn : n = 3 := of_decide_eq_true ha
    subst hn
    obtain ⟨q, hm, h⟩ := lku_e h
    obtain ⟨mi, na⟩ := q
    split at h
    · rename_i hle
      obtain ⟨h8, h⟩ := sm8_e h
      simp only [Bool.and_eq_true, rom, Nat.ble_eq] at hle
      obtain ⟨hle, hr1, hr2⟩ := hle
      have hv := ptb_S hpt hm
      simp only [sb, Bool.and_eq_true, decide_eq_true_eq] at hv
      obtain ⟨hv2, hv3, hv4⟩ := hv
      have w : ∀ {z}, z ∈ wS pt.1 (k, mi, na) → z ∈ WS := fun hz => wS_in hpt hm hz
      have hsplit : st.map (cv ad) = (((st.take na).reverse).map (cv ad)).reverse ++ (st.drop na).map (cv ad) := by
        rw [← List.map_reverse, List.reverse_reverse, ← List.map_append, List.take_append_drop]
      refine mj_call (K := fun rv σ2 => Y lv (rv.toList ++ st.drop na) σ2) (rest := (st.drop na).map (cv ad)) (va_runS (As := ((st.take na).reverse).map (cv ad)) (n := na) ⟨hx, hb, hml, hown, hts⟩ h ⟨callB_of na hts (goodWS mi (w (by simp [wS]))) rfl rfl rfl (hts _ (w (by simp [wS]))) (hts _ (w (by simp [wS]))) ⟨hv2, hv3, hv4⟩ ⟨?_, ?_⟩, hts _ (w (by simp [wS]))⟩ ⟨blind ad D cI σ _, fun U hU hW => ⟨rfl, by rw [hU]; exact hP, va_K.moved hW.alike hK, hJ⟩⟩ rfl ?_ (hL.2.1) hsplit ?_ hd ⟨hce, hsl⟩) hS hA fun rv σ2 H1 locs1 hk hP1 hS1 => ?_
      · show mi.2.2.2.2.1 + 1 ≤ R.frames; exact Nat.le_trans hr1 hfr
      · show 8 + (mi.2.2.1 + 11) + mi.2.2.2.2.2 ≤ R.locals; exact Nat.le_trans hr2 hlo
      · simp [hle]
      · exact lv_room (by rw [cv_cats]; exact h8)
      · have h9 := hY _ _ _ hk ls H1 locs1 hL hP1 hS1
        rw [List.map_append] at h9
        cases rv <;> exact h9
    · exact h.elim
  | ireturn =>
    have hn : n = 1 := of_decide_eq_true ha
    subst hn
    obtain ⟨x, r, rfl, g1⟩ := qI_e h
    obtain ⟨rfl, g2⟩ := nilP_e g1
    obtain ⟨g3, g4⟩ := riP_e g2
    exact hR.1 pc ls x σ H locs hd g3 g4 hP hS
  | return_ =>
    have hn : n = 1 := of_decide_eq_true ha
    subst hn
    obtain ⟨rfl, g2⟩ := nilP_e (h : nilP st (rvP ret (K none σ)))
    obtain ⟨g3, g4⟩ := rvP_e g2
    exact hR.2 pc ls σ H locs hd g3 g4 hP hS
  | _ => exact (h : False).elim
/-- a run of items: a block -/
def blk (l : Launch) (ad : Nat → Nat) (D : va_G) (cI : ClassId) (pt : PT) (ret : Option FieldType) (d : Nat × Nat) (X : Nat → List Value → List Value → Sg → Prop) (K : Option Value → Sg → Prop) (en : Nat) : List IT → List Value → List Value → Sg → Prop
  | [] => X en
  | it :: is => stp l ad D cI pt ret d X K it (blk l ad D cI pt ret d X K en is)
theorem blk_ok {cc : ByteArray} {nL : Nat} {pt : PT} {ret : Option FieldType} {d : Nat × Nat} {K : Option Value → Sg → Prop} (hC : CX p R s m args c cells slots ad D cI A cc nL pt d) (hR : RT p l e R s m args below meth c cells slots Q ad D cI A cc ret K) (en : Nat) : ∀ (is : List IT), blkOK cc pt en is = true → ∀ (lv st : List Value) (σ : Sg), blk l ad D cI pt ret d (XW p l e R s m args below meth c cells slots Q ad D cI A nL) K en is lv st σ → XW p l e R s m args below meth c cells slots Q ad D cI A nL (hdp is en) lv st σ
  | [], _, _, _, _, h => h
  | it :: is, hk, lv, st, σ, h => by
    simp only [blkOK, Bool.and_eq_true] at hk
    exact stp_ok hC hR hk.1 (fun lv st σ => blk_ok hC hR en is hk.2 lv st σ) h
end SND
/-- what a body's proof may use: X is closed under blocks -/
def Cl (l : Launch) (ad : Nat → Nat) (D : va_G) (cI : ClassId) (mi : MI) (pt : PT) (K : Option Value → Sg → Prop) (X : Nat → List Value → List Value → Sg → Prop) : Prop :=
  (∀ (en : Nat) (is : List IT), blkOK mi.2.1 pt en is = true → ∀ (lv st : List Value) (σ : Sg), blk l ad D cI pt mi.2.2.2.1 (mi.2.2.2.2.1, mi.2.2.2.2.2) X K en is lv st σ → X (hdp is en) lv st σ) ∧
  (∀ (pc : Nat) (lv st : List Value) (σ : Sg) (k : Nat), X pc (lv.set k .null) st σ → X pc lv st σ)
def fgt (lv : List Value) : List Nat → List Value
  | [] => lv
  | k :: ks => fgt (lv.set k .null) ks
theorem Cl.fg {l : Launch} {ad : Nat → Nat} {D : va_G} {cI : ClassId} {mi : MI} {pt : PT} {K : Option Value → Sg → Prop} {X : Nat → List Value → List Value → Sg → Prop} (hX : Cl l ad D cI mi pt K X) {pc : Nat} {st : List Value} {σ : Sg} : ∀ (ks : List Nat) {lv : List Value}, X pc (fgt lv ks) st σ → X pc lv st σ
  | [], _, h => h
  | k :: ks, _, h => hX.2 pc _ st σ k (Cl.fg hX ks h)
theorem LL.fg {ad : Nat → Nat} {nL : Nat} {lv : List Value} {ls : Array Slot} (h : LL ad nL lv ls) (k : Nat) : LL ad nL (lv.set k .null) ls := by
  refine ⟨by rw [List.length_set]; exact h.1, h.2.1, h.2.2.1, fun i v hv hn => ?_⟩
  rw [List.getElem?_set] at hv
  by_cases hk : k = i
  · rw [if_pos hk] at hv
    split at hv
    · cases hv; exact absurd rfl hn
    · cases hv
  · rw [if_neg hk] at hv
    exact h.2.2.2 i v hv hn
/-- a value gets a name -/
def bnd {α β : Type} (x : α) (k : α → β) : β := k x
theorem bnd_g {α β : Type} {P : β → Prop} {x : α} {k : α → β} {G : α → Prop} (h : P (bnd x k)) (g : ∀ r, x = r → P (k r) → G r) : G x := g x rfl h
theorem SG_g {β : Type} {P : β → Prop} {x : Sg} {k : Sg → β} {y : Sg → Prop} (h : P (bnd x k)) (g : ∀ s, x = s → P (k s) → y s) : SG x y := g x rfl h
theorem bnd_z {α β : Type} {P : β → Prop} {x : α} {k : α → β} (g : ∀ r, x = r → P (k r)) : P (bnd x k) := g x rfl
theorem bnd_zz {α β : Type} {Z : α → Prop} {P : β → Prop} {x : α} {k : α → β} (h : Z x) (g : ∀ r, x = r → Z r → P (k r)) : P (bnd x k) := g x rfl h
theorem ite_p {α : Type} {P : α → Prop} {q : Prop} [inst : Decidable q] {a b : α} (h : P (if q then a else b)) (hq : q) : P a := by rw [if_pos hq] at h; exact h
theorem ite_n {α : Type} {P : α → Prop} {q : Prop} [inst : Decidable q] {a b : α} (h : P (if q then a else b)) (hq : ¬ q) : P b := by rw [if_neg hq] at h; exact h
theorem ite_z {α : Type} {P : α → Prop} {q : Prop} [inst : Decidable q] {a b : α} (ha : q → P a) (hb : ¬ q → P b) : P (if q then a else b) := by
  split
  · exact ha (by assumption)
  · exact hb (by assumption)
/-- which places a function writes; what every such write keeps, it keeps -/
def wm (W : List (Nat × Option Nat)) (i j : Nat) : Prop := (i, none) ∈ W ∨ (i, some j) ∈ W
def WP (W : List (Nat × Option Nat)) (P : Sg → Prop) : Prop := ∀ (s : Sg) (i j : Nat) (v : Int32), wm W i j → P s → P (up2 s i j v)
def PP (P : Sg → Prop) (r : Int32 × Sg) : Prop := P r.2
theorem wsub {W W2 : List (Nat × Option Nat)} {P : Sg → Prop} (h : WP W P) (hs : (W2.all fun q => decide (q ∈ W)) = true) : WP W2 P := fun s i j v hw hp => h s i j v (hw.imp (fun z => of_decide_eq_true (List.all_eq_true.mp hs _ z)) (fun z => of_decide_eq_true (List.all_eq_true.mp hs _ z))) hp
def Zb (r : Int32 × Sg) : Prop := r.1 = 0 ∨ r.1 = 1
def KI (K : Option Value → Sg → Prop) (r : Int32 × Sg) : Prop := K (some (.int r.1)) r.2
def KV (K : Option Value → Sg → Prop) (s : Sg) : Prop := K none s
theorem vin {i : Int32} {n : Nat} (h : decide (¬ (i < 0 ∨ n ≤ i.toNatClampNeg)) = true) : vp_in i n := by
  unfold vp_in
  exact of_decide_eq_true h
theorem vin_le {i : Int32} {n k : Nat} (h : vp_in i n) (hk : n ≤ k) : vp_in i k := fun q => h (q.imp id (fun z => Nat.le_trans hk z))
theorem lv_args_cat1 : ∀ (vs : List Value) (k : Nat), (∀ v ∈ vs, v.category = 1) → ∀ (i : Nat) (v : Value), vs[i]? = some v → (k + i, v) ∈ lv_args k vs
  | [], _, _, _, _, h => by cases h
  | w :: vs, k, hc, 0, v, h => by
    cases h
    exact List.mem_cons_self
  | w :: vs, k, hc, i + 1, v, h => by
    have h1 : w.category = 1 := hc w List.mem_cons_self
    have h2 := lv_args_cat1 vs (k + 1) (fun x hx => hc x (List.mem_cons_of_mem _ hx)) i v h
    have e : lv_args k (w :: vs) = (k, w) :: lv_args (k + 1) vs := by
      show (k, w) :: lv_args (if w.category = 2 then k + 2 else k + 1) vs = _
      rw [if_neg (by omega)]
    rw [e, show k + (i + 1) = k + 1 + i by omega]
    exact List.mem_cons_of_mem _ h2
theorem sl_cat1 : ∀ (vs : List Value), (∀ v ∈ vs, v.category = 1) → (lg_sl vs).length = vs.length
  | [], _ => rfl
  | w :: vs, hc => by
    have h1 : w.category = 1 := hc w List.mem_cons_self
    have h2 := sl_cat1 vs (fun x hx => hc x (List.mem_cons_of_mem _ hx))
    simp only [lg_sl, List.flatMap_cons] at h2 ⊢
    rw [if_neg (by omega), List.length_append, h2]
    simp; omega
/-- a contract out of the body's walk -/
theorem met_of {l : Launch} {ad : Nat → Nat} {D : va_G} {cI : ClassId} (mi : MI) (pt : PT) (hpt : pt ∈ pts) (hpc : pt.1 = mi.1.cls) (hpl : plainName mi.1.cls = true) {vs : List Value} {σ : Sg} {K : Option Value → Sg → Prop} (hc0 : vs.all (fun v => v.category == 1) = true) (hn : vs.length ≤ mi.2.2.1)
    (body : ∀ X, Cl l ad D cI mi pt K X → X 0 (vs ++ List.replicate (mi.2.2.1 - vs.length) .null) [] σ) : MetJ l ad D cI mi vs σ K := by
  have hc : ∀ v ∈ vs, v.category = 1 := fun v hv => by simpa using List.all_eq_true.mp hc0 v hv
  obtain ⟨y, cc, nL, ret, hh, ll⟩ := mi
  refine Met.ofW (cc := cc) (maxL := nL) (ret := ret) hpl rfl ?_
  intro p e s m args below meth c s₁ B hml hv
  obtain ⟨rfl, hP, hK, hJ⟩ := hv
  have hx := B.exec
  have hb := B.bytes
  have hr := B.returns
  have hlocks := B.notSynchronized
  have hts0 := atoms_spec (ws := wsJ (y, cc, nL, ret, hh, ll)) B.pre
  have hts : ∀ w ∈ WS, w.before (vs.map (cv ad)).toArray s = true := fun w hw => hts0 w (List.mem_cons_of_mem _ hw)
  have hown : s.vm.findClass pt.1 = some m.cls := by rw [hpc]; exact findClass_of_methodNamed B.named
  have hC : CX p (headSpec (wsJ (y, cc, nL, ret, hh, ll)) (rmJ (y, cc, nL, ret, hh, ll))).room s m (vs.map (cv ad)).toArray c 0 0 ad D cI (AA ad) cc nL pt (hh, ll) := ⟨hx, hb, hml, hown, hts, hK, hJ, fun i hi => ⟨i, hi, rfl⟩, hpt, Nat.le_refl _, Nat.le_refl _, Nat.le_refl _, Nat.le_refl _⟩
  have hR : RT p l e (headSpec (wsJ (y, cc, nL, ret, hh, ll)) (rmJ (y, cc, nL, ret, hh, ll))).room s m (vs.map (cv ad)).toArray below meth c 0 0 (MQ below (QJ ad D cI K) (vs.map (cv ad)).toArray s 0 0 (AA ad)) ad D cI (AA ad) cc ret K := by
    refine ⟨fun pc ls v σ H locs hd hre hk hP hS => ?_, fun pc ls σ H locs hd hre hk hP hS => ?_⟩
    · rcases hre with e1 | ⟨e1, e2⟩
      · exact W.iret hx hb (by rw [hr]; exact e1) (fun t ht hW => ⟨⟨some (.int v), σ, rfl, hk, by rw [ht]; exact hP⟩, hS.F ht⟩) hS.2.2 hd
      · exact W.zret (ty := .boolean) hx hb (by rw [hr]; exact e1) (by rcases e2 with e | e <;> rw [e] <;> rfl) (fun t ht hW => ⟨⟨some (.int v), σ, rfl, hk, by rw [ht]; exact hP⟩, hS.F ht⟩) hS.2.2 hd
    · exact W.vret hx hb (by rw [hr]; exact hre) (fun t ht hW => ⟨⟨none, σ, rfl, hk, by rw [ht]; exact hP⟩, hS.F ht⟩) hS.2.2 hd
  have hc' : ∀ v ∈ vs.map (cv ad), v.category = 1 := fun v hv => by
    obtain ⟨w, hw, rfl⟩ := List.mem_map.mp hv
    rw [cv_cat]; exact hc w hw
  have hl := lv_entry (vs.map (cv ad)) (n := nL) (by rw [sl_cat1 _ hc', List.length_map]; exact hn)
  rw [lg_entry_eq]
  refine body _ ⟨fun en is hk lv st σ hb => blk_ok hC hR en is hk lv st σ hb, fun pc lv st σ k h ls H locs hL hP hS => h ls H locs (hL.fg k) hP hS⟩ _ _ [] ⟨?_, hl.1, hl.2.1, fun i v hv hnn => ?_⟩ hP va_S.rf
  · rw [List.length_append, List.length_replicate]
    exact Nat.add_sub_cancel' hn
  · have hi : i < vs.length := by
      by_cases hi : i < vs.length
      · exact hi
      · rw [List.getElem?_append_right (by omega), List.getElem?_replicate] at hv
        split at hv
        · cases hv; exact absurd rfl hnn
        · cases hv
    rw [List.getElem?_append_left hi] at hv
    have h9 := lv_args_cat1 (vs.map (cv ad)) 0 hc' i (cv ad v) (by rw [List.getElem?_map, hv]; rfl)
    rw [Nat.zero_add] at h9
    exact hl.2.2 _ h9
