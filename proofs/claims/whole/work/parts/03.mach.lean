/-! THE ABSTRACT MACHINE: code that makes no objects, over a world of fixed shape; a cell is named by its place in 'shape', all its numbers lie in one function. -/
/-- the state: cell, slot -> number -/
abbrev Sg : Type := Nat → Nat → Int32
def up2 (σ : Sg) (i j : Nat) (v : Int32) : Sg := fun a => if a = i then upd (σ i) j v else σ a
theorem up2_same (σ : Sg) (i j : Nat) (v : Int32) : up2 σ i j v i = upd (σ i) j v := by simp [up2]
theorem up2_ne (σ : Sg) {i a : Nat} (j : Nat) (v : Int32) (h : a ≠ i) : up2 σ i j v a = σ a := by simp [up2, h]
/-- an abstract value: a reference is a cell's place -/
def cv (ad : Nat → Nat) (v : Value) : Value := match v with
  | .ref k => .ref (ad k)
  | w => w
theorem cv_cat (ad : Nat → Nat) (v : Value) : (cv ad v).category = v.category := by cases v <;> rfl
theorem cv_cats (ad : Nat → Nat) (r : List Value) : ((r.map (cv ad)).map fun v => v.category) = r.map fun v => v.category := by
  rw [List.map_map]
  exact List.map_congr_left fun v _ => cv_cat ad v
def fv (ad : Nat → Nat) (σ : Sg) (i j : Nat) (o : Option Nat) : Value := match o with
  | some k => .ref (ad k)
  | none => .int (σ i j)
def ce (ad : Nat → Nat) (cI : ClassId) (σ : Sg) (i : Nat) (sh : Sh) : Nat × va_E := match sh with
  | .inl n => (ad i, .inl (cI, n, .inl (σ i)))
  | .inr o => (ad i, .inr (o.1, o.2.mapIdx (fv ad σ i)))
def pic (ad : Nat → Nat) (cI : ClassId) (σ : Sg) : va_W := shape.mapIdx (ce ad cI σ)
theorem pic_get {ad : Nat → Nat} {cI : ClassId} {σ : Sg} {i : Nat} {sh : Sh} (h : shape[i]? = some sh) : (pic ad cI σ)[i]? = some (ce ad cI σ i sh) := by
  simp [pic, List.getElem?_mapIdx, h]
theorem pic_of {ad : Nat → Nat} {cI : ClassId} {σ : Sg} {i : Nat} {q : Nat × va_E} (h : (pic ad cI σ)[i]? = some q) : ∃ sh, shape[i]? = some sh ∧ q = ce ad cI σ i sh := by
  rw [pic, List.getElem?_mapIdx] at h
  cases hs : shape[i]? with
  | none => rw [hs] at h; cases h
  | some sh => rw [hs] at h; exact ⟨sh, rfl, (Option.some.inj h).symm⟩
theorem ce_1 (ad : Nat → Nat) (cI : ClassId) (σ : Sg) (i : Nat) (sh : Sh) : (ce ad cI σ i sh).1 = ad i := by cases sh <;> rfl
theorem ce_ne {ad : Nat → Nat} {cI : ClassId} {σ : Sg} {i a j : Nat} {v : Int32} {sh : Sh} (h : a ≠ i) : ce ad cI (up2 σ i j v) a sh = ce ad cI σ a sh := by
  have e : fv ad (up2 σ i j v) a = fv ad σ a := by
    funext b o
    cases o <;> simp [fv, up2_ne _ _ _ h]
  cases sh with
  | inl n => simp [ce, up2_ne _ _ _ h]
  | inr o => simp [ce, e]
theorem pic_len (ad : Nat → Nat) (cI : ClassId) (σ : Sg) : (pic ad cI σ).length = shape.length := by simp [pic]
theorem sh_lt {i : Nat} {sh : Sh} (h : shape[i]? = some sh) : i < shape.length := (List.getElem?_eq_some_iff.mp h).1
theorem pic_set {ad : Nat → Nat} {cI : ClassId} {σ : Sg} {i j : Nat} {v : Int32} {sh : Sh} (h : shape[i]? = some sh) : (pic ad cI σ).set i (ce ad cI (up2 σ i j v) i sh) = pic ad cI (up2 σ i j v) := by
  apply List.ext_getElem?
  intro a
  rw [List.getElem?_set]
  by_cases ha : i = a
  · subst ha
    rw [if_pos rfl, if_pos (by rw [pic_len]; exact sh_lt h), pic_get h]
  · rw [if_neg ha]
    simp only [pic, List.getElem?_mapIdx]
    cases hs : shape[a]? with
    | none => rfl
    | some s2 => simp only [Option.map_some]; rw [ce_ne (Ne.symm ha)]
theorem pic_put {ad : Nat → Nat} {cI : ClassId} {σ : Sg} {i ci j : Nat} {v : Int32} {fs : List (Option Nat)} (h : shape[i]? = some (.inr (ci, fs))) (hj : fs[j]? = some none) : (pic ad cI σ).set i (ad i, .inr (ci, (fs.mapIdx (fv ad σ i)).set j (.int v))) = pic ad cI (up2 σ i j v) := by
  rw [← pic_set h]
  congr 1
  show _ = (ad i, Sum.inr (ci, fs.mapIdx (fv ad (up2 σ i j v) i)))
  congr 2
  congr 1
  apply List.ext_getElem?
  intro b
  rw [List.getElem?_set, List.getElem?_mapIdx, List.getElem?_mapIdx, List.length_mapIdx]
  by_cases hb : j = b
  · subst hb
    rw [if_pos rfl, if_pos (List.getElem?_eq_some_iff.mp hj).1, hj]
    simp [fv, up2_same, upd]
  · rw [if_neg hb]
    cases hs : fs[b]? with
    | none => rfl
    | some o =>
      cases o with
      | none => simp [fv, up2_same, upd, Ne.symm hb]
      | some k => simp [fv]
theorem pic_ast {ad : Nat → Nat} {cI : ClassId} {σ : Sg} {i n j : Nat} {v : Int32} (h : shape[i]? = some (.inl n)) : (pic ad cI σ).set i (ad i, .inl (cI, n, .inl (upd (σ i) j v))) = pic ad cI (up2 σ i j v) := by
  rw [← pic_set h]
  congr 1
  simp [ce, up2_same]
/-- the addresses are apart; which they are -/
def IJ (ad : Nat → Nat) : Prop := ∀ i j, i < shape.length → j < shape.length → ad i = ad j → i = j
def AA (ad : Nat → Nat) : Nat → Prop := fun q => ∃ i, i < shape.length ∧ q = ad i
theorem pic_D {ad : Nat → Nat} {cI : ClassId} {A : Nat → Prop} (hJ : IJ ad) (hA : ∀ i, i < shape.length → A (ad i)) (σ : Sg) : va_D A (pic ad cI σ) := by
  refine ⟨fun i j p q hp hq he => ?_, fun k q hq => ?_⟩
  · obtain ⟨s1, h1, rfl⟩ := pic_of hp
    obtain ⟨s2, h2, rfl⟩ := pic_of hq
    rw [ce_1, ce_1] at he
    exact hJ i j (sh_lt h1) (sh_lt h2) he
  · obtain ⟨s1, h1, rfl⟩ := pic_of hq
    rw [ce_1]
    exact hA k (sh_lt h1)
/-- a contract: any heap that holds the picture of σ; it returns r, with the picture of σ', and K r σ' -/
def QJ (ad : Nat → Nat) (D : va_G) (cI : ClassId) (K : Option Value → Sg → Prop) : Array Value → State → Outcome → State → Prop := fun _ st oc t => (∃ (r : Option Value) (σ : Sg), oc = .returned (r.map (cv ad)) ∧ K r σ ∧ va_P D classes (pic ad cI σ) t.heap) ∧ va_F (AA ad) st t
def WB (ad : Nat → Nat) (D : va_G) (cI : ClassId) (σ : Sg) (U : State) : Prop := va_P D classes (pic ad cI σ) U.heap ∧ va_K D classes [(cI, FieldType.int)] U ∧ IJ ad
def rmJ (mi : MI) : Room := { frames := mi.2.2.2.2.1, cells := 0, slots := 0, locals := mi.2.2.2.2.2 }
def wsJ (mi : MI) : List Cond := .code mi.1 mi.2.1 mi.2.2.1 mi.2.2.2.1 :: WS
def MetJ (l : Launch) (ad : Nat → Nat) (D : va_G) (cI : ClassId) (mi : MI) (vs : List Value) (σ : Sg) (K : Option Value → Sg → Prop) : Prop :=
  Met l mi.1 (wsJ mi) (rmJ mi) (va_Pc (vs.map (cv ad)) (WB ad D cI σ)) (QJ ad D cI K) 0 0 (AA ad)
/-! what an instruction asks -/
def qI (st : List Value) (k : Int32 → List Value → Prop) : Prop := match st with
  | .int a :: r => k a r
  | _ => False
def qII (st : List Value) (k : Int32 → Int32 → List Value → Prop) : Prop := match st with
  | .int b :: .int a :: r => k a b r
  | _ => False
def qL (st : List Value) (k : Int64 → List Value → Prop) : Prop := match st with
  | .long a :: r => k a r
  | _ => False
def qLL (st : List Value) (k : Int64 → Int64 → List Value → Prop) : Prop := match st with
  | .long b :: .long a :: r => k a b r
  | _ => False
def qLI (st : List Value) (k : Int64 → Int32 → List Value → Prop) : Prop := match st with
  | .int b :: .long a :: r => k a b r
  | _ => False
def qR (st : List Value) (k : Nat → List Value → Prop) : Prop := match st with
  | .ref a :: r => k a r
  | _ => False
def qIR (st : List Value) (k : Int32 → Nat → List Value → Prop) : Prop := match st with
  | .int x :: .ref a :: r => k x a r
  | _ => False
def qIIR (st : List Value) (k : Int32 → Int32 → Nat → List Value → Prop) : Prop := match st with
  | .int x :: .int i :: .ref a :: r => k x i a r
  | _ => False
theorem qI_e {st : List Value} {k : Int32 → List Value → Prop} (h : qI st k) : ∃ a r, st = .int a :: r ∧ k a r := by
  unfold qI at h
  split at h
  · exact ⟨_, _, rfl, h⟩
  · exact h.elim
theorem qII_e {st : List Value} {k : Int32 → Int32 → List Value → Prop} (h : qII st k) : ∃ a b r, st = .int b :: .int a :: r ∧ k a b r := by
  unfold qII at h
  split at h
  · exact ⟨_, _, _, rfl, h⟩
  · exact h.elim
theorem qL_e {st : List Value} {k : Int64 → List Value → Prop} (h : qL st k) : ∃ a r, st = .long a :: r ∧ k a r := by
  unfold qL at h
  split at h
  · exact ⟨_, _, rfl, h⟩
  · exact h.elim
theorem qLL_e {st : List Value} {k : Int64 → Int64 → List Value → Prop} (h : qLL st k) : ∃ a b r, st = .long b :: .long a :: r ∧ k a b r := by
  unfold qLL at h
  split at h
  · exact ⟨_, _, _, rfl, h⟩
  · exact h.elim
theorem qLI_e {st : List Value} {k : Int64 → Int32 → List Value → Prop} (h : qLI st k) : ∃ a b r, st = .int b :: .long a :: r ∧ k a b r := by
  unfold qLI at h
  split at h
  · exact ⟨_, _, _, rfl, h⟩
  · exact h.elim
theorem qR_e {st : List Value} {k : Nat → List Value → Prop} (h : qR st k) : ∃ a r, st = .ref a :: r ∧ k a r := by
  unfold qR at h
  split at h
  · exact ⟨_, _, rfl, h⟩
  · exact h.elim
theorem qIR_e {st : List Value} {k : Int32 → Nat → List Value → Prop} (h : qIR st k) : ∃ x a r, st = .int x :: .ref a :: r ∧ k x a r := by
  unfold qIR at h
  split at h
  · exact ⟨_, _, _, rfl, h⟩
  · exact h.elim
theorem qIIR_e {st : List Value} {k : Int32 → Int32 → Nat → List Value → Prop} (h : qIIR st k) : ∃ x i a r, st = .int x :: .int i :: .ref a :: r ∧ k x i a r := by
  unfold qIIR at h
  split at h
  · exact ⟨_, _, _, _, rfl, h⟩
  · exact h.elim
/-- a switch as a chain -/
def swP (P : Nat → Prop) (x : Int32) (df : Nat) : List (Int32 × Nat) → Prop
  | [] => P df
  | q :: r => (x = q.1 → P q.2) ∧ (¬ x = q.1 → swP P x df r)
/-- locals: one value a place; .null stands for what isn't known -/
def lun (lv : List Value) : Nat → List Value
  | 0 => lv
  | j + 1 => match lv[j]? with
    | some v => if v.category = 2 then lv.set j .null else lv
    | none => lv
def lse (lv : List Value) (i : Nat) (v : Value) : List Value := (lun lv i).set i v
/-- the same, a place at a time -/
def lsn : List Value → Nat → Value → List Value
  | [], _, _ => []
  | _ :: r, 0, v => v :: r
  | w :: r, 1, v => (if w.category = 2 then .null else w) :: lsn r 0 v
  | w :: r, i + 2, v => w :: lsn r (i + 1) v
theorem lsn_eq : ∀ (lv : List Value) (i : Nat) (v : Value), lsn lv i v = lse lv i v
  | [], 0, v => rfl
  | [], j + 1, v => by simp [lsn, lse, lun]
  | w :: r, 0, v => by simp [lsn, lse, lun]
  | w :: r, 1, v => by
    have h0 := lsn_eq r 0 v
    simp only [lse, lun] at h0
    simp only [lsn, h0, lse, lun, List.getElem?_cons_zero]
    split <;> simp_all
  | w :: r, i + 2, v => by
    have h0 := lsn_eq r (i + 1) v
    simp only [lse, lun] at h0
    simp only [lsn, h0, lse, lun, List.getElem?_cons_succ]
    split
    · split <;> simp
    · simp
def lse2 (lv : List Value) (i : Nat) (v : Value) : List Value := ((lun lv i).set (i + 1) .null).set i v
def ldI (lv : List Value) (i : Nat) (k : Int32 → Prop) : Prop := match lv[i]? with
  | some (.int x) => k x
  | _ => False
def ldL (lv : List Value) (i : Nat) (k : Int64 → Prop) : Prop := match lv[i]? with
  | some (.long x) => k x
  | _ => False
def ldR (lv : List Value) (i : Nat) (k : Nat → Prop) : Prop := match lv[i]? with
  | some (.ref x) => k x
  | _ => False
def stI (lv st : List Value) (i : Nat) (k : List Value → List Value → Prop) : Prop := match st with
  | .int x :: r => if i < lv.length then k (lsn lv i (.int x)) r else False
  | _ => False
def stR (lv st : List Value) (i : Nat) (k : List Value → List Value → Prop) : Prop := match st with
  | .ref x :: r => if i < lv.length then k (lsn lv i (.ref x)) r else False
  | _ => False
def stL (lv st : List Value) (i : Nat) (k : List Value → List Value → Prop) : Prop := match st with
  | .long x :: r => if i + 1 < lv.length then k (lse2 lv i (.long x)) r else False
  | _ => False
theorem ldI_e {lv : List Value} {i : Nat} {k : Int32 → Prop} (h : ldI lv i k) : ∃ x, lv[i]? = some (.int x) ∧ k x := by
  unfold ldI at h
  split at h
  · rename_i x hx; exact ⟨x, hx, h⟩
  · exact h.elim
theorem ldL_e {lv : List Value} {i : Nat} {k : Int64 → Prop} (h : ldL lv i k) : ∃ x, lv[i]? = some (.long x) ∧ k x := by
  unfold ldL at h
  split at h
  · rename_i x hx; exact ⟨x, hx, h⟩
  · exact h.elim
theorem ldR_e {lv : List Value} {i : Nat} {k : Nat → Prop} (h : ldR lv i k) : ∃ x, lv[i]? = some (.ref x) ∧ k x := by
  unfold ldR at h
  split at h
  · rename_i x hx; exact ⟨x, hx, h⟩
  · exact h.elim
theorem stI_e {lv st : List Value} {i : Nat} {k : List Value → List Value → Prop} (h : stI lv st i k) : ∃ x r, st = .int x :: r ∧ i < lv.length ∧ k (lse lv i (.int x)) r := by
  unfold stI at h
  split at h
  · split at h
    · rw [lsn_eq] at h
      exact ⟨_, _, rfl, by assumption, h⟩
    · exact h.elim
  · exact h.elim
theorem stR_e {lv st : List Value} {i : Nat} {k : List Value → List Value → Prop} (h : stR lv st i k) : ∃ x r, st = .ref x :: r ∧ i < lv.length ∧ k (lse lv i (.ref x)) r := by
  unfold stR at h
  split at h
  · split at h
    · rw [lsn_eq] at h
      exact ⟨_, _, rfl, by assumption, h⟩
    · exact h.elim
  · exact h.elim
theorem stL_e {lv st : List Value} {i : Nat} {k : List Value → List Value → Prop} (h : stL lv st i k) : ∃ x r, st = .long x :: r ∧ i + 1 < lv.length ∧ k (lse2 lv i (.long x)) r := by
  unfold stL at h
  split at h
  · split at h
    · exact ⟨_, _, rfl, by assumption, h⟩
    · exact h.elim
  · exact h.elim
/-- the locals of the machine hold what lv says -/
def LL (ad : Nat → Nat) (nL : Nat) (lv : List Value) (ls : Array Slot) : Prop := lv.length = nL ∧ ls.size = nL ∧ lv_wf ls ∧ ∀ (i : Nat) (v : Value), lv[i]? = some v → v ≠ .null → ls[i]? = some (.val (cv ad v))
def lp (ad : Nat → Nat) (lv : List Value) : List (Nat × Value) := (List.range lv.length).filterMap fun i => match lv[i]? with
  | some v => if v = .null then none else some (i, cv ad v)
  | none => none
theorem lp_of {ad : Nat → Nat} {lv : List Value} {q : Nat × Value} (h : q ∈ lp ad lv) : ∃ v, lv[q.1]? = some v ∧ v ≠ .null ∧ q.2 = cv ad v := by
  obtain ⟨i, -, hi⟩ := List.mem_filterMap.mp h
  cases hv : lv[i]? with
  | none => rw [hv] at hi; cases hi
  | some v =>
    rw [hv] at hi
    by_cases hn : v = .null
    · simp [hn] at hi
    · simp only [hn, if_false] at hi
      cases hi
      exact ⟨v, hv, hn, rfl⟩
theorem lp_in {ad : Nat → Nat} {lv : List Value} {i : Nat} {v : Value} (h : lv[i]? = some v) (hn : v ≠ .null) : (i, cv ad v) ∈ lp ad lv := by
  refine List.mem_filterMap.mpr ⟨i, List.mem_range.mpr (List.getElem?_eq_some_iff.mp h).1, ?_⟩
  rw [h]
  simp [hn]
theorem LL.has {ad : Nat → Nat} {nL : Nat} {lv : List Value} {ls : Array Slot} (h : LL ad nL lv ls) : lv_has ls nL (lp ad lv) := by
  refine ⟨h.2.1, h.2.2.1, fun q hq => ?_⟩
  obtain ⟨v, h1, h2, h3⟩ := lp_of hq
  rw [h3]
  exact h.2.2.2 q.1 v h1 h2
theorem LL.at {ad : Nat → Nat} {nL : Nat} {lv : List Value} {ls : Array Slot} (h : LL ad nL lv ls) {i : Nat} {v : Value} (hv : lv[i]? = some v) (hn : v ≠ .null) : ls[i]? = some (.val (cv ad v)) := h.2.2.2 i v hv hn
theorem lun_len (lv : List Value) (i : Nat) : (lun lv i).length = lv.length := by
  cases i with
  | zero => rfl
  | succ j =>
    simp only [lun]
    split
    · split <;> simp
    · rfl
theorem lun_at {lv : List Value} {i k : Nat} {w : Value} (h : (lun lv i)[k]? = some w) (hn : w ≠ .null) : lv[k]? = some w ∧ (k + 1 = i → w.category ≠ 2) := by
  cases i with
  | zero => exact ⟨h, fun q => by omega⟩
  | succ j =>
    simp only [lun] at h
    cases hv : lv[j]? with
    | none =>
      rw [hv] at h
      refine ⟨h, fun q => ?_⟩
      have : k = j := by omega
      subst this
      rw [hv] at h
      cases h
    | some v =>
      rw [hv] at h
      dsimp only at h
      by_cases hc : v.category = 2
      · rw [if_pos hc, List.getElem?_set] at h
        by_cases hj : j = k
        · rw [if_pos hj] at h
          split at h
          · cases h; exact absurd rfl hn
          · cases h
        · rw [if_neg hj] at h
          exact ⟨h, fun q => absurd (by omega) hj⟩
      · rw [if_neg hc] at h
        refine ⟨h, fun q => ?_⟩
        have : k = j := by omega
        subst this
        rw [hv] at h
        cases h
        exact hc
theorem LL.st1 {ad : Nat → Nat} {nL : Nat} {lv : List Value} {ls ls' : Array Slot} {i : Nat} {v : Value} (h : LL ad nL lv ls) (h' : lv_has ls' nL ((i, cv ad v) :: (lp ad lv).filter (fun q => !(q.1 == i) && !(q.1 + 1 == i && q.2.category == 2)))) : LL ad nL (lse lv i v) ls' := by
  refine ⟨by rw [lse, List.length_set, lun_len]; exact h.1, h'.1, h'.2.1, fun k w hk hn => ?_⟩
  rw [lse, List.getElem?_set] at hk
  by_cases hik : i = k
  · rw [if_pos hik] at hk
    split at hk
    · cases hk
      subst hik
      exact h'.2.2 _ List.mem_cons_self
    · cases hk
  · rw [if_neg hik] at hk
    obtain ⟨h1, h2⟩ := lun_at hk hn
    refine h'.2.2 (k, cv ad w) (List.mem_cons_of_mem _ (List.mem_filter.mpr ⟨lp_in h1 hn, ?_⟩))
    simp only [Bool.and_eq_true, Bool.not_eq_true', beq_eq_false_iff_ne, ne_eq, Bool.and_eq_false_iff, cv_cat]
    refine ⟨fun q => hik q.symm, ?_⟩
    by_cases hk1 : k + 1 = i
    · exact Or.inr (h2 hk1)
    · exact Or.inl hk1
theorem LL.st2 {ad : Nat → Nat} {nL : Nat} {lv : List Value} {ls ls' : Array Slot} {i : Nat} {v : Value} (h : LL ad nL lv ls) (h' : lv_has ls' nL ((i, cv ad v) :: (lp ad lv).filter (fun q => !(q.1 == i) && (!(q.1 == i + 1) && !(q.1 + 1 == i && q.2.category == 2))))) : LL ad nL (lse2 lv i v) ls' := by
  refine ⟨by rw [lse2, List.length_set, List.length_set, lun_len]; exact h.1, h'.1, h'.2.1, fun k w hk hn => ?_⟩
  rw [lse2, List.getElem?_set] at hk
  by_cases hik : i = k
  · rw [if_pos hik] at hk
    split at hk
    · cases hk
      subst hik
      exact h'.2.2 _ List.mem_cons_self
    · cases hk
  · rw [if_neg hik, List.getElem?_set] at hk
    by_cases hi1 : i + 1 = k
    · rw [if_pos hi1] at hk
      split at hk
      · cases hk; exact absurd rfl hn
      · cases hk
    · rw [if_neg hi1] at hk
      obtain ⟨h1, h2⟩ := lun_at hk hn
      refine h'.2.2 (k, cv ad w) (List.mem_cons_of_mem _ (List.mem_filter.mpr ⟨lp_in h1 hn, ?_⟩))
      simp only [Bool.and_eq_true, Bool.not_eq_true', beq_eq_false_iff_ne, ne_eq, Bool.and_eq_false_iff, cv_cat]
      refine ⟨fun q => hik q.symm, fun q => hi1 q.symm, ?_⟩
      by_cases hk1 : k + 1 = i
      · exact Or.inr (h2 hk1)
      · exact Or.inl hk1
