/-! ONE STEP of the abstract machine, and why it is sound. An item: pc, instruction, length, number, target, pairs of a switch. -/
def rcv (k ci : Nat) : Bool := match shape[k]? with
  | some (.inr o) => o.1 == ci
  | _ => false
/-- there is room for the callee -/
def rom (mi : MI) (d : Nat × Nat) : Bool := Nat.ble (mi.2.2.2.2.1 + 1) d.1 && Nat.ble (8 + (mi.2.2.1 + 11) + mi.2.2.2.2.2) d.2
def gtf (σ : Sg) (k ci j : Nat) (y : Value → Prop) : Prop := match shape[k]? with
  | some (.inr o) => if o.1 = ci then (match o.2[j]? with
    | some (some k2) => y (.ref k2)
    | some none => y (.int (σ k j))
    | none => False) else False
  | _ => False
def ptf (k ci j : Nat) (y : Prop) : Prop := match shape[k]? with
  | some (.inr o) => if o.1 = ci then (match o.2[j]? with
    | some none => y
    | _ => False) else False
  | _ => False
def arr (k : Nat) (y : Nat → Prop) : Prop := match shape[k]? with
  | some (.inl n) => y n
  | _ => False
theorem rcv_e {k ci : Nat} (h : rcv k ci = true) : ∃ fs, shape[k]? = some (.inr (ci, fs)) := by
  unfold rcv at h
  split at h
  · rename_i o ho
    obtain ⟨c, fs⟩ := o
    have : c = ci := by simpa using h
    subst this
    exact ⟨fs, ho⟩
  · cases h
theorem gtf_e {σ : Sg} {k ci j : Nat} {y : Value → Prop} (h : gtf σ k ci j y) : ∃ fs o, shape[k]? = some (.inr (ci, fs)) ∧ fs[j]? = some o ∧ y (match o with | some k2 => .ref k2 | none => .int (σ k j)) := by
  unfold gtf at h
  split at h
  · rename_i o ho
    obtain ⟨c, fs⟩ := o
    dsimp only at h
    split at h
    · rename_i hc
      subst hc
      split at h
      · rename_i k2 hj; exact ⟨fs, _, ho, hj, h⟩
      · rename_i hj; exact ⟨fs, _, ho, hj, h⟩
      · exact h.elim
    · exact h.elim
  · exact h.elim
theorem ptf_e {k ci j : Nat} {y : Prop} (h : ptf k ci j y) : ∃ fs, shape[k]? = some (.inr (ci, fs)) ∧ fs[j]? = some none ∧ y := by
  unfold ptf at h
  split at h
  · rename_i o ho
    obtain ⟨c, fs⟩ := o
    dsimp only at h
    split at h
    · rename_i hc
      subst hc
      split at h
      · rename_i hj; exact ⟨fs, ho, hj, h⟩
      · exact h.elim
    · exact h.elim
  · exact h.elim
theorem arr_e {k : Nat} {y : Nat → Prop} (h : arr k y) : ∃ n, shape[k]? = some (.inl n) ∧ y n := by
  unfold arr at h
  split at h
  · rename_i n hn; exact ⟨n, hn, h⟩
  · exact h.elim
def pp (st : List Value) (y : Value → List Value → Prop) : Prop := match st with
  | v :: r => if v.category = 1 then y v r else False
  | _ => False
theorem pp_e {st : List Value} {y : Value → List Value → Prop} (h : pp st y) : ∃ v r, st = v :: r ∧ v.category = 1 ∧ y v r := by
  unfold pp at h
  split at h
  · split at h
    · exact ⟨_, _, rfl, by assumption, h⟩
    · exact h.elim
  · exact h.elim
def sm8 (r : List Value) (y : Prop) : Prop := if (r.map fun v => v.category).sum ≤ 8 then y else False
theorem sm8_e {r : List Value} {y : Prop} (h : sm8 r y) : (r.map fun v => v.category).sum ≤ 8 ∧ y := by
  unfold sm8 at h
  split at h
  · exact ⟨by assumption, h⟩
  · exact h.elim
def nilP (r : List Value) (y : Prop) : Prop := match r with
  | [] => y
  | _ => False
def riP (ret : Option FieldType) (v : Int32) (y : Prop) : Prop := match ret with
  | some .int => y
  | some .boolean => (v = 0 ∨ v = 1) ∧ y
  | _ => False
def rvP (ret : Option FieldType) (y : Prop) : Prop := match ret with
  | none => y
  | _ => False
theorem nilP_e {r : List Value} {y : Prop} (h : nilP r y) : r = [] ∧ y := by
  unfold nilP at h
  split at h
  · exact ⟨rfl, h⟩
  · exact h.elim
theorem riP_e {ret : Option FieldType} {v : Int32} {y : Prop} (h : riP ret v y) : (ret = some .int ∨ (ret = some .boolean ∧ (v = 0 ∨ v = 1))) ∧ y := by
  unfold riP at h
  split at h
  · exact ⟨Or.inl rfl, h⟩
  · exact ⟨Or.inr ⟨rfl, h.1⟩, h.2⟩
  · exact h.elim
theorem rvP_e {ret : Option FieldType} {y : Prop} (h : rvP ret y) : ret = none ∧ y := by
  unfold rvP at h
  split at h
  · exact ⟨rfl, h⟩
  · exact h.elim
def lku {α : Type} (l : List (Nat × α)) (k : Nat) (y : α → Prop) : Prop := match l.lookup k with
  | some a => y a
  | none => False
theorem lku_e {α : Type} {l : List (Nat × α)} {k : Nat} {y : α → Prop} (h : lku l k y) : ∃ a, (k, a) ∈ l ∧ y a := by
  unfold lku at h
  split at h
  · rename_i a ha
    refine ⟨a, ?_, h⟩
    clear h
    induction l with
    | nil => cases ha
    | cons q l ih =>
      obtain ⟨k2, b⟩ := q
      rw [List.lookup_cons] at ha
      by_cases hk : k == k2
      · simp only [hk] at ha
        cases ha
        have : k = k2 := by simpa using hk
        subst this
        exact List.mem_cons_self
      · simp only [hk] at ha
        exact List.mem_cons_of_mem _ (ih ha)
  · exact h.elim
/-- a new state gets a name -/
def SG (s : Sg) (k : Sg → Prop) : Prop := k s
def pF (pt : PT) : List (Nat × Nat × Nat × Nat) := pt.2.1
def pV (pt : PT) : List (Nat × MI × Nat × Nat) := pt.2.2.1
def pS (pt : PT) : List (Nat × MI × Nat) := pt.2.2.2.1
def pI (pt : PT) : List (Nat × Int32) := pt.2.2.2.2.1
def pL (pt : PT) : List (Nat × Int64) := pt.2.2.2.2.2
def stp (l : Launch) (ad : Nat → Nat) (D : va_G) (cI : ClassId) (pt : PT) (ret : Option FieldType) (d : Nat × Nat) (X : Nat → List Value → List Value → Sg → Prop) (K : Option Value → Sg → Prop) (it : IT) (Y : List Value → List Value → Sg → Prop) (lv st : List Value) (σ : Sg) : Prop :=
  match it.2.1 with
  | .iconst _ => Y lv (.int it.2.2.2.1 :: st) σ
  | .bipush _ => Y lv (.int it.2.2.2.1 :: st) σ
  | .sipush _ => Y lv (.int it.2.2.2.1 :: st) σ
  | .ldc _ => Y lv (.int it.2.2.2.1 :: st) σ
  | .ldc_w _ => Y lv (.int it.2.2.2.1 :: st) σ
  | .lconst n => Y lv (.long (Int64.ofNat (n : Nat)) :: st) σ
  | .ldc2_w k => lku (pL pt) k fun x => Y lv (.long x :: st) σ
  | .iload_n k => ldI lv k fun x => Y lv (.int x :: st) σ
  | .iload k => ldI lv k fun x => Y lv (.int x :: st) σ
  | .lload_n k => ldL lv k fun x => Y lv (.long x :: st) σ
  | .lload k => ldL lv k fun x => Y lv (.long x :: st) σ
  | .aload_n k => ldR lv k fun x => Y lv (.ref x :: st) σ
  | .aload k => ldR lv k fun x => Y lv (.ref x :: st) σ
  | .istore_n k => stI lv st k fun lv r => Y lv r σ
  | .istore k => stI lv st k fun lv r => Y lv r σ
  | .lstore_n k => stL lv st k fun lv r => Y lv r σ
  | .lstore k => stL lv st k fun lv r => Y lv r σ
  | .astore_n k => stR lv st k fun lv r => Y lv r σ
  | .astore k => stR lv st k fun lv r => Y lv r σ
  | .iinc k _ => ldI lv k fun x => Y (lsn lv k (.int (x + it.2.2.2.1))) st σ
  | .iadd => qII st fun a b r => Y lv (.int (a + b) :: r) σ
  | .isub => qII st fun a b r => Y lv (.int (a - b) :: r) σ
  | .imul => qII st fun a b r => Y lv (.int (a * b) :: r) σ
  | .iand => qII st fun a b r => Y lv (.int (a &&& b) :: r) σ
  | .ior => qII st fun a b r => Y lv (.int (a ||| b) :: r) σ
  | .ixor => qII st fun a b r => Y lv (.int (a ^^^ b) :: r) σ
  | .ishl => qII st fun a b r => Y lv (.int (a <<< (b &&& 31)) :: r) σ
  | .ishr => qII st fun a b r => Y lv (.int (a >>> (b &&& 31)) :: r) σ
  | .iushr => qII st fun a b r => Y lv (.int ((a.toUInt32 >>> (b.toUInt32 &&& Int32.toUInt32 31)).toInt32) :: r) σ
  | .idiv => qII st fun a b r => ¬ b = 0 ∧ Y lv (.int (a / b) :: r) σ
  | .ineg => qI st fun a r => Y lv (.int (-a) :: r) σ
  | .ladd => qLL st fun a b r => Y lv (.long (a + b) :: r) σ
  | .lsub => qLL st fun a b r => Y lv (.long (a - b) :: r) σ
  | .lmul => qLL st fun a b r => Y lv (.long (a * b) :: r) σ
  | .land => qLL st fun a b r => Y lv (.long (a &&& b) :: r) σ
  | .lor => qLL st fun a b r => Y lv (.long (a ||| b) :: r) σ
  | .ldiv => qLL st fun a b r => ¬ b = 0 ∧ Y lv (.long (a / b) :: r) σ
  | .lrem => qLL st fun a b r => ¬ b = 0 ∧ Y lv (.long (a - a / b * b) :: r) σ
  | .lshl => qLI st fun a b r => Y lv (.long (a <<< (b.toInt64 &&& 63)) :: r) σ
  | .lshr => qLI st fun a b r => Y lv (.long (a >>> (b.toInt64 &&& 63)) :: r) σ
  | .lcmp => qLL st fun a b r => Y lv (.int (lg_cmp a b) :: r) σ
  | .i2l => qI st fun a r => Y lv (.long a.toInt64 :: r) σ
  | .l2i => qL st fun a r => Y lv (.int a.toInt32 :: r) σ
  | .i2b => qI st fun a r => Y lv (.int a.toInt8.toInt32 :: r) σ
  | .dup => pp st fun v r => Y lv (v :: v :: r) σ
  | .pop => pp st fun _ r => Y lv r σ
  | .dup_x1 => pp st fun v r => pp r fun w r => Y lv (v :: w :: v :: r) σ
  | .dup_x2 => pp st fun v r => pp r fun w r => pp r fun u r => Y lv (v :: w :: u :: v :: r) σ
  | .dup2 => pp st fun v r => pp r fun w r => Y lv (v :: w :: v :: w :: r) σ
  | .goto _ => X it.2.2.2.2.1 lv st σ
  | .ifCond .eq _ => qI st fun x r => (x = 0 → X it.2.2.2.2.1 lv r σ) ∧ (¬ x = 0 → Y lv r σ)
  | .ifCond .ne _ => qI st fun x r => (x = 0 → Y lv r σ) ∧ (¬ x = 0 → X it.2.2.2.2.1 lv r σ)
  | .ifCond .lt _ => qI st fun x r => (x < 0 → X it.2.2.2.2.1 lv r σ) ∧ (¬ x < 0 → Y lv r σ)
  | .ifCond .ge _ => qI st fun x r => (0 ≤ x → X it.2.2.2.2.1 lv r σ) ∧ (¬ 0 ≤ x → Y lv r σ)
  | .ifCond .gt _ => qI st fun x r => (0 < x → X it.2.2.2.2.1 lv r σ) ∧ (¬ 0 < x → Y lv r σ)
  | .ifCond .le _ => qI st fun x r => (x ≤ 0 → X it.2.2.2.2.1 lv r σ) ∧ (¬ x ≤ 0 → Y lv r σ)
  | .if_icmp .eq _ => qII st fun x y r => (x = y → X it.2.2.2.2.1 lv r σ) ∧ (¬ x = y → Y lv r σ)
  | .if_icmp .ne _ => qII st fun x y r => (x = y → Y lv r σ) ∧ (¬ x = y → X it.2.2.2.2.1 lv r σ)
  | .if_icmp .lt _ => qII st fun x y r => (x < y → X it.2.2.2.2.1 lv r σ) ∧ (¬ x < y → Y lv r σ)
  | .if_icmp .ge _ => qII st fun x y r => (y ≤ x → X it.2.2.2.2.1 lv r σ) ∧ (¬ y ≤ x → Y lv r σ)
  | .if_icmp .gt _ => qII st fun x y r => (y < x → X it.2.2.2.2.1 lv r σ) ∧ (¬ y < x → Y lv r σ)
  | .if_icmp .le _ => qII st fun x y r => (x ≤ y → X it.2.2.2.2.1 lv r σ) ∧ (¬ x ≤ y → Y lv r σ)
  | .tableswitch _ _ _ _ => qI st fun x r => swP (fun t => X t lv r σ) x it.2.2.2.2.1 it.2.2.2.2.2
  | .lookupswitch _ _ => qI st fun x r => swP (fun t => X t lv r σ) x it.2.2.2.2.1 it.2.2.2.2.2
  | .getfield k => lku (pF pt) k fun q => qR st fun o r => gtf σ o q.1 q.2.1 fun v => Y lv (v :: r) σ
  | .putfield k => lku (pF pt) k fun q => qIR st fun v o r => ptf o q.1 q.2.1 (match q.2.2 with
    | 1 => True ∧ SG (up2 σ o q.2.1 v) (Y lv r)
    | 2 => (v = 0 ∨ v = 1) ∧ SG (up2 σ o q.2.1 v) (Y lv r)
    | _ => False)
  | .iaload => qIR st fun i o r => arr o fun n => vp_in i n ∧ Y lv (.int (σ o i.toNatClampNeg) :: r) σ
  | .iastore => qIIR st fun v i o r => arr o fun n => vp_in i n ∧ SG (up2 σ o i.toNatClampNeg v) (Y lv r)
  | .arraylength => qR st fun o r => arr o fun n => Y lv (.int (Int32.ofNat n) :: r) σ
  | .invokevirtual k => lku (pV pt) k fun q => qR (st.drop q.2.1) fun o r => if (rcv o q.2.2 && rom q.1 d) = true then sm8 r (MetJ l ad D cI q.1 (.ref o :: (st.take q.2.1).reverse) σ fun rv σ' => Y lv (rv.toList ++ r) σ') else False
  | .invokestatic k => lku (pS pt) k fun q => if (Nat.ble q.2 st.length && rom q.1 d) = true then sm8 (st.drop q.2) (MetJ l ad D cI q.1 (st.take q.2).reverse σ fun rv σ' => Y lv (rv.toList ++ st.drop q.2) σ') else False
  | .ireturn => qI st fun v r => nilP r (riP ret v (K (some (.int v)) σ))
  | .return_ => nilP st (rvP ret (K none σ))
  | _ => False
/-! the check of an item against the bytes -/
def ilen : Instr → Nat
  | .bipush _ => 2
  | .iload _ => 2
  | .istore _ => 2
  | .aload _ => 2
  | .astore _ => 2
  | .lload _ => 2
  | .lstore _ => 2
  | .ldc _ => 2
  | .sipush _ => 3
  | .goto _ => 3
  | .ifCond _ _ => 3
  | .if_icmp _ _ => 3
  | .getfield _ => 3
  | .putfield _ => 3
  | .invokevirtual _ => 3
  | .invokestatic _ => 3
  | .iinc _ _ => 3
  | .ldc2_w _ => 3
  | .ldc_w _ => 3
  | _ => 1
def swl (pc : Nat) : List (Int × Int) → List (Int32 × Nat) → Bool
  | [], [] => true
  | a :: r, k :: r' => decide (k.1.toInt = a.1) && (decide ((pc : Int) + a.2 = (k.2 : Int)) && swl pc r r')
  | _, _ => false
def swt (pc : Nat) : Int → List Int → List (Int32 × Nat) → Bool
  | _, [], [] => true
  | lo, a :: r, k :: r' => decide (k.1.toInt = lo) && (decide ((pc : Int) + a = (k.2 : Int)) && swt pc (lo + 1) r r')
  | _, _, _ => false
def itA (pt : PT) (it : IT) : Bool := match it.2.1 with
  | .iconst k => decide (it.2.2.1 = 1) && decide (Int32.ofInt k = it.2.2.2.1)
  | .bipush k => decide (it.2.2.1 = 2) && decide ((Int8.ofInt k).toInt32 = it.2.2.2.1)
  | .sipush k => decide (it.2.2.1 = 3) && decide ((Int16.ofInt k).toInt32 = it.2.2.2.1)
  | .ldc k => decide (it.2.2.1 = 2) && decide ((k, it.2.2.2.1) ∈ pI pt)
  | .ldc_w k => decide (it.2.2.1 = 3) && decide ((k, it.2.2.2.1) ∈ pI pt)
  | .iinc _ k => decide (it.2.2.1 = 3) && decide (Int32.ofInt k = it.2.2.2.1)
  | .goto o => decide (it.2.2.1 = 3) && decide ((it.1 : Int) + o = (it.2.2.2.2.1 : Int))
  | .ifCond _ o => decide (it.2.2.1 = 3) && decide ((it.1 : Int) + o = (it.2.2.2.2.1 : Int))
  | .if_icmp _ o => decide (it.2.2.1 = 3) && decide ((it.1 : Int) + o = (it.2.2.2.2.1 : Int))
  | .lookupswitch df pr => (pr.toList.zip (pr.toList.drop 1)).all (fun (a, next) => a.1 < next.1) && (swl it.1 pr.toList it.2.2.2.2.2 && decide ((it.1 : Int) + df = (it.2.2.2.2.1 : Int)))
  | .tableswitch df lo hi os => decide (lo + (os.size : Int) = hi + 1) && (swt it.1 lo os.toList it.2.2.2.2.2 && decide ((it.1 : Int) + df = (it.2.2.2.2.1 : Int)))
  | i => decide (it.2.2.1 = ilen i)
def itOK (cc : ByteArray) (pt : PT) (nx : Nat) (it : IT) : Bool := decide (decode cc it.1 = .ok (it.2.1, it.2.2.1)) && (decide (it.1 + it.2.2.1 = nx) && itA pt it)
def hdp (is : List IT) (en : Nat) : Nat := match is with
  | [] => en
  | it :: _ => it.1
def blkOK (cc : ByteArray) (pt : PT) (en : Nat) : List IT → Bool
  | [] => true
  | it :: is => itOK cc pt (hdp is en) it && blkOK cc pt en is
theorem swl_ok {P : Nat → Prop} {pc : Nat} {x : Int32} {df : Nat} {dflt : Int} (hd : (pc : Int) + dflt = (df : Int)) : ∀ (pr : List (Int × Int)) (ps : List (Int32 × Nat)), swl pc pr ps = true → swP P x df ps → ∃ t : Nat, (pc : Int) + Op.lookupswitch.offset pr dflt x.toInt = (t : Int) ∧ P t
  | [], [], _, h => ⟨df, by rw [Op.lookupswitch.offset_nil]; exact hd, h⟩
  | a :: r, k :: r', h, hp => by
    simp only [swl, Bool.and_eq_true, decide_eq_true_eq] at h
    obtain ⟨h1, h2, h3⟩ := h
    obtain ⟨a1, a2⟩ := a
    by_cases hx : x = k.1
    · refine ⟨k.2, ?_, hp.1 hx⟩
      rw [Op.lookupswitch.offset_cons, if_pos (by rw [hx]; first | exact h1.symm | exact h1)]
      exact h2
    · obtain ⟨t, e, q⟩ := swl_ok hd r r' h3 (hp.2 hx)
      exact ⟨t, by rw [lv_osw hx h1]; exact e, q⟩
  | [], _ :: _, h, _ => by simp [swl] at h
  | _ :: _, [], h, _ => by simp [swl] at h
theorem swt_ok {P : Nat → Prop} {pc : Nat} {x : Int32} {df : Nat} : ∀ (lo : Int) (os : List Int) (ps : List (Int32 × Nat)), swt pc lo os ps = true → swP P x df ps → ∃ t : Nat, P t ∧ ((t = df ∧ (x.toInt < lo ∨ lo + (os.length : Int) ≤ x.toInt)) ∨ (∃ off, ¬ x.toInt < lo ∧ x.toInt < lo + (os.length : Int) ∧ os[(x.toInt - lo).toNat]? = some off ∧ (pc : Int) + off = (t : Int)))
  | lo, [], [], _, h => ⟨df, h, Or.inl ⟨rfl, by simp; omega⟩⟩
  | lo, a :: r, k :: r', h, hp => by
    simp only [swt, Bool.and_eq_true, decide_eq_true_eq] at h
    obtain ⟨h1, h2, h3⟩ := h
    by_cases hx : x = k.1
    · refine ⟨k.2, hp.1 hx, Or.inr ⟨a, ?_, ?_, ?_, h2⟩⟩
      · rw [hx, h1]; omega
      · rw [hx, h1]; simp; omega
      · rw [hx, h1, show lo - lo = 0 by omega]; rfl
    · obtain ⟨t, hP, q⟩ := swt_ok (lo + 1) r r' h3 (hp.2 hx)
      have hne : ¬ x.toInt = lo := lv_neT hx h1
      refine ⟨t, hP, ?_⟩
      rcases q with ⟨e, q⟩ | ⟨off, q1, q2, q3, q4⟩
      · refine Or.inl ⟨e, ?_⟩
        simp only [List.length_cons]
        omega
      · refine Or.inr ⟨off, by omega, by simp only [List.length_cons]; omega, ?_, q4⟩
        rw [show (x.toInt - lo).toNat = (x.toInt - (lo + 1)).toNat + 1 by omega, List.getElem?_cons_succ]
        exact q3
  | _, [], _ :: _, h, _ => by simp [swt] at h
  | _, _ :: _, [], h, _ => by simp [swt] at h
