/-! THE RELATION between the class's cells of c and the twin's cells of t -/
theorem up2_get {σ : Sg} {a b x y : Nat} {v : Int32} (h : ¬ (x = a ∧ y = b)) : up2 σ a b v x y = σ x y := by
  by_cases hx : x = a
  · subst hx
    rw [up2_same, upd, if_neg (fun e => h ⟨rfl, e⟩)]
  · rw [up2_ne _ _ _ hx]
theorem up2_put {σ : Sg} {a b : Nat} {v : Int32} : up2 σ a b v a b = v := by rw [up2_same, upd, if_pos rfl]
def rng (k : Nat) (v : Int32) : Prop := match k with
  | 1 => v = 0 ∨ v = 1
  | 2 => 0 ≤ v.toInt ∧ v.toInt < 256
  | 3 => 0 ≤ v.toInt ∧ v.toInt < 65536
  | 4 => v &&& 3777 = v
  | 5 => 0 ≤ v.toInt ∧ v.toInt ≤ 1024
  | 6 => 0 ≤ v.toInt ∧ v.toInt < 4
  | _ => True
/-- place in the class, place in the twin, kind -/
def PM : List ((Nat × Nat) × (Nat × Nat) × Nat) := [((3, 2), (15, 3), 3), ((6, 0), (15, 4), 4), ((12, 6), (15, 5), 1), ((12, 8), (15, 6), 1), ((12, 7), (15, 7), 0), ((0, 8), (15, 8), 5), ((7, 0), (15, 17), 2), ((7, 1), (15, 18), 2), ((7, 2), (15, 19), 2), ((7, 3), (15, 20), 1), ((8, 3), (15, 24), 2), ((8, 4), (15, 25), 1), ((8, 5), (15, 26), 3), ((8, 6), (15, 27), 1), ((11, 2), (15, 30), 2), ((11, 3), (15, 31), 3), ((11, 4), (15, 32), 6), ((11, 5), (15, 34), 1), ((11, 6), (15, 35), 1), ((11, 7), (15, 33), 1)]
def AP (c t : Sg) : Prop := ∀ q ∈ PM, c q.1.1 q.1.2 = t q.2.1.1 q.2.1.2 ∧ rng q.2.2 (t q.2.1.1 q.2.1.2)
def AR (c t : Sg) : Prop := (∀ i, c 2 i = t 16 i ∧ rng 2 (t 16 i)) ∧ (∀ i, c 4 i = t 17 i ∧ rng 3 (t 17 i)) ∧ (∀ i, c 5 i = t 18 i ∧ rng 3 (t 18 i))
def TM (c t : Sg) : Prop := c 8 2 = t 15 22 ∧ ((t 15 21 = 0 ∧ c 8 1 = 0) ∨ (t 15 21 = 1 ∧ c 8 1 = t 15 23 ∧ (1 ≤ (t 15 23).toInt ∧ (t 15 23).toInt ≤ 65536) ∧ (1 ≤ (t 15 22).toInt ∧ (t 15 22).toInt ≤ 65536)))
def KB (c t : Sg) : Prop := c 9 2 = t 15 28 ∧ ∃ n : Nat, n ≤ 4 ∧ t 15 28 = nI n ∧ ∀ k, k < n → c 10 k = t 19 k ∧ rng 2 (t 19 k)
def RR (c t : Sg) : Prop := AP c t ∧ AR c t ∧ TM c t ∧ KB c t
def Rel (s : Sg) : Prop := RR s s
theorem PM_inj : (PM.all fun p => PM.all fun q => decide (p = q) || (decide (p.1 ≠ q.1) && decide (p.2.1 ≠ q.2.1))) = true := by decide +kernel
theorem PM_far : (PM.all fun p => (decide (p.1.1 ≠ 2) && (decide (p.1.1 ≠ 4) && (decide (p.1.1 ≠ 5) && (decide (p.1 ≠ (8, 1)) && (decide (p.1 ≠ (8, 2)) && (decide (p.1 ≠ (9, 2)) && decide (p.1.1 ≠ 10))))))) && (decide (p.2.1.1 = 15) && (decide (p.2.1 ≠ (15, 21)) && (decide (p.2.1 ≠ (15, 22)) && (decide (p.2.1 ≠ (15, 23)) && decide (p.2.1 ≠ (15, 28))))))) = true := by decide +kernel
theorem far {p : (Nat × Nat) × (Nat × Nat) × Nat} (h : p ∈ PM) : (p.1.1 ≠ 2 ∧ p.1.1 ≠ 4 ∧ p.1.1 ≠ 5 ∧ p.1 ≠ (8, 1) ∧ p.1 ≠ (8, 2) ∧ p.1 ≠ (9, 2) ∧ p.1.1 ≠ 10) ∧ p.2.1.1 = 15 ∧ p.2.1 ≠ (15, 21) ∧ p.2.1 ≠ (15, 22) ∧ p.2.1 ≠ (15, 23) ∧ p.2.1 ≠ (15, 28) := by
  have := List.all_eq_true.mp PM_far p h
  simpa only [Bool.and_eq_true, decide_eq_true_eq] using this
theorem apart {p q : (Nat × Nat) × (Nat × Nat) × Nat} (hp : p ∈ PM) (hq : q ∈ PM) : p = q ∨ (p.1 ≠ q.1 ∧ p.2.1 ≠ q.2.1) := by
  have := List.all_eq_true.mp (List.all_eq_true.mp PM_inj p hp) q hq
  simpa only [Bool.or_eq_true, Bool.and_eq_true, decide_eq_true_eq] using this
theorem neP {a b x y : Nat} (h : (a, b) ≠ (x, y)) : ¬ (x = a ∧ y = b) := fun e => h (by rw [e.1, e.2])
theorem RR.get {c t : Sg} (h : RR c t) (n : Nat) {a b x y k : Nat} (hn : PM[n]? = some ((a, b), (x, y), k)) : c a b = t x y ∧ rng k (t x y) := h.1 _ (List.mem_of_getElem? hn)
/-- both write the same to a pair of places -/
theorem RR.up {c t : Sg} (h : RR c t) (n : Nat) {a b x y k : Nat} (hn : PM[n]? = some ((a, b), (x, y), k)) {v : Int32} (hv : rng k v) : RR (up2 c a b v) (up2 t x y v) := by
  have hm := List.mem_of_getElem? hn
  obtain ⟨⟨f1, f2, f3, f4, f5, f6, f7⟩, g1, g2, g3, g4, g5⟩ := far hm
  dsimp only at f1 f2 f3 f4 f5 f6 f7 g1 g2 g3 g4 g5
  subst g1
  refine ⟨fun q hq => ?_, ⟨fun i => ?_, fun i => ?_, fun i => ?_⟩, ?_, ?_⟩
  · rcases apart hm hq with e | ⟨e1, e2⟩
    · subst e
      rw [up2_put, up2_put]
      exact ⟨rfl, hv⟩
    · obtain ⟨⟨qa, qb⟩, ⟨qx, qy⟩, qk⟩ := q
      dsimp only at e1 e2 ⊢
      rw [up2_get (neP e1), up2_get (neP e2)]
      exact h.1 _ hq
  · rw [up2_ne _ _ _ (Ne.symm f1), up2_ne _ _ _ (by decide)]
    exact h.2.1.1 i
  · rw [up2_ne _ _ _ (Ne.symm f2), up2_ne _ _ _ (by decide)]
    exact h.2.1.2.1 i
  · rw [up2_ne _ _ _ (Ne.symm f3), up2_ne _ _ _ (by decide)]
    exact h.2.1.2.2 i
  · unfold TM
    rw [up2_get (neP f4), up2_get (neP f5), up2_get (neP g2), up2_get (neP g3), up2_get (neP g4)]
    exact h.2.2.1
  · unfold KB
    rw [up2_get (neP f6), up2_get (neP g5)]
    obtain ⟨k1, m, k2, k3, k4⟩ := h.2.2.2
    refine ⟨k1, m, k2, k3, fun j hj => ?_⟩
    rw [up2_ne _ _ _ (Ne.symm f7), up2_ne _ _ _ (by decide)]
    exact k4 j hj
/-- a write of the class's own, of the twin's own: nothing that the relation reads -/
def cOwn (a b : Nat) : Bool := (PM.all fun p => decide (p.1 ≠ (a, b))) && (decide (a ≠ 2) && (decide (a ≠ 4) && (decide (a ≠ 5) && (decide ((a, b) ≠ (8, 1)) && (decide ((a, b) ≠ (8, 2)) && (decide ((a, b) ≠ (9, 2)) && decide (a ≠ 10)))))))
def tOwn (a b : Nat) : Bool := (PM.all fun p => decide (p.2.1 ≠ (a, b))) && (decide (a ≠ 16) && (decide (a ≠ 17) && (decide (a ≠ 18) && (decide (a ≠ 19) && (decide ((a, b) ≠ (15, 21)) && (decide ((a, b) ≠ (15, 22)) && (decide ((a, b) ≠ (15, 23)) && decide ((a, b) ≠ (15, 28)))))))))
theorem RR.cs {c t : Sg} (h : RR c t) {a b : Nat} (ho : cOwn a b = true) (v : Int32) : RR (up2 c a b v) t := by
  simp only [cOwn, Bool.and_eq_true, decide_eq_true_eq] at ho
  obtain ⟨o1, f1, f2, f3, f4, f5, f6, f7⟩ := ho
  refine ⟨fun q hq => ?_, ⟨fun i => ?_, fun i => ?_, fun i => ?_⟩, ?_, ?_⟩
  · have e1 := of_decide_eq_true (List.all_eq_true.mp o1 q hq)
    obtain ⟨⟨qa, qb⟩, ⟨qx, qy⟩, qk⟩ := q
    dsimp only at e1 ⊢
    rw [up2_get (neP (Ne.symm e1))]
    exact h.1 _ hq
  · rw [up2_ne _ _ _ (Ne.symm f1)]; exact h.2.1.1 i
  · rw [up2_ne _ _ _ (Ne.symm f2)]; exact h.2.1.2.1 i
  · rw [up2_ne _ _ _ (Ne.symm f3)]; exact h.2.1.2.2 i
  · unfold TM
    rw [up2_get (neP f4), up2_get (neP f5)]
    exact h.2.2.1
  · unfold KB
    rw [up2_get (neP f6)]
    obtain ⟨k1, m, k2, k3, k4⟩ := h.2.2.2
    refine ⟨k1, m, k2, k3, fun j hj => ?_⟩
    rw [up2_ne _ _ _ (Ne.symm f7)]
    exact k4 j hj
theorem RR.ts {c t : Sg} (h : RR c t) {a b : Nat} (ho : tOwn a b = true) (v : Int32) : RR c (up2 t a b v) := by
  simp only [tOwn, Bool.and_eq_true, decide_eq_true_eq] at ho
  obtain ⟨o1, f1, f2, f3, f4, f5, f6, f7, f8⟩ := ho
  refine ⟨fun q hq => ?_, ⟨fun i => ?_, fun i => ?_, fun i => ?_⟩, ?_, ?_⟩
  · have e1 := of_decide_eq_true (List.all_eq_true.mp o1 q hq)
    obtain ⟨⟨qa, qb⟩, ⟨qx, qy⟩, qk⟩ := q
    dsimp only at e1 ⊢
    rw [up2_get (neP (Ne.symm e1))]
    exact h.1 _ hq
  · rw [up2_ne _ _ _ (Ne.symm f1)]; exact h.2.1.1 i
  · rw [up2_ne _ _ _ (Ne.symm f2)]; exact h.2.1.2.1 i
  · rw [up2_ne _ _ _ (Ne.symm f3)]; exact h.2.1.2.2 i
  · unfold TM
    rw [up2_get (neP f5), up2_get (neP f6), up2_get (neP f7)]
    exact h.2.2.1
  · unfold KB
    rw [up2_get (neP f8)]
    obtain ⟨k1, m, k2, k3, k4⟩ := h.2.2.2
    refine ⟨k1, m, k2, k3, fun j hj => ?_⟩
    rw [up2_ne _ _ _ (Ne.symm f4)]
    exact k4 j hj
theorem arr_up {f g : Nat → Int32} {k : Nat} (h : ∀ i, f i = g i ∧ rng k (g i)) (j : Nat) {v : Int32} (hv : rng k v) : ∀ i, upd f j v i = upd g j v i ∧ rng k (upd g j v i) := fun i => by
  by_cases e : i = j
  · subst e
    simp only [upd, if_true]
    exact ⟨trivial, hv⟩
  · simp only [upd, if_neg e]
    exact h i
theorem RR.arr {c t : Sg} (h : RR c t) {a x : Nat} (hax : (a = 2 ∧ x = 16) ∨ (a = 4 ∧ x = 17) ∨ (a = 5 ∧ x = 18)) (j : Nat) {v : Int32} (hv : rng (if a = 2 then 2 else 3) v) : RR (up2 c a j v) (up2 t x j v) := by
  have hP : AP (up2 c a j v) (up2 t x j v) := fun q hq => by
    obtain ⟨⟨f1, f2, f3, -⟩, g1, -⟩ := far hq
    rw [up2_ne c (a := q.1.1) _ _ (by rcases hax with e | e | e <;> rw [e.1] <;> assumption), up2_ne t (a := q.2.1.1) _ _ (by rw [g1]; rcases hax with e | e | e <;> rw [e.2] <;> decide)]
    exact h.1 q hq
  have hT : TM (up2 c a j v) (up2 t x j v) := by
    unfold TM
    rw [up2_ne c (a := 8) _ _ (by rcases hax with e | e | e <;> rw [e.1] <;> decide), up2_ne t (a := 15) _ _ (by rcases hax with e | e | e <;> rw [e.2] <;> decide)]
    exact h.2.2.1
  have hB : KB (up2 c a j v) (up2 t x j v) := by
    unfold KB
    rw [up2_ne c (a := 9) _ _ (by rcases hax with e | e | e <;> rw [e.1] <;> decide), up2_ne t (a := 15) _ _ (by rcases hax with e | e | e <;> rw [e.2] <;> decide), up2_ne c (a := 10) _ _ (by rcases hax with e | e | e <;> rw [e.1] <;> decide), up2_ne t (a := 19) _ _ (by rcases hax with e | e | e <;> rw [e.2] <;> decide)]
    exact h.2.2.2
  refine ⟨hP, ?_, hT, hB⟩
  obtain ⟨r1, r2, r3⟩ := h.2.1
  rcases hax with ⟨rfl, rfl⟩ | ⟨rfl, rfl⟩ | ⟨rfl, rfl⟩
  · refine ⟨?_, ?_, ?_⟩
    · rw [up2_same, up2_same]; exact arr_up r1 j hv
    · rw [up2_ne _ _ _ (by decide), up2_ne _ _ _ (by decide)]; exact r2
    · rw [up2_ne _ _ _ (by decide), up2_ne _ _ _ (by decide)]; exact r3
  · refine ⟨?_, ?_, ?_⟩
    · rw [up2_ne _ _ _ (by decide), up2_ne _ _ _ (by decide)]; exact r1
    · rw [up2_same, up2_same]; exact arr_up r2 j hv
    · rw [up2_ne _ _ _ (by decide), up2_ne _ _ _ (by decide)]; exact r3
  · refine ⟨?_, ?_, ?_⟩
    · rw [up2_ne _ _ _ (by decide), up2_ne _ _ _ (by decide)]; exact r1
    · rw [up2_ne _ _ _ (by decide), up2_ne _ _ _ (by decide)]; exact r2
    · rw [up2_same, up2_same]; exact arr_up r3 j hv
theorem RR.mem {c t : Sg} (h : RR c t) (j : Nat) {v : Int32} (hv : rng 2 v) : RR (up2 c 2 j v) (up2 t 16 j v) := h.arr (Or.inl ⟨rfl, rfl⟩) j hv
theorem RR.wor {c t : Sg} (h : RR c t) (j : Nat) {v : Int32} (hv : rng 3 v) : RR (up2 c 4 j v) (up2 t 17 j v) := h.arr (Or.inr (Or.inl ⟨rfl, rfl⟩)) j hv
theorem RR.seg {c t : Sg} (h : RR c t) (j : Nat) {v : Int32} (hv : rng 3 v) : RR (up2 c 5 j v) (up2 t 18 j v) := h.arr (Or.inr (Or.inr ⟨rfl, rfl⟩)) j hv
/-- only the twin's cells of t, only the class's of c, matter -/
theorem RR.ct {c c2 t : Sg} (h : RR c t) (e : ∀ a, a < 15 → c2 a = c a) : RR c2 t := by
  have k : ∀ q ∈ PM, q.1.1 < 15 := by
    have : (PM.all fun q => decide (q.1.1 < 15)) = true := by decide +kernel
    exact fun q hq => of_decide_eq_true (List.all_eq_true.mp this q hq)
  obtain ⟨h1, h2, h3, h4⟩ := h
  refine ⟨fun q hq => by rw [e _ (k q hq)]; exact h1 q hq, ?_, ?_, ?_⟩
  · unfold AR; rw [e 2 (by decide), e 4 (by decide), e 5 (by decide)]; exact h2
  · unfold TM; rw [e 8 (by decide)]; exact h3
  · unfold KB; rw [e 9 (by decide), e 10 (by decide)]; exact h4
theorem RR.tc {c t t2 : Sg} (h : RR c t) (e : ∀ a, 15 ≤ a → t2 a = t a) : RR c t2 := by
  obtain ⟨h1, h2, h3, h4⟩ := h
  refine ⟨fun q hq => by rw [e _ (by rw [(far hq).2.1]; decide)]; exact h1 q hq, ?_, ?_, ?_⟩
  · unfold AR; rw [e 16 (by decide), e 17 (by decide), e 18 (by decide)]; exact h2
  · unfold TM; rw [e 15 (by decide)]; exact h3
  · unfold KB; rw [e 15 (by decide), e 19 (by decide)]; exact h4
/-- a function of the class keeps the twin's cells, one of the twin the class's -/
theorem WP_hi {W : List (Nat × Option Nat)} {σ : Sg} (h : (W.all fun q => decide (q.1 < 15)) = true) : WP W (fun s => ∀ a, 15 ≤ a → s a = σ a) := fun s i j v hw hp a ha => by
  have hi : i < 15 := by
    rcases hw with hw | hw
    · exact of_decide_eq_true (List.all_eq_true.mp h _ hw)
    · exact of_decide_eq_true (List.all_eq_true.mp h _ hw)
  rw [up2_ne _ _ _ (by omega)]
  exact hp a ha
theorem WP_lo {W : List (Nat × Option Nat)} {σ : Sg} (h : (W.all fun q => decide (15 ≤ q.1)) = true) : WP W (fun s => ∀ a, a < 15 → s a = σ a) := fun s i j v hw hp a ha => by
  have hi : 15 ≤ i := by
    rcases hw with hw | hw
    · exact of_decide_eq_true (List.all_eq_true.mp h _ hw)
    · exact of_decide_eq_true (List.all_eq_true.mp h _ hw)
  rw [up2_ne _ _ _ (by omega)]
  exact hp a ha
/-- from one step of both, side by side, to the law's order: first the class, then the twin -/
theorem side {s s1 s2 : Sg} (h1 : ∀ a, 15 ≤ a → s1 a = s a) (h2 : ∀ a, a < 15 → s2 a = s1 a) (h : RR s1 s2) : Rel s2 := h.ct h2
