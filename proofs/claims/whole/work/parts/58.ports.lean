/-! THE PORTS side by side -/
theorem RR.kbg {c t c2 t2 : Sg} (h : RR c t) (hK : KB c2 t2) (hc : ∀ a b, (a, b) ≠ (9, 2) → a ≠ 10 → c2 a b = c a b) (ht : ∀ a b, (a, b) ≠ (15, 28) → a ≠ 19 → t2 a b = t a b) : RR c2 t2 := by
  obtain ⟨h1, h2, h3, -⟩ := h
  refine ⟨fun q hq => ?_, ⟨fun i => ?_, fun i => ?_, fun i => ?_⟩, ?_, hK⟩
  · obtain ⟨⟨f1, f2, f3, f4, f5, f6, f7⟩, g1, g2, g3, g4, g5⟩ := far hq
    obtain ⟨⟨qa, qb⟩, ⟨qx, qy⟩, qk⟩ := q
    dsimp only at f6 f7 g1 g5 ⊢
    rw [hc _ _ f6 f7, ht _ _ g5 (by rw [g1]; decide)]
    exact h1 _ hq
  · rw [hc _ _ (by simp) (by simp), ht _ _ (by simp) (by simp)]; exact h2.1 i
  · rw [hc _ _ (by simp) (by simp), ht _ _ (by simp) (by simp)]; exact h2.2.1 i
  · rw [hc _ _ (by simp) (by simp), ht _ _ (by simp) (by simp)]; exact h2.2.2 i
  · unfold TM
    rw [hc 8 2 (by simp) (by simp), hc 8 1 (by simp) (by simp), ht 15 21 (by simp) (by simp), ht 15 22 (by simp) (by simp), ht 15 23 (by simp) (by simp)]
    exact h3
def kC (c : Sg) (m : Nat) : Sg := up2 (up2 (up2 (up2 c 10 0 (c 10 1)) 10 1 (c 10 2)) 10 2 (c 10 3)) 9 2 (nI m)
def kT (t : Sg) (m : Nat) : Sg := match m with
  | 0 => up2 t 15 28 (nI 0)
  | 1 => up2 (up2 t 15 28 (nI 1)) 19 0 (t 19 1)
  | 2 => up2 (up2 (up2 t 15 28 (nI 2)) 19 0 (t 19 1)) 19 1 (t 19 2)
  | _ => up2 (up2 (up2 (up2 t 15 28 (nI 3)) 19 0 (t 19 1)) 19 1 (t 19 2)) 19 2 (t 19 3)
theorem bnd_eq {α β : Type} (x : α) (k : α → β) : bnd x k = k x := rfl
theorem tk1 (x : Int32) (s : Sg) : f_Key_take_18_c1 s x = f_Key_take_18_c2 (up2 s 10 0 (s 10 1)) x := by
  rw [f_Key_take_18_c1, show Int32.toNatClampNeg ((1 : Int32) - (1 : Int32)) = 0 by decide, show Int32.toNatClampNeg (1 : Int32) = 1 by decide, bnd_eq]
theorem tk2 (x : Int32) (s : Sg) : f_Key_take_18_c2 s x = f_Key_take_18_c3 (up2 s 10 1 (s 10 2)) x := by
  rw [f_Key_take_18_c2, show Int32.toNatClampNeg (((1 : Int32) + (1 : Int32)) - (1 : Int32)) = 1 by decide, show Int32.toNatClampNeg ((1 : Int32) + (1 : Int32)) = 2 by decide, bnd_eq]
theorem tk3 (x : Int32) (s : Sg) : f_Key_take_18_c3 s x = f_Key_take_18_c4 (up2 s 10 2 (s 10 3)) x := by
  rw [f_Key_take_18_c3, show Int32.toNatClampNeg ((((1 : Int32) + (1 : Int32)) + (1 : Int32)) - (1 : Int32)) = 2 by decide, show Int32.toNatClampNeg (((1 : Int32) + (1 : Int32)) + (1 : Int32)) = 3 by decide, bnd_eq]
theorem takeC {c : Sg} {m : Nat} (hm : m < 4) (e : c 9 2 = nI (m + 1)) : f_Key_take c = (c 10 0, if m = 0 then kC c m else f_Ctl_request (kC c m) 1) := by
  unfold f_Key_take
  rw [if_neg (by rw [e]; exact nI_ne0 (by omega) (by omega))]
  rw [show Int32.toNatClampNeg (0 : Int32) = 0 by decide, tk1, tk2, tk3, up2_get (σ := c) (x := 10) (y := 2) (by decide), up2_get (x := 10) (y := 3) (by decide), up2_get (x := 10) (y := 3) (by decide)]
  have e2 : up2 (up2 (up2 c 10 0 (c 10 1)) 10 1 (c 10 2)) 10 2 (c 10 3) 9 2 - 1 = nI m := by
    rw [up2_ne _ _ _ (by decide), up2_ne _ _ _ (by decide), up2_ne _ _ _ (by decide), e]
    exact nI_pred m
  unfold f_Key_take_18_c4
  rw [e2]
  show (if kC c m 9 2 ≤ 0 then (c 10 0, kC c m) else (c 10 0, f_Ctl_request (kC c m) 1)) = _
  rw [show kC c m 9 2 = nI m from up2_put]
  by_cases h0 : m = 0
  · subst h0
    rw [if_pos (by decide), if_pos rfl]
  · rw [if_neg (nI_nle (by omega) (by omega)), if_neg h0]
theorem takeT {t : Sg} {m : Nat} (hm : m < 4) (e : t 15 28 = nI (m + 1)) : f_Mod_answerKey t = (t 19 0, if m = 0 then kT t m else f_Mod_request (kT t m) 1) := by
  unfold f_Mod_answerKey
  rw [if_neg (by rw [e]; exact nI_ne0 (by omega) (by omega)), e, nI_pred]
  have e1 : ∀ v, up2 t 15 28 v 15 28 = v := fun v => up2_put
  show f_Mod_answerKey_28_c0 (up2 t 15 28 (nI m)) (t 19 0) = _
  unfold f_Mod_answerKey_28_c0
  rw [e1]
  match m, hm with
  | 0, _ => rw [if_pos (by decide), if_pos (by decide), if_pos rfl]; rfl
  | 1, _ =>
    rw [if_neg (by decide)]
    show f_Mod_answerKey_28_c1 (up2 (up2 t 15 28 (nI 1)) 19 0 (t 19 1)) (t 19 0) = _
    unfold f_Mod_answerKey_28_c1
    rw [show up2 (up2 t 15 28 (nI 1)) 19 0 (t 19 1) 15 28 = nI 1 from rfl, if_pos (by decide), if_neg (by decide)]
    rfl
  | 2, _ =>
    rw [if_neg (by decide)]
    show f_Mod_answerKey_28_c1 (up2 (up2 t 15 28 (nI 2)) 19 0 (t 19 1)) (t 19 0) = _
    unfold f_Mod_answerKey_28_c1
    rw [show up2 (up2 t 15 28 (nI 2)) 19 0 (t 19 1) 15 28 = nI 2 from rfl, if_neg (by decide)]
    show f_Mod_answerKey_28_c2 (up2 (up2 (up2 t 15 28 (nI 2)) 19 0 (t 19 1)) 19 1 (t 19 2)) (t 19 0) = _
    unfold f_Mod_answerKey_28_c2
    rw [show up2 (up2 (up2 t 15 28 (nI 2)) 19 0 (t 19 1)) 19 1 (t 19 2) 15 28 = nI 2 from rfl, if_pos (by decide), if_neg (by decide)]
    rfl
  | 3, _ =>
    rw [if_neg (by decide)]
    show f_Mod_answerKey_28_c1 (up2 (up2 t 15 28 (nI 3)) 19 0 (t 19 1)) (t 19 0) = _
    unfold f_Mod_answerKey_28_c1
    rw [show up2 (up2 t 15 28 (nI 3)) 19 0 (t 19 1) 15 28 = nI 3 from rfl, if_neg (by decide)]
    show f_Mod_answerKey_28_c2 (up2 (up2 (up2 t 15 28 (nI 3)) 19 0 (t 19 1)) 19 1 (t 19 2)) (t 19 0) = _
    unfold f_Mod_answerKey_28_c2
    rw [show up2 (up2 (up2 t 15 28 (nI 3)) 19 0 (t 19 1)) 19 1 (t 19 2) 15 28 = nI 3 from rfl, if_neg (by decide)]
    show f_Mod_answerKey_28_c3 (up2 (up2 (up2 (up2 t 15 28 (nI 3)) 19 0 (t 19 1)) 19 1 (t 19 2)) 19 2 (t 19 3)) (t 19 0) = _
    unfold f_Mod_answerKey_28_c3
    rw [show up2 (up2 (up2 (up2 t 15 28 (nI 3)) 19 0 (t 19 1)) 19 1 (t 19 2)) 19 2 (t 19 3) 15 28 = nI 3 from rfl, if_neg (by decide)]
    rfl
theorem kCT {c t : Sg} (h : RR c t) {m : Nat} (hm : m < 4) (k4 : ∀ k, k < m + 1 → c 10 k = t 19 k ∧ rng 2 (t 19 k)) : RR (kC c m) (kT t m) := by
  refine h.kbg ?_ (fun a b e1 e2 => ?_) (fun a b e1 e2 => ?_)
  · match m, hm with
    | 0, _ => exact ⟨rfl, 0, by decide, rfl, fun k hk => absurd hk (by omega)⟩
    | 1, _ =>
      refine ⟨rfl, 1, by decide, rfl, fun k hk => ?_⟩
      match k, hk with
      | 0, _ => exact k4 1 (by decide)
    | 2, _ =>
      refine ⟨rfl, 2, by decide, rfl, fun k hk => ?_⟩
      match k, hk with
      | 0, _ => exact k4 1 (by decide)
      | 1, _ => exact k4 2 (by decide)
    | 3, _ =>
      refine ⟨rfl, 3, by decide, rfl, fun k hk => ?_⟩
      match k, hk with
      | 0, _ => exact k4 1 (by decide)
      | 1, _ => exact k4 2 (by decide)
      | 2, _ => exact k4 3 (by decide)
  · unfold kC
    rw [up2_get (neP (Ne.symm e1)), up2_ne _ _ _ e2, up2_ne _ _ _ e2, up2_ne _ _ _ e2]
  · match m, hm with
    | 0, _ => exact up2_get (neP (Ne.symm e1))
    | 1, _ => show up2 _ 19 _ _ a b = _; rw [up2_ne _ _ _ e2, up2_get (neP (Ne.symm e1))]
    | 2, _ => show up2 _ 19 _ _ a b = _; rw [up2_ne _ _ _ e2, up2_ne _ _ _ e2, up2_get (neP (Ne.symm e1))]
    | 3, _ => show up2 _ 19 _ _ a b = _; rw [up2_ne _ _ _ e2, up2_ne _ _ _ e2, up2_ne _ _ _ e2, up2_get (neP (Ne.symm e1))]
/-- both answer alike, and stand alike behind it -/
def AA2 (r s : Int32 × Sg) : Prop := r.1 = s.1 ∧ RR r.2 s.2
theorem take_eq {c t : Sg} (h : RR c t) : AA2 (f_Key_take c) (f_Mod_answerKey t) := by
  obtain ⟨k1, n, hn, k3, k4⟩ := h.2.2.2
  match n, hn, k3, k4 with
  | 0, _, k3, _ =>
    unfold f_Key_take f_Mod_answerKey
    have k0 : t 15 28 = 0 := k3
    rw [if_pos (k1.trans k0), if_pos k0]
    exact ⟨rfl, h⟩
  | m + 1, hn, k3, k4 =>
    rw [takeC (by omega) (k1.trans k3), takeT (by omega) k3]
    refine ⟨(k4 0 (by omega)).1, ?_⟩
    show RR (if m = 0 then kC c m else f_Ctl_request (kC c m) 1) (if m = 0 then kT t m else f_Mod_request (kT t m) 1)
    by_cases h0 : m = 0
    · rw [if_pos h0, if_pos h0]; exact kCT h (by omega) k4
    · rw [if_neg h0, if_neg h0]; exact (kCT h (by omega) k4).req rq1
theorem RR.cnt {c t : Sg} (h : RR c t) : (c 8 1) &&& 65535 = if t 15 21 = 0 then 0 else (t 15 23) &&& 65535 := by
  rcases h.2.2.1 with ⟨-, ⟨a, b⟩ | ⟨a, b, -, -⟩⟩
  · rw [if_pos a, b]; rfl
  · rw [if_neg (by rw [a]; decide), b]
theorem tans_eq {c t : Sg} (h : RR c t) : AA2 (f_Tim_answer c) (f_Mod_answerTimer t) := by
  obtain ⟨e, _⟩ := h.get 13 rfl
  unfold f_Tim_answer f_Mod_answerTimer
  rw [e]
  by_cases h0 : t 15 27 = 0
  · rw [if_pos h0, if_pos h0]
    have ev : (if t 15 21 = 0 then f_Mod_answerTimer_26 t 0 else f_Mod_answerTimer_26 t ((t 15 23) &&& 65535)) = f_Mod_answerTimer_26 t ((c 8 1) &&& 65535) := by
      rw [h.cnt]
      split <;> rfl
    rw [ev, h0]
    show AA2 (((c 8 1) &&& 65535) &&& 255, up2 (up2 c 8 6 1) 8 5 ((c 8 1) &&& 65535)) (f_Mod_answerTimer_29 (up2 t 15 26 ((c 8 1) &&& 65535)))
    unfold f_Mod_answerTimer_29
    rw [if_pos (show up2 t 15 26 ((c 8 1) &&& 65535) 15 27 = 0 from h0)]
    unfold f_Mod_answerTimer_54
    rw [if_pos (show up2 t 15 26 ((c 8 1) &&& 65535) 15 27 = 0 from h0)]
    refine ⟨rfl, ?_⟩
    show RR (up2 (up2 c 8 6 1) 8 5 ((c 8 1) &&& 65535)) (up2 (up2 t 15 26 ((c 8 1) &&& 65535)) 15 27 1)
    rw [up2_comm (by decide)]
    exact (h.up 12 rfl (rng3_and _)).up 13 rfl (Or.inr rfl)
  · rw [if_neg h0, if_neg h0]
    show AA2 (if t 15 27 = 0 then _ else ((c 8 5) >>> ((8 : Int32) &&& 31 : Int32), up2 c 8 6 0)) _
    rw [if_neg h0]
    unfold f_Mod_answerTimer_29
    rw [if_neg h0]
    unfold f_Mod_answerTimer_54
    rw [if_neg h0]
    refine ⟨?_, h.up 13 rfl (Or.inl rfl)⟩
    show (c 8 5) >>> ((8 : Int32) &&& 31 : Int32) = (t 15 26) >>> ((8 : Int32) &&& 31 : Int32)
    rw [(h.get 12 rfl).1]
theorem pa_eq {c t : Sg} (h : RR c t) (n : Int32) : AA2 (f_Por_answer c n) (f_Mod_answer t n) := by
  by_cases h8 : n = 8
  · subst h8
    unfold f_Por_answer f_Mod_answer
    rw [if_pos rfl, if_neg (by decide), if_neg (by decide), if_neg (by decide), if_neg (by decide), if_neg (by decide), if_pos rfl]
    show AA2 (f_Cha_answerDone c) _
    unfold f_Cha_answerDone
    rw [(h.get 18 rfl).1]
    by_cases h0 : t 15 35 = 0
    · rw [if_pos h0, if_pos h0]
      exact ⟨rfl, h.up 18 rfl (Or.inl rfl)⟩
    · rw [if_neg h0, if_neg h0]
      exact ⟨rfl, h.up 18 rfl (Or.inl rfl)⟩
  by_cases h32 : n = 32
  · subst h32
    unfold f_Por_answer f_Mod_answer
    rw [if_neg (by decide), if_pos rfl, if_pos rfl]
    show AA2 (f_Ctl_shown c) _
    unfold f_Ctl_shown
    rw [(h.get 9 rfl).1, (h.get 6 rfl).1, (h.get 7 rfl).1]
    by_cases h0 : t 15 20 = 0
    · rw [if_pos h0, if_pos h0]; exact ⟨rfl, h⟩
    · rw [if_neg h0, if_neg h0]; exact ⟨rfl, h⟩
  by_cases h33 : n = 33
  · subst h33
    unfold f_Por_answer f_Mod_answer
    rw [if_neg (by decide), if_neg (by decide), if_pos rfl, if_neg (by decide), if_pos rfl]
    exact ⟨(h.get 8 rfl).1, h⟩
  by_cases h64 : n = 64
  · subst h64
    unfold f_Por_answer f_Mod_answer
    rw [if_neg (by decide), if_neg (by decide), if_neg (by decide), if_pos rfl, if_neg (by decide), if_neg (by decide), if_pos rfl]
    exact tans_eq h
  by_cases h96 : n = 96
  · subst h96
    unfold f_Por_answer f_Mod_answer
    rw [if_neg (by decide), if_neg (by decide), if_neg (by decide), if_neg (by decide), if_pos rfl, if_neg (by decide), if_neg (by decide), if_neg (by decide), if_pos rfl]
    exact take_eq h
  by_cases h100 : n = 100
  · subst h100
    unfold f_Por_answer f_Mod_answer
    rw [if_neg (by decide), if_neg (by decide), if_neg (by decide), if_neg (by decide), if_neg (by decide), if_pos rfl, if_neg (by decide), if_neg (by decide), if_neg (by decide), if_neg (by decide), if_pos rfl]
    show AA2 (f_Key_answerWaiting c) _
    unfold f_Key_answerWaiting
    rw [h.2.2.2.1]
    by_cases h0 : t 15 28 ≤ 0
    · rw [if_pos h0, if_pos h0]; exact ⟨rfl, h⟩
    · rw [if_neg h0, if_neg h0]; exact ⟨rfl, h⟩
  unfold f_Por_answer f_Mod_answer
  rw [if_neg h8, if_neg h32, if_neg h33, if_neg h64, if_neg h96, if_neg h100, if_neg h32, if_neg h33, if_neg h64, if_neg h96, if_neg h100, if_neg h8]
  exact ⟨rfl, h⟩
theorem tog_t {c t : Sg} (h : RR c t) : RR (f_Tim_get_47 c) (f_Mod_giveTimer_61 t) := by
  unfold f_Tim_get_47 f_Mod_giveTimer_61
  rw [(h.get 11 rfl).1]
  by_cases h0 : t 15 25 = 0
  · rw [if_pos h0, if_pos h0]; exact h.up 11 rfl (Or.inr rfl)
  · rw [if_neg h0, if_neg h0]; exact h.up 11 rfl (Or.inl rfl)
theorem tset {c t : Sg} (h : RR c t) {y : Int32} (h1 : 1 ≤ y.toInt) (h2 : y.toInt ≤ 65536) : RR (f_Tim_get_28 c y) (f_Mod_giveTimer_37 t y) := by
  show RR (f_Tim_get_47 (up2 (up2 c 8 2 y) 8 1 y)) (f_Mod_giveTimer_61 (up2 (up2 (up2 t 15 22 y) 15 23 y) 15 21 1))
  refine tog_t (h.tmg ⟨rfl, Or.inr ⟨rfl, rfl, ⟨h1, h2⟩, ⟨h1, h2⟩⟩⟩ (fun a b e1 e2 => ?_) (fun a b e1 e2 e3 => ?_))
  · rw [up2_get (neP (Ne.symm e1)), up2_get (neP (Ne.symm e2))]
  · rw [up2_get (neP (Ne.symm e1)), up2_get (neP (Ne.symm e3)), up2_get (neP (Ne.symm e2))]
theorem tget_eq {c t : Sg} (h : RR c t) {a : Int32} (ha : rng 2 a) : RR (f_Tim_get c a) (f_Mod_giveTimer t a) := by
  unfold f_Tim_get f_Mod_giveTimer
  obtain ⟨e10, r10⟩ := h.get 10 rfl
  rw [(h.get 11 rfl).1, e10]
  by_cases h0 : t 15 25 = 0
  · rw [if_pos h0, if_pos h0]
    exact tog_t (h.up 10 rfl ha)
  · obtain ⟨eo, ro⟩ := or_shl r10 ha
    rw [if_neg h0, if_neg h0, Int32.or_comm, eo]
    by_cases hz : t 15 24 + 256 * a = 0
    · rw [if_pos hz, if_pos hz]
      exact tset h (by decide) (by decide)
    · rw [if_neg hz, if_neg hz]
      refine tset h ?_ (Int.le_of_lt ro.2)
      have h1 := ro.1
      have h2 : (t 15 24 + 256 * a).toInt ≠ 0 := fun e => hz (Int32.toInt_inj.mp e)
      omega
theorem cget2 {c t : Sg} (h : RR c t) : RR (f_Cha_getPlace_12 c) (f_Mod_giveChannel_58 t) := by
  unfold f_Cha_getPlace_12 f_Mod_giveChannel_58
  rw [(h.get 19 rfl).1]
  by_cases h0 : t 15 33 = 0
  · rw [if_pos h0, if_pos h0]; exact h.up 19 rfl (Or.inr rfl)
  · rw [if_neg h0, if_neg h0]; exact h.up 19 rfl (Or.inl rfl)
theorem cget3 {c t : Sg} (h : RR c t) {y : Int32} (hy : rng 3 y) : RR (f_Cha_getLeft_33 c y) (f_Mod_giveChannel_55 t y) := cget2 (h.up 15 rfl hy)
theorem pg_eq {c t : Sg} (h : RR c t) (n : Int32) {a : Int32} (ha : rng 2 a) : RR (f_Por_get c n a) (f_Mod_give t n a) := by
  by_cases h2 : n = 2
  · subst h2
    unfold f_Por_get f_Mod_give
    rw [if_pos rfl, if_neg (by decide)]
    show RR (f_Cha_getPlace c a) (f_Mod_giveChannel t 2 a)
    unfold f_Cha_getPlace f_Mod_giveChannel
    rw [if_pos rfl, (h.get 19 rfl).1]
    by_cases h0 : t 15 33 = 0
    · rw [if_pos h0, if_pos h0]; exact cget2 (h.up 14 rfl ha)
    · rw [if_neg h0, if_neg h0]; exact cget2 h
  by_cases h3 : n = 3
  · subst h3
    unfold f_Por_get f_Mod_give
    rw [if_neg (by decide), if_pos rfl, if_neg (by decide)]
    show RR (f_Cha_getLeft c a) (f_Mod_giveChannel_17 t 3 a)
    unfold f_Cha_getLeft f_Mod_giveChannel_17
    obtain ⟨e, r⟩ := h.get 15 rfl
    rw [if_pos rfl, (h.get 19 rfl).1, e]
    by_cases h0 : t 15 33 = 0
    · rw [if_pos h0, if_pos h0]; exact cget3 h (rng3_or (rng3_andl (by exact ⟨by decide, by decide⟩)) (rng23 ha))
    · rw [if_neg h0, if_neg h0]; exact cget3 h (rng3_or (rng3_andl (by exact ⟨by decide, by decide⟩)) (rng3_shl ha))
  by_cases h10 : n = 10
  · subst h10
    show RR (f_Cha_getMask c a) (f_Mod_give_74 t 10 a)
    unfold f_Cha_getMask f_Mod_give_74
    rw [if_pos rfl]
    by_cases h0 : a &&& 4 = 0
    · rw [if_pos h0, if_pos h0]; exact h.up 17 rfl (Or.inr rfl)
    · rw [if_neg h0, if_neg h0]; exact h.up 17 rfl (Or.inl rfl)
  by_cases h12 : n = 12
  · subst h12
    show RR (up2 c 11 7 0) (up2 t 15 33 0)
    exact h.up 19 rfl (Or.inl rfl)
  by_cases h32 : n = 32
  · subst h32
    show RR (f_Ctl_command c a) (f_Mod_giveController t a)
    unfold f_Ctl_command f_Mod_giveController f_Mod_giveController_21 f_Mod_giveController_33
    by_cases q1 : a = 32
    · subst q1
      rw [if_pos rfl, if_pos rfl]
      obtain ⟨e, r⟩ := h.get 7 rfl
      show RR (up2 c 7 1 (c 7 1 &&& (c 7 1 - 1))) (up2 t 15 18 (t 15 18 &&& (t 15 18 - 1)))
      rw [e]
      refine h.up 7 rfl ?_
      rw [Int32.and_comm]
      exact rng2_andl r
    rw [if_neg q1, if_neg q1]
    by_cases q2 : a = 10
    · subst q2
      rw [if_pos rfl, if_pos rfl, if_neg (by decide)]
      exact h.up 9 rfl (Or.inl rfl)
    rw [if_neg q2, if_neg q2]
    by_cases q3 : a = 11
    · subst q3
      rw [if_pos rfl, if_pos rfl, if_pos rfl]
      exact h.up 9 rfl (Or.inr rfl)
    rw [if_neg q3, if_neg q3]
    exact h
  by_cases h33 : n = 33
  · subst h33
    show RR (up2 c 7 2 a) (up2 t 15 19 a)
    exact h.up 8 rfl ha
  by_cases h64 : n = 64
  · subst h64
    show RR (f_Tim_get c a) (f_Mod_giveTimer t a)
    exact tget_eq h ha
  by_cases h131 : n = 131
  · subst h131
    show RR (up2 c 11 4 (a &&& 3)) (up2 t 15 32 (a &&& 3))
    refine h.up 16 rfl ?_
    obtain ⟨j, hj, e⟩ := pk_andE a (m := 3) 2 rfl
    rw [e]
    exact ⟨by rw [nI_toInt (by omega)]; omega, by rw [nI_toInt (by omega)]; omega⟩
  unfold f_Por_get f_Mod_give f_Mod_give_11 f_Mod_give_22 f_Mod_give_33 f_Mod_give_49 f_Mod_give_60 f_Mod_give_74
  rw [if_neg h2, if_neg h3, if_neg h10, if_neg h12, if_neg h32, if_neg h33, if_neg h64, if_neg h131, if_neg h32, if_neg h33, if_neg h64, if_neg h2, if_neg h3, if_neg h12, if_neg h131, if_neg h10]
  exact h
