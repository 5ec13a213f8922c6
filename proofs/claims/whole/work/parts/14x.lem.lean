/-! what a function doesn't write stays -/
theorem WP_at {W : List (Nat × Option Nat)} {a b : Nat} {R : Int32 → Prop} (h : (W.all fun q => decide (q ≠ (a, none)) && decide (q ≠ (a, some b))) = true) : WP W (fun s => R (s a b)) := by
  intro s i j v hw hp
  have h1 := fun q hq => List.all_eq_true.mp h q hq
  show R (up2 s i j v a b)
  by_cases hi : a = i
  · subst hi
    by_cases hj : b = j
    · subst hj
      rcases hw with hw | hw
      · have := h1 _ hw
        simp at this
      · have := h1 _ hw
        simp at this
    · rw [up2_same, upd, if_neg hj]
      exact hp
  · rw [up2_ne _ _ _ hi]
    exact hp
theorem WP_cell {W : List (Nat × Option Nat)} {a : Nat} {R : (Nat → Int32) → Prop} (h : (W.all fun q => decide (q.1 ≠ a)) = true) : WP W (fun s => R (s a)) := by
  intro s i j v hw hp
  have h1 := fun q hq => List.all_eq_true.mp h q hq
  show R (up2 s i j v a)
  have hi : a ≠ i := by
    intro e
    subst e
    rcases hw with hw | hw
    · have := h1 _ hw
      simp at this
    · have := h1 _ hw
      simp at this
  rw [up2_ne _ _ _ hi]
  exact hp
theorem WP_and {W : List (Nat × Option Nat)} {P Q : Sg → Prop} (hp : WP W P) (hq : WP W Q) : WP W (fun s => P s ∧ Q s) := fun s i j v hw h => ⟨hp s i j v hw h.1, hq s i j v hw h.2⟩
def Bb (s : Sg) : Prop := s 14 7 = 0 ∨ s 14 7 = 1
theorem rm44_b {σ : Sg} {x3 y0 : Int32} (hz : y0 = 0 ∨ y0 = 1) : Bb (f_Dec_readModrm_44 σ x3 y0) := by
  unfold f_Dec_readModrm_44
  refine bnd_z fun s1 e1 => ?_
  have h1 : Bb s1 := by
    rw [← e1]
    exact hz
  refine ite_z (fun _ => h1) (fun _ => ite_z (fun _ => ite_z (fun _ => ?_) (fun _ => ?_)) (fun _ => ?_))
  · exact p_Dec_readModrm_73 (P := Bb) (WP_at (R := fun z => z = 0 ∨ z = 1) rfl) h1
  · exact p_Dec_readModrm_72 (P := Bb) (WP_at (R := fun z => z = 0 ∨ z = 1) rfl) h1
  · exact p_Dec_readModrm_72 (P := Bb) (WP_at (R := fun z => z = 0 ∨ z = 1) rfl) h1
theorem rm_b (σ : Sg) (w : Int32) : f_Dec_readModrm σ w 14 7 = 0 ∨ f_Dec_readModrm σ w 14 7 = 1 := by
  show Bb (f_Dec_readModrm σ w)
  unfold f_Dec_readModrm
  refine bnd_z fun r1 e1 => bnd_z fun s2 e2 => bnd_z fun s3 e3 => bnd_z fun s4 e4 => ite_z (fun _ => ?_) (fun _ => ?_)
  · exact rm44_b (Or.inl rfl)
  · exact rm44_b (Or.inr rfl)
/-- no byte is negative -/
def Mb (s : Sg) : Prop := ∀ i, ¬ s 2 i < 0
def Cg (s : Sg) : Prop := Mb s ∧ ¬ s 14 3 < 0
def Nb (r : Int32 × Sg) : Prop := Mb r.2 ∧ ¬ r.1 < 0
theorem nb_ok {σ : Sg} (h : Mb σ) : Nb (f_Dec_nextByte σ) := ⟨p_Dec_nextByte (P := Mb) (WP_cell (R := fun m => ∀ i, ¬ m i < 0) rfl) h, h _⟩
theorem Cg_w {W : List (Nat × Option Nat)} (h1 : (W.all fun q => decide (q.1 ≠ 2)) = true) (h2 : (W.all fun q => decide (q ≠ (14, none)) && decide (q ≠ (14, some 3))) = true) : WP W Cg := WP_and (WP_cell (R := fun m => ∀ i, ¬ m i < 0) h1) (WP_at (R := fun z => ¬ z < 0) h2)
theorem bg_c4 {σ : Sg} (h : Cg σ) : PP Cg (f_Dec_begin_23_c4 σ) := h
set_option maxHeartbeats 400000 in
theorem bg_c3 {σ : Sg} (h : Mb σ) : PP Cg (f_Dec_begin_23_c3 σ) := by
  have k1 : ∀ s, Cg s → PP Cg (f_Dec_begin_56_c3 s) := fun s hs => by
    unfold f_Dec_begin_56_c3
    exact bnd_zz (Z := Cg) (P := PP Cg) (Cg_w (W := [(14, some 4)]) rfl rfl _ _ _ _ (Or.inr (by decide)) hs) fun s1 _ h1 => bg_c4 h1
  have k2 : ∀ s, Cg s → PP Cg (f_Dec_begin_103_c3 s) := fun s hs => by
    unfold f_Dec_begin_103_c3
    exact bnd_zz (Z := Cg) (P := PP Cg) (Cg_w (W := [(14, some 8)]) rfl rfl _ _ _ _ (Or.inr (by decide)) hs) fun s1 _ h1 => bg_c4 h1
  unfold f_Dec_begin_23_c3
  refine bnd_zz (Z := Nb) (P := PP Cg) (nb_ok h) fun r1 e1 h1 => ?_
  have h9 : Cg (up2 r1.2 14 3 r1.1) := ⟨fun i => by rw [up2_ne _ _ _ (by decide)]; exact h1.1 i, by rw [up2_same, upd, if_pos rfl]; exact h1.2⟩
  refine bnd_zz (Z := Cg) (P := PP Cg) h9 fun s2 e2 h2 => ?_
  refine ite_z (P := PP Cg) (fun _ => k1 _ h2) (fun _ => ?_)
  refine ite_z (P := PP Cg) (fun _ => k1 _ h2) (fun _ => ?_)
  refine ite_z (P := PP Cg) (fun _ => k2 _ h2) (fun _ => ?_)
  refine ite_z (P := PP Cg) (fun _ => k2 _ h2) (fun _ => ?_)
  refine ite_z (P := PP Cg) (fun _ => k2 _ h2) (fun _ => ?_)
  refine ite_z (P := PP Cg) (fun _ => k2 _ h2) (fun _ => ?_)
  exact h2
set_option maxHeartbeats 400000 in
theorem bg_c2 {σ : Sg} (h : Mb σ) : PP Cg (f_Dec_begin_23_c2 σ) := by
  have k1 : ∀ s, Cg s → PP Cg (f_Dec_begin_56_c2 s) := fun s hs => by
    unfold f_Dec_begin_56_c2
    exact bnd_zz (Z := Cg) (P := PP Cg) (Cg_w (W := [(14, some 4)]) rfl rfl _ _ _ _ (Or.inr (by decide)) hs) fun s1 _ h1 => bg_c3 h1.1
  have k2 : ∀ s, Cg s → PP Cg (f_Dec_begin_103_c2 s) := fun s hs => by
    unfold f_Dec_begin_103_c2
    exact bnd_zz (Z := Cg) (P := PP Cg) (Cg_w (W := [(14, some 8)]) rfl rfl _ _ _ _ (Or.inr (by decide)) hs) fun s1 _ h1 => bg_c3 h1.1
  unfold f_Dec_begin_23_c2
  refine bnd_zz (Z := Nb) (P := PP Cg) (nb_ok h) fun r1 e1 h1 => ?_
  have h9 : Cg (up2 r1.2 14 3 r1.1) := ⟨fun i => by rw [up2_ne _ _ _ (by decide)]; exact h1.1 i, by rw [up2_same, upd, if_pos rfl]; exact h1.2⟩
  refine bnd_zz (Z := Cg) (P := PP Cg) h9 fun s2 e2 h2 => ?_
  refine ite_z (P := PP Cg) (fun _ => k1 _ h2) (fun _ => ?_)
  refine ite_z (P := PP Cg) (fun _ => k1 _ h2) (fun _ => ?_)
  refine ite_z (P := PP Cg) (fun _ => k2 _ h2) (fun _ => ?_)
  refine ite_z (P := PP Cg) (fun _ => k2 _ h2) (fun _ => ?_)
  refine ite_z (P := PP Cg) (fun _ => k2 _ h2) (fun _ => ?_)
  refine ite_z (P := PP Cg) (fun _ => k2 _ h2) (fun _ => ?_)
  exact h2
set_option maxHeartbeats 400000 in
theorem bg_c1 {σ : Sg} (h : Mb σ) : PP Cg (f_Dec_begin_23_c1 σ) := by
  have k1 : ∀ s, Cg s → PP Cg (f_Dec_begin_56_c1 s) := fun s hs => by
    unfold f_Dec_begin_56_c1
    exact bnd_zz (Z := Cg) (P := PP Cg) (Cg_w (W := [(14, some 4)]) rfl rfl _ _ _ _ (Or.inr (by decide)) hs) fun s1 _ h1 => bg_c2 h1.1
  have k2 : ∀ s, Cg s → PP Cg (f_Dec_begin_103_c1 s) := fun s hs => by
    unfold f_Dec_begin_103_c1
    exact bnd_zz (Z := Cg) (P := PP Cg) (Cg_w (W := [(14, some 8)]) rfl rfl _ _ _ _ (Or.inr (by decide)) hs) fun s1 _ h1 => bg_c2 h1.1
  unfold f_Dec_begin_23_c1
  refine bnd_zz (Z := Nb) (P := PP Cg) (nb_ok h) fun r1 e1 h1 => ?_
  have h9 : Cg (up2 r1.2 14 3 r1.1) := ⟨fun i => by rw [up2_ne _ _ _ (by decide)]; exact h1.1 i, by rw [up2_same, upd, if_pos rfl]; exact h1.2⟩
  refine bnd_zz (Z := Cg) (P := PP Cg) h9 fun s2 e2 h2 => ?_
  refine ite_z (P := PP Cg) (fun _ => k1 _ h2) (fun _ => ?_)
  refine ite_z (P := PP Cg) (fun _ => k1 _ h2) (fun _ => ?_)
  refine ite_z (P := PP Cg) (fun _ => k2 _ h2) (fun _ => ?_)
  refine ite_z (P := PP Cg) (fun _ => k2 _ h2) (fun _ => ?_)
  refine ite_z (P := PP Cg) (fun _ => k2 _ h2) (fun _ => ?_)
  refine ite_z (P := PP Cg) (fun _ => k2 _ h2) (fun _ => ?_)
  exact h2
set_option maxHeartbeats 400000 in
theorem bg_c0 {σ : Sg} (h : Mb σ) : PP Cg (f_Dec_begin_23_c0 σ) := by
  have k1 : ∀ s, Cg s → PP Cg (f_Dec_begin_56_c0 s) := fun s hs => by
    unfold f_Dec_begin_56_c0
    exact bnd_zz (Z := Cg) (P := PP Cg) (Cg_w (W := [(14, some 4)]) rfl rfl _ _ _ _ (Or.inr (by decide)) hs) fun s1 _ h1 => bg_c1 h1.1
  have k2 : ∀ s, Cg s → PP Cg (f_Dec_begin_103_c0 s) := fun s hs => by
    unfold f_Dec_begin_103_c0
    exact bnd_zz (Z := Cg) (P := PP Cg) (Cg_w (W := [(14, some 8)]) rfl rfl _ _ _ _ (Or.inr (by decide)) hs) fun s1 _ h1 => bg_c1 h1.1
  unfold f_Dec_begin_23_c0
  refine bnd_zz (Z := Nb) (P := PP Cg) (nb_ok h) fun r1 e1 h1 => ?_
  have h9 : Cg (up2 r1.2 14 3 r1.1) := ⟨fun i => by rw [up2_ne _ _ _ (by decide)]; exact h1.1 i, by rw [up2_same, upd, if_pos rfl]; exact h1.2⟩
  refine bnd_zz (Z := Cg) (P := PP Cg) h9 fun s2 e2 h2 => ?_
  refine ite_z (P := PP Cg) (fun _ => k1 _ h2) (fun _ => ?_)
  refine ite_z (P := PP Cg) (fun _ => k1 _ h2) (fun _ => ?_)
  refine ite_z (P := PP Cg) (fun _ => k2 _ h2) (fun _ => ?_)
  refine ite_z (P := PP Cg) (fun _ => k2 _ h2) (fun _ => ?_)
  refine ite_z (P := PP Cg) (fun _ => k2 _ h2) (fun _ => ?_)
  refine ite_z (P := PP Cg) (fun _ => k2 _ h2) (fun _ => ?_)
  exact h2
theorem beg_code {σ : Sg} (h : Mb σ) : ¬ (f_Dec_begin σ).2 14 3 < 0 := by
  have : PP Cg (f_Dec_begin σ) := by
    unfold f_Dec_begin
    refine bnd_zz (Z := Mb) (P := PP Cg) h fun s1 _ h1 => ?_
    refine bnd_zz (Z := Mb) (P := PP Cg) h1 fun s2 _ h2 => ?_
    refine bnd_zz (Z := Mb) (P := PP Cg) h2 fun s3 _ h3 => ?_
    exact bg_c0 h3
  exact this.2
