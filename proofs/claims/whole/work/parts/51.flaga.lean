/-! flags, side by side -/
theorem up2_twice {σ : Sg} {a b : Nat} {v w : Int32} : up2 (up2 σ a b v) a b w = up2 σ a b w := by
  funext x y
  by_cases h : x = a ∧ y = b
  · obtain ⟨rfl, rfl⟩ := h
    rw [up2_put, up2_put]
  · rw [up2_get h, up2_get h, up2_get h]
def fop (F b y : Int32) : Int32 := if y = 0 then F &&& (b ^^^ -1) else F ||| b
theorem flag_eq (t : Sg) (b y : Int32) : f_Mod_flag t b y = up2 t 15 4 (fop (t 15 4) b y) := by
  unfold f_Mod_flag fop
  by_cases h : y = 0
  · rw [if_pos h, if_pos h]; rfl
  · rw [if_neg h, if_neg h]; rfl
theorem flag_up (t : Sg) (F b y : Int32) : f_Mod_flag (up2 t 15 4 F) b y = up2 t 15 4 (fop F b y) := by
  rw [flag_eq, up2_put, up2_twice]
def mkw (w : Int32) : Int32 := if w = 0 then 255 else 65535
def hiw (w : Int32) : Int32 := if w = 0 then 128 else 32768
def b01 (p : Prop) [Decidable p] : Int32 := if p then 1 else 0
theorem b01_0 {p : Prop} [Decidable p] : b01 p = 0 ↔ ¬ p := by
  unfold b01
  by_cases h : p
  · rw [if_pos h]; exact ⟨fun z => absurd z (by decide), fun z => absurd h z⟩
  · rw [if_neg h]; exact ⟨fun _ => h, fun _ => rfl⟩
theorem zas_eq (t : Sg) (F v w : Int32) : f_Mod_zeroAndSign (up2 t 15 4 F) v w = up2 t 15 4 (fop (fop F 64 (b01 (v &&& mkw w = 0))) 128 (b01 (¬ v &&& hiw w = 0))) := by
  unfold f_Mod_zeroAndSign mkw hiw b01
  by_cases h : w = 0
  · simp only [if_pos h, f_Mod_zeroAndSign_16, f_Mod_zeroAndSign_25, f_Mod_zeroAndSign_45, f_Mod_zeroAndSign_54, bnd]
    by_cases h1 : v &&& 255 = 0 <;> by_cases h2 : v &&& 128 = 0 <;> simp only [h1, h2, if_true, if_false, not_true, not_false_eq_true, flag_up]
  · simp only [if_neg h, f_Mod_zeroAndSign_16, f_Mod_zeroAndSign_25, f_Mod_zeroAndSign_45, f_Mod_zeroAndSign_54, bnd]
    by_cases h1 : v &&& 65535 = 0 <;> by_cases h2 : v &&& 32768 = 0 <;> simp only [h1, h2, if_true, if_false, not_true, not_false_eq_true, flag_up]
def sgn (w a : Int32) : Int32 := (a ^^^ hiw w) - hiw w
abbrev room (w x : Int32) : Prop := ¬ x < (if w = 0 then -128 else -32768) ∧ ¬ (if w = 0 then 127 else 32767) < x
theorem signed_eq (t : Sg) (a w : Int32) : f_Mod_signed t a w = (sgn w a, t) := by
  unfold f_Mod_signed sgn hiw
  by_cases h : w = 0
  · rw [if_pos h, if_pos h]
  · rw [if_neg h, if_neg h]
theorem room_eq (t : Sg) (x w : Int32) : f_Mod_hasRoom t x w = (b01 (room w x), t) := by
  unfold f_Mod_hasRoom b01 room f_Mod_in
  by_cases h : w = 0
  · simp only [if_pos h, bnd]
    by_cases h1 : x < -128 <;> by_cases h2 : 127 < x <;> simp [h1, h2]
  · simp only [if_neg h, bnd]
    by_cases h1 : x < -32768 <;> by_cases h2 : 32767 < x <;> simp [h1, h2]
def f4 (F C O Z S : Int32) : Int32 := fop (fop (fop (fop F 1 C) 2048 O) 64 Z) 128 S
theorem plus_eq (t : Sg) (a b k w : Int32) : f_Mod_plus t a b k w = ((a + b + k) &&& mkw w, up2 t 15 4 (f4 (t 15 4) (b01 (¬ (a + b + k) ≤ mkw w)) (b01 (¬ room w (sgn w a + sgn w b + k))) (b01 ((a + b + k) &&& mkw w = 0)) (b01 (¬ (a + b + k) &&& hiw w = 0)))) := by
  have k67 : ∀ (s : Sg) (F x y : Int32), f_Mod_plus_67 (up2 s 15 4 F) w x y 2048 = (x &&& mkw w, up2 s 15 4 (fop (fop (fop F 2048 y) 64 (b01 (x &&& mkw w = 0))) 128 (b01 (¬ x &&& hiw w = 0)))) := fun s F x y => by
    simp only [f_Mod_plus_67, bnd, flag_up, zas_eq]
    by_cases h : w = 0
    · rw [if_pos h]; simp only [mkw, if_pos h]
    · rw [if_neg h]; simp only [mkw, if_neg h]
  have k32 : ∀ (x y : Int32), f_Mod_plus_32 t a b k w x y 1 = (x &&& mkw w, up2 t 15 4 (f4 (t 15 4) y (b01 (¬ room w (sgn w a + sgn w b + k))) (b01 (x &&& mkw w = 0)) (b01 (¬ x &&& hiw w = 0)))) := fun x y => by
    simp only [f_Mod_plus_32, bnd, flag_eq t, signed_eq, room_eq, k67]
    by_cases h : room w (sgn w a + sgn w b + k)
    · have e : b01 (¬ room w (sgn w a + sgn w b + k)) = 0 := b01_0.mpr (fun z => z h)
      rw [if_neg (fun z => b01_0.mp z h), e]
      rfl
    · have e : b01 (¬ room w (sgn w a + sgn w b + k)) = 1 := if_pos h
      rw [if_pos (b01_0.mpr h), e]
      rfl
  unfold f_Mod_plus
  by_cases h : w = 0
  · have e : mkw w = 255 := if_pos h
    rw [if_pos h, e, ← e]
    simp only [f_Mod_plus_24, k32]
    by_cases h2 : a + b + k ≤ mkw w
    · rw [if_pos h2]; simp only [b01, h2, not_true, if_false]
    · rw [if_neg h2]; simp only [b01, h2, not_false_eq_true, if_true]
  · have e : mkw w = 65535 := if_neg h
    rw [if_neg h, e, ← e]
    simp only [f_Mod_plus_24, k32]
    by_cases h2 : a + b + k ≤ mkw w
    · rw [if_pos h2]; simp only [b01, h2, not_true, if_false]
    · rw [if_neg h2]; simp only [b01, h2, not_false_eq_true, if_true]
theorem less_eq (t : Sg) (a b k w : Int32) : f_Mod_less t a b k w = ((a - b - k) &&& mkw w, up2 t 15 4 (f4 (t 15 4) (b01 (¬ 0 ≤ (a - b - k))) (b01 (¬ room w (sgn w a - sgn w b - k))) (b01 ((a - b - k) &&& mkw w = 0)) (b01 (¬ (a - b - k) &&& hiw w = 0)))) := by
  have k67 : ∀ (s : Sg) (F x y : Int32), f_Mod_less_54 (up2 s 15 4 F) w x y 2048 = (x &&& mkw w, up2 s 15 4 (fop (fop (fop F 2048 y) 64 (b01 (x &&& mkw w = 0))) 128 (b01 (¬ x &&& hiw w = 0)))) := fun s F x y => by
    simp only [f_Mod_less_54, bnd, flag_up, zas_eq]
    by_cases h : w = 0
    · rw [if_pos h]; simp only [mkw, if_pos h]
    · rw [if_neg h]; simp only [mkw, if_neg h]
  have k32 : ∀ (x y : Int32), f_Mod_less_19 t a b k w x y 1 = (x &&& mkw w, up2 t 15 4 (f4 (t 15 4) y (b01 (¬ room w (sgn w a - sgn w b - k))) (b01 (x &&& mkw w = 0)) (b01 (¬ x &&& hiw w = 0)))) := fun x y => by
    simp only [f_Mod_less_19, bnd, flag_eq t, signed_eq, room_eq, k67]
    by_cases h : room w (sgn w a - sgn w b - k)
    · have e : b01 (¬ room w (sgn w a - sgn w b - k)) = 0 := b01_0.mpr (fun z => z h)
      rw [if_neg (fun z => b01_0.mp z h), e]
      rfl
    · have e : b01 (¬ room w (sgn w a - sgn w b - k)) = 1 := if_pos h
      rw [if_pos (b01_0.mpr h), e]
      rfl
  simp only [f_Mod_less, k32]
  by_cases h2 : 0 ≤ a - b - k
  · rw [if_pos h2]; simp only [b01, h2, not_true, if_false]
  · rw [if_neg h2]; simp only [b01, h2, not_false_eq_true, if_true]
theorem tlogic_eq (t : Sg) (v w : Int32) : f_Mod_logic t v w = (v, up2 t 15 4 (f4 (t 15 4) 0 0 (b01 (v &&& mkw w = 0)) (b01 (¬ v &&& hiw w = 0)))) := by
  simp only [f_Mod_logic, bnd, flag_eq t, flag_up, zas_eq, f4]
/-- the class's word -/
def mk4 (F C O Z S : Int32) : Int32 := (((F &&& 1536 ||| (if C = 0 then 0 else 1)) ||| (if Z = 0 then 0 else 64)) ||| (if S = 0 then 0 else 128)) ||| (if O = 0 then 0 else 2048)
theorem mark_eq (c : Sg) (r C sg w : Int32) : f_Fla_mark c r C sg w = up2 c 6 0 (mk4 (c 6 0) C (b01 (¬ sg &&& hiw w = 0)) (b01 (r = 0)) (b01 (¬ r &&& hiw w = 0))) := by
  have key : ∀ hh : Int32, f_Fla_mark_13 c r C sg hh = up2 c 6 0 (mk4 (c 6 0) C (b01 (¬ sg &&& hh = 0)) (b01 (r = 0)) (b01 (¬ r &&& hh = 0))) := fun hh => by
    simp only [f_Fla_mark_13, f_Fla_mark_36, f_Fla_mark_51, f_Fla_mark_70, bnd, mk4, b01]
    simp only [ite_not]
    have k1 : ¬ (1 : Int32) = 0 := by decide
    have k0 : (0 : Int32) = 0 := rfl
    by_cases h0 : C = 0
    all_goals by_cases h3 : r = 0
    all_goals by_cases h1 : r &&& hh = 0
    all_goals by_cases h2 : sg &&& hh = 0
    all_goals first | simp only [if_pos h0] | simp only [if_neg h0]
    all_goals first | simp only [if_pos h1] | simp only [if_neg h1]
    all_goals first | simp only [if_pos h2] | simp only [if_neg h2]
    all_goals first | simp only [if_pos h3] | simp only [if_neg h3]
    all_goals rfl
  unfold f_Fla_mark hiw
  by_cases h : w = 0
  · rw [if_pos h, if_pos h]; exact key 128
  · rw [if_neg h, if_neg h]; exact key 32768
theorem sum_eq (c : Sg) (a b k w : Int32) : f_Fla_sum c a b k w = ((a + b + k) &&& mkw w, up2 c 6 0 (mk4 (c 6 0) (b01 (¬ a + b + k = (a + b + k) &&& mkw w)) (b01 (¬ ((a ^^^ ((a + b + k) &&& mkw w)) &&& (b ^^^ ((a + b + k) &&& mkw w))) &&& hiw w = 0)) (b01 ((a + b + k) &&& mkw w = 0)) (b01 (¬ ((a + b + k) &&& mkw w) &&& hiw w = 0)))) := by
  have key : ∀ m : Int32, f_Fla_sum_22 c a b w (a + b + k) m (a + b + k) = ((a + b + k) &&& m, up2 c 6 0 (mk4 (c 6 0) (b01 (¬ a + b + k = (a + b + k) &&& m)) (b01 (¬ ((a ^^^ ((a + b + k) &&& m)) &&& (b ^^^ ((a + b + k) &&& m))) &&& hiw w = 0)) (b01 ((a + b + k) &&& m = 0)) (b01 (¬ ((a + b + k) &&& m) &&& hiw w = 0)))) := fun m => by
    simp only [f_Fla_sum_22, f_Fla_sum_40, bnd, mark_eq]
    by_cases h : a + b + k = (a + b + k) &&& m
    · rw [if_pos h]
      have e : b01 (¬ a + b + k = (a + b + k) &&& m) = 0 := b01_0.mpr (fun z => z h)
      rw [e]
    · rw [if_neg h]
      have e : b01 (¬ a + b + k = (a + b + k) &&& m) = 1 := if_pos h
      rw [e]
  unfold f_Fla_sum
  by_cases h : w = 0
  · rw [if_pos h, key]; simp only [mkw, if_pos h]
  · rw [if_neg h, key]; simp only [mkw, if_neg h]
theorem diff_eq (c : Sg) (a b k w : Int32) : f_Fla_difference c a b k w = ((a - b - k) &&& mkw w, up2 c 6 0 (mk4 (c 6 0) (b01 (¬ a - b - k = (a - b - k) &&& mkw w)) (b01 (¬ ((a ^^^ b) &&& (a ^^^ ((a - b - k) &&& mkw w))) &&& hiw w = 0)) (b01 ((a - b - k) &&& mkw w = 0)) (b01 (¬ ((a - b - k) &&& mkw w) &&& hiw w = 0)))) := by
  have key : ∀ m : Int32, f_Fla_difference_22 c a b w (a - b - k) m (a - b - k) = ((a - b - k) &&& m, up2 c 6 0 (mk4 (c 6 0) (b01 (¬ a - b - k = (a - b - k) &&& m)) (b01 (¬ ((a ^^^ b) &&& (a ^^^ ((a - b - k) &&& m))) &&& hiw w = 0)) (b01 ((a - b - k) &&& m = 0)) (b01 (¬ ((a - b - k) &&& m) &&& hiw w = 0)))) := fun m => by
    simp only [f_Fla_difference_22, f_Fla_difference_40, bnd, mark_eq]
    by_cases h : a - b - k = (a - b - k) &&& m
    · rw [if_pos h]
      have e : b01 (¬ a - b - k = (a - b - k) &&& m) = 0 := b01_0.mpr (fun z => z h)
      rw [e]
    · rw [if_neg h]
      have e : b01 (¬ a - b - k = (a - b - k) &&& m) = 1 := if_pos h
      rw [e]
  unfold f_Fla_difference
  by_cases h : w = 0
  · rw [if_pos h, key]; simp only [mkw, if_pos h]
  · rw [if_neg h, key]; simp only [mkw, if_neg h]
theorem clogic_eq (c : Sg) (v w : Int32) : f_Fla_logic c v w = (v, up2 c 6 0 (mk4 (c 6 0) 0 0 (b01 (v = 0)) (b01 (¬ v &&& hiw w = 0)))) := by
  simp only [f_Fla_logic, bnd, mark_eq]
  have e : b01 (¬ (0 : Int32) &&& hiw w = 0) = 0 := b01_0.mpr (fun z => z (by
    unfold hiw
    by_cases h : w = 0
    · rw [if_pos h]; decide
    · rw [if_neg h]; decide))
  rw [e]
