/-! sums of terms above 0, along a ratio a / b -/
def zmx (x : Int) : Int := if 0 < x then x else 0
theorem zmx_nn (x : Int) : 0 ≤ zmx x := by unfold zmx; split <;> omega
def zPf (W al be : Nat → Int) (n : Nat) (a b : Int) : Int := sumZ (fun i => W i * zmx (al i * a + be i * b)) n
def zcr (al be : Nat → Int) (i : Nat) : Prop := (0 < al i ∧ be i < 0) ∨ (al i < 0 ∧ 0 < be i)
def zab (x : Int) : Int := if 0 < x then x else -x
theorem zab_p {x : Int} (h : 0 < x) : zab x = x := if_pos h
theorem zab_n {x : Int} (h : x < 0) : zab x = -x := if_neg (by omega)
theorem zcr.pos {al be : Nat → Int} {i : Nat} (h : zcr al be i) : 0 < zab (al i) ∧ 0 < zab (be i) := by
  rcases h with ⟨h1, h2⟩ | ⟨h1, h2⟩
  · rw [zab_p h1, zab_n h2]; omega
  · rw [zab_n h1, zab_p h2]; omega
theorem zq_ftr {x1 y1 x2 y2 x3 y3 : Int} (hy1 : 0 ≤ y1) (hy2 : 0 < y2) (hy3 : 0 ≤ y3) (h12 : x1 * y2 ≤ x2 * y1) (h23 : x2 * y3 ≤ x3 * y2) : x1 * y3 ≤ x3 * y1 := by
  have a1 : x1 * y2 * y3 ≤ x2 * y1 * y3 := Int.mul_le_mul_of_nonneg_right h12 hy3
  have a2 : x2 * y3 * y1 ≤ x3 * y2 * y1 := Int.mul_le_mul_of_nonneg_right h23 hy1
  have e1 : x1 * y2 * y3 = x1 * y3 * y2 := Int.mul_right_comm _ _ _
  have e2 : x2 * y1 * y3 = x2 * y3 * y1 := Int.mul_right_comm _ _ _
  have e3 : x3 * y2 * y1 = x3 * y1 * y2 := Int.mul_right_comm _ _ _
  rw [e1, e2] at a1
  rw [e3] at a2
  exact Int.le_of_mul_le_mul_right (Int.le_trans a1 a2) hy2
/-- the nearest tie below 1, or 0 -/
theorem zq_lo (W al be : Nat → Int) : ∀ n : Nat, ∃ a b : Int, 0 ≤ a ∧ a < b ∧ (a = 0 ∨ ∃ i, i < n ∧ W i ≠ 0 ∧ zcr al be i ∧ al i * a + be i * b = 0) ∧ ∀ i, i < n → W i ≠ 0 → zcr al be i → zab (be i) < zab (al i) → zab (be i) * b ≤ a * zab (al i) := by
  intro n
  induction n with
  | zero => exact ⟨0, 1, Int.le_refl 0, by decide, Or.inl rfl, fun i hi => absurd hi (Nat.not_lt_zero i)⟩
  | succ n ih =>
    obtain ⟨a, b, h0, hab, hw, hall⟩ := ih
    have hw2 : a = 0 ∨ ∃ i, i < n + 1 ∧ W i ≠ 0 ∧ zcr al be i ∧ al i * a + be i * b = 0 := hw.elim Or.inl (fun ⟨i, q1, q2⟩ => Or.inr ⟨i, by omega, q2⟩)
    by_cases hc : W n ≠ 0 ∧ zcr al be n ∧ zab (be n) < zab (al n) ∧ a * zab (al n) < zab (be n) * b
    · obtain ⟨c1, c2, c3, c4⟩ := hc
      have hp := c2.pos
      refine ⟨zab (be n), zab (al n), by omega, c3, Or.inr ⟨n, by omega, c1, c2, ?_⟩, fun i hi w1 w2 w3 => ?_⟩
      · rcases c2 with ⟨q1, q2⟩ | ⟨q1, q2⟩
        · rw [zab_p q1, zab_n q2, Int.mul_neg, Int.mul_comm (al n)]; omega
        · rw [zab_n q1, zab_p q2, Int.mul_neg, Int.mul_comm (al n)]; omega
      · by_cases c : i = n
        · subst c; exact Int.le_refl _
        · have q := hall i (by omega) w1 w2 w3
          exact zq_ftr (y2 := b) (by have := w2.pos; omega) (by omega) (by omega) q (Int.le_of_lt c4)
    · refine ⟨a, b, h0, hab, hw2, fun i hi w1 w2 w3 => ?_⟩
      by_cases c : i = n
      · subst c
        have : ¬ a * zab (al i) < zab (be i) * b := fun q => hc ⟨w1, w2, w3, q⟩
        omega
      · exact hall i (by omega) w1 w2 w3
/-- the nearest tie above 1, if there is one -/
theorem zq_hi (W al be : Nat → Int) : ∀ n : Nat, (∀ i, i < n → W i ≠ 0 → zcr al be i → zab (be i) ≤ zab (al i)) ∨ ∃ a b : Int, 0 < b ∧ b < a ∧ (∃ i, i < n ∧ W i ≠ 0 ∧ zcr al be i ∧ al i * a + be i * b = 0) ∧ ∀ i, i < n → W i ≠ 0 → zcr al be i → zab (al i) < zab (be i) → a * zab (al i) ≤ zab (be i) * b := by
  intro n
  induction n with
  | zero => exact Or.inl (fun i hi => absurd hi (Nat.not_lt_zero i))
  | succ n ih =>
    by_cases hc : W n ≠ 0 ∧ zcr al be n ∧ zab (al n) < zab (be n)
    · obtain ⟨c1, c2, c3⟩ := hc
      have hp := c2.pos
      have hz : al n * zab (be n) + be n * zab (al n) = 0 := by
        rcases c2 with ⟨q1, q2⟩ | ⟨q1, q2⟩
        · rw [zab_p q1, zab_n q2, Int.mul_neg, Int.mul_comm (al n)]; omega
        · rw [zab_n q1, zab_p q2, Int.mul_neg, Int.mul_comm (al n)]; omega
      right
      rcases ih with hno | ⟨a, b, h0, hab, ⟨i0, j1, j2⟩, hall⟩
      · refine ⟨zab (be n), zab (al n), hp.1, c3, ⟨n, by omega, c1, c2, hz⟩, fun i hi w1 w2 w3 => ?_⟩
        by_cases c : i = n
        · subst c; exact Int.le_refl _
        · have := hno i (by omega) w1 w2; omega
      · by_cases c4 : zab (be n) * b < a * zab (al n)
        · refine ⟨zab (be n), zab (al n), hp.1, c3, ⟨n, by omega, c1, c2, hz⟩, fun i hi w1 w2 w3 => ?_⟩
          by_cases c : i = n
          · subst c; exact Int.le_refl _
          · have q := hall i (by omega) w1 w2 w3
            exact zq_ftr (y2 := b) (by omega) h0 (by have := w2.pos; omega) (Int.le_of_lt c4) q
        · refine ⟨a, b, h0, hab, ⟨i0, by omega, j2⟩, fun i hi w1 w2 w3 => ?_⟩
          by_cases c : i = n
          · subst c; omega
          · exact hall i (by omega) w1 w2 w3
    · rcases ih with hno | ⟨a, b, h0, hab, ⟨i0, j1, j2⟩, hall⟩
      · left
        intro i hi w1 w2
        by_cases c : i = n
        · subst c
          have : ¬ zab (al i) < zab (be i) := fun q => hc ⟨w1, w2, q⟩
          omega
        · exact hno i (by omega) w1 w2
      · right
        refine ⟨a, b, h0, hab, ⟨i0, by omega, j2⟩, fun i hi w1 w2 w3 => ?_⟩
        by_cases c : i = n
        · subst c; exact absurd ⟨w1, w2, w3⟩ hc
        · exact hall i (by omega) w1 w2 w3
/-- between the ties no term turns -/
theorem zq_sgn {W al be : Nat → Int} {n : Nat} {a b : Int} (ha : 0 ≤ a) (hb : 0 < b) (hq : ∀ i, i < n → W i = 0 ∨ al i = 0 ∨ be i = 0 ∨ (zcr al be i ∧ al i + be i ≠ 0)) (h1 : ∀ i, i < n → W i ≠ 0 → zcr al be i → zab (be i) < zab (al i) → zab (be i) * b ≤ a * zab (al i)) (h2 : ∀ i, i < n → W i ≠ 0 → zcr al be i → zab (al i) < zab (be i) → a * zab (al i) ≤ zab (be i) * b) {i : Nat} (hi : i < n) (hw : W i ≠ 0) : (0 < al i + be i → 0 ≤ al i * a + be i * b) ∧ (¬ 0 < al i + be i → al i * a + be i * b ≤ 0) := by
  rcases hq i hi with q | q | q | ⟨q, qn⟩
  · exact absurd q hw
  · rw [q, Int.zero_mul, Int.zero_add, Int.zero_add]
    exact ⟨fun r => Int.mul_nonneg (by omega) (by omega), fun r => Int.mul_nonpos_of_nonpos_of_nonneg (by omega) (by omega)⟩
  · rw [q, Int.zero_mul, Int.add_zero, Int.add_zero]
    exact ⟨fun r => Int.mul_nonneg (by omega) ha, fun r => Int.mul_nonpos_of_nonpos_of_nonneg (by omega) ha⟩
  · have k1 := h1 i hi hw q
    have k2 := h2 i hi hw q
    rcases q with ⟨q1, q2⟩ | ⟨q1, q2⟩
    · rw [zab_p q1, zab_n q2, Int.neg_mul, Int.mul_comm a] at k1 k2
      exact ⟨fun r => by have := k1 (by omega); omega, fun r => by have := k2 (by omega); omega⟩
    · rw [zab_n q1, zab_p q2, Int.mul_neg, Int.mul_comm a] at k1 k2
      exact ⟨fun r => by have := k2 (by omega); omega, fun r => by have := k1 (by omega); omega⟩
def zsA (W al be : Nat → Int) (n : Nat) : Int := sumZ (fun i => if 0 < al i + be i then W i * al i else 0) n
def zsB (W al be : Nat → Int) (n : Nat) : Int := sumZ (fun i => if 0 < al i + be i then W i * be i else 0) n
theorem zq_lin {W al be : Nat → Int} {a b : Int} : ∀ n : Nat, (∀ i, i < n → W i ≠ 0 → (0 < al i + be i → 0 ≤ al i * a + be i * b) ∧ (¬ 0 < al i + be i → al i * a + be i * b ≤ 0)) → zPf W al be n a b = zsA W al be n * a + zsB W al be n * b := by
  intro n
  induction n with
  | zero => intro _; show (0 : Int) = 0 * a + 0 * b; omega
  | succ n ih =>
    intro h
    have h1 := ih (fun i hi => h i (by omega))
    have e : W n * zmx (al n * a + be n * b) = (if 0 < al n + be n then W n * al n else 0) * a + (if 0 < al n + be n then W n * be n else 0) * b := by
      by_cases c0 : W n = 0
      · rw [c0, Int.zero_mul, Int.zero_mul, Int.zero_mul]
        split <;> omega
      · have q := h n (by omega) c0
        by_cases c : 0 < al n + be n
        · rw [if_pos c, if_pos c]
          have q1 := q.1 c
          have ez : zmx (al n * a + be n * b) = al n * a + be n * b := by
            unfold zmx
            split <;> omega
          rw [ez, Int.mul_add, Int.mul_assoc, Int.mul_assoc]
        · rw [if_neg c, if_neg c]
          have q1 := q.2 c
          have ez : zmx (al n * a + be n * b) = 0 := if_neg (by omega)
          rw [ez, Int.mul_zero]
          omega
    show zPf W al be n a b + W n * zmx (al n * a + be n * b) = (zsA W al be n + (if 0 < al n + be n then W n * al n else 0)) * a + (zsB W al be n + (if 0 < al n + be n then W n * be n else 0)) * b
    rw [h1, e, Int.add_mul, Int.add_mul]
    omega
theorem zPf_nn {W al be : Nat → Int} {a b : Int} : ∀ n : Nat, (∀ i, i < n → 0 ≤ W i) → 0 ≤ zPf W al be n a b := by
  intro n
  induction n with
  | zero => intro _; exact Int.le_refl 0
  | succ n ih =>
    intro h
    have h1 := ih (fun i hi => h i (by omega))
    have h2 := Int.mul_nonneg (h n (by omega)) (zmx_nn (al n * a + be n * b))
    show 0 ≤ zPf W al be n a b + W n * zmx (al n * a + be n * b)
    omega
/-- along a ratio the sum can be brought to a tie, or to 0, without growing -/
theorem zq_pl {W al be : Nat → Int} {n : Nat} (hW : ∀ i, i < n → 0 ≤ W i) (hq : ∀ i, i < n → W i = 0 ∨ al i = 0 ∨ be i = 0 ∨ (zcr al be i ∧ al i + be i ≠ 0)) : ∃ a b : Int, 0 ≤ a ∧ 0 < b ∧ zPf W al be n a b ≤ zPf W al be n 1 1 * b ∧ (a = 0 ∨ (0 < a ∧ ∃ i, i < n ∧ W i ≠ 0 ∧ zcr al be i ∧ al i * a + be i * b = 0)) := by
  have h11 : zPf W al be n 1 1 = zsA W al be n * 1 + zsB W al be n * 1 := by
    refine zq_lin n (fun i hi hw => zq_sgn (a := 1) (b := 1) (by decide) (by decide) hq ?_ ?_ hi hw)
    · intro j _ _ _ q; omega
    · intro j _ _ _ q; omega
  have key : ∀ a b : Int, 0 ≤ a → 0 < b → (∀ i, i < n → W i ≠ 0 → zcr al be i → zab (be i) < zab (al i) → zab (be i) * b ≤ a * zab (al i)) → (∀ i, i < n → W i ≠ 0 → zcr al be i → zab (al i) < zab (be i) → a * zab (al i) ≤ zab (be i) * b) → zPf W al be n a b = zsA W al be n * a + zsB W al be n * b := fun a b ha hb h1 h2 => zq_lin n (fun i hi hw => zq_sgn ha hb hq h1 h2 hi hw)
  rw [h11, Int.mul_one, Int.mul_one]
  by_cases hs : 0 ≤ zsA W al be n
  · obtain ⟨a, b, h0, hab, hw, hall⟩ := zq_lo W al be n
    refine ⟨a, b, h0, by omega, ?_, ?_⟩
    · rw [key a b h0 (by omega) hall (fun i _ _ w2 w3 => ?_), Int.add_mul]
      · have : zsA W al be n * a ≤ zsA W al be n * b := Int.mul_le_mul_of_nonneg_left (by omega) hs
        omega
      · have hp := w2.pos
        have y1 : a * zab (al i) ≤ b * zab (al i) := Int.mul_le_mul_of_nonneg_right (by omega) (by omega)
        have y2 : b * zab (al i) ≤ b * zab (be i) := Int.mul_le_mul_of_nonneg_left (by omega) (by omega)
        rw [Int.mul_comm (zab (be i)) b]
        omega
    · by_cases c : a = 0
      · exact Or.inl c
      · exact Or.inr ⟨by omega, hw.resolve_left c⟩
  · rcases zq_hi W al be n with hno | ⟨a, b, h0, hab, hw, hall⟩
    · exfalso
      have hnn : ∀ t : Int, 1 ≤ t → 0 ≤ zsA W al be n * t + zsB W al be n := fun t ht => by
        have e := key t 1 (by omega) (by decide) (fun i _ _ w2 w3 => ?_) (fun i hi w1 w2 w3 => by have := hno i hi w1 w2; omega)
        · rw [Int.mul_one] at e
          rw [← e]
          exact zPf_nn n hW
        · have hp := w2.pos
          have y1 : 1 * zab (al i) ≤ t * zab (al i) := Int.mul_le_mul_of_nonneg_right ht (by omega)
          omega
      have g1 := hnn 1 (by decide)
      have g2 := hnn (zsB W al be n + 1) (by omega)
      have g3 : zsA W al be n * (zsB W al be n + 1) ≤ (-1) * (zsB W al be n + 1) := Int.mul_le_mul_of_nonneg_right (by omega) (by omega)
      omega
    · refine ⟨a, b, by omega, h0, ?_, Or.inr ⟨by omega, hw⟩⟩
      rw [key a b (by omega) h0 (fun i _ _ w2 w3 => ?_) hall, Int.add_mul]
      · have : (-(zsA W al be n)) * b ≤ (-(zsA W al be n)) * a := Int.mul_le_mul_of_nonneg_left (by omega) (by omega)
        rw [Int.neg_mul, Int.neg_mul] at this
        omega
      · have hp := w2.pos
        have y1 : b * zab (be i) ≤ b * zab (al i) := Int.mul_le_mul_of_nonneg_left (by omega) (by omega)
        have y2 : b * zab (al i) ≤ a * zab (al i) := Int.mul_le_mul_of_nonneg_right (by omega) (by omega)
        rw [Int.mul_comm (zab (be i)) b]
        omega
