/-! a plane's row: at most one place above 0, at most one below; minors -/
def zRS (r : Nat → Int) : Prop := (∀ j, 1 ≤ j → j < 5 → -9 ≤ r j ∧ r j ≤ 17) ∧ ∀ j k, 1 ≤ j → j < k → k < 5 → (0 ≤ r j ∧ r k ≤ 0) ∨ (r j ≤ 0 ∧ 0 ≤ r k)
theorem zRS.unit {r : Nat → Int} {u : Nat} (h : zqU r u) : zRS r := by
  refine ⟨fun j _ h2 => ?_, fun j k h1 h2 h3 => ?_⟩
  · rw [h j h2]
    by_cases c : j = u
    · rw [if_pos c]; omega
    · rw [if_neg c]; omega
  · rw [h j (by omega), h k h3]
    by_cases c : j = u
    · rw [if_pos c, if_neg (by omega)]; omega
    · rw [if_neg c]
      by_cases c2 : k = u
      · rw [if_pos c2]; omega
      · rw [if_neg c2]; omega
theorem zRS.lane {M0 : MM} {r : Nat → Int} {a : Nat} (h : zqL M0 r a) (hl : ZPL M0 a) : zRS r := by
  unfold ZPL at hl
  have key : ∀ j, j < 5 → (r j = -(M0 26 a) ∧ j = (M0 22 a).toNat) ∨ (r j = M0 25 a ∧ j ≠ (M0 22 a).toNat ∧ j = (M0 23 a).toNat) ∨ r j = 0 := fun j hj => by
    rw [h j hj]
    by_cases c : j = (M0 22 a).toNat
    · rw [if_pos c]; exact Or.inl ⟨rfl, c⟩
    · rw [if_neg c]
      by_cases c2 : j = (M0 23 a).toNat
      · rw [if_pos c2]; exact Or.inr (Or.inl ⟨rfl, c, c2⟩)
      · rw [if_neg c2]; exact Or.inr (Or.inr rfl)
  refine ⟨fun j _ h2 => ?_, fun j k h1 h2 h3 => ?_⟩
  · have := key j h2; omega
  · have q1 := key j (by omega)
    have q2 := key k h3
    omega
theorem zq_opp {x y z w : Int} (hx : 0 ≤ x ∧ x ≤ 17) (hy : 0 ≤ y ∧ y ≤ 9) (hz : 0 ≤ z ∧ z ≤ 17) (hw : 0 ≤ w ∧ w ≤ 9) : (0 ≤ x * z ∧ x * z ≤ 289) ∧ (0 ≤ y * w ∧ y * w ≤ 81) ∧ (0 ≤ x * w ∧ x * w ≤ 153) ∧ (0 ≤ y * z ∧ y * z ≤ 153) := by
  have h1 := mul_bd hx hz
  have h2 := mul_bd hy hw
  have h3 := mul_bd hx hw
  have h4 := mul_bd hy hz
  omega
/-- a 2 x 2 minor of two such rows -/
theorem zq_minor {x y z w : Int} (hx : -9 ≤ x ∧ x ≤ 17) (hy : -9 ≤ y ∧ y ≤ 17) (hz : -9 ≤ z ∧ z ≤ 17) (hw : -9 ≤ w ∧ w ≤ 17) (h1 : (0 ≤ x ∧ y ≤ 0) ∨ (x ≤ 0 ∧ 0 ≤ y)) (h2 : (0 ≤ z ∧ w ≤ 0) ∨ (z ≤ 0 ∧ 0 ≤ w)) : -289 ≤ x * w - y * z ∧ x * w - y * z ≤ 289 := by
  rcases h1 with h1 | h1
  · rcases h2 with h2 | h2
    · have q := zq_opp (x := x) (y := -y) (z := z) (w := -w) (by omega) (by omega) (by omega) (by omega)
      have e1 : x * -w = -(x * w) := Int.mul_neg x w
      have e2 : -y * z = -(y * z) := Int.neg_mul y z
      rw [e1, e2] at q
      omega
    · have q := zq_opp (x := x) (y := -y) (z := w) (w := -z) (by omega) (by omega) (by omega) (by omega)
      have e1 : -y * -z = y * z := Int.neg_mul_neg y z
      rw [e1] at q
      omega
  · rcases h2 with h2 | h2
    · have q := zq_opp (x := y) (y := -x) (z := z) (w := -w) (by omega) (by omega) (by omega) (by omega)
      have e1 : -x * -w = x * w := Int.neg_mul_neg x w
      rw [e1] at q
      omega
    · have q := zq_opp (x := y) (y := -x) (z := w) (w := -z) (by omega) (by omega) (by omega) (by omega)
      have e1 : y * -z = -(y * z) := Int.mul_neg y z
      have e2 : -x * w = -(x * w) := Int.neg_mul x w
      rw [e1, e2] at q
      omega
theorem zRS.minor {a b : Nat → Int} (ha : zRS a) (hb : zRS b) {j k : Nat} (h1 : 1 ≤ j) (h2 : j < k) (h3 : k < 5) : -289 ≤ a j * b k - a k * b j ∧ a j * b k - a k * b j ≤ 289 :=
  zq_minor (ha.1 j h1 (by omega)) (ha.1 k (by omega) h3) (hb.1 j h1 (by omega)) (hb.1 k (by omega) h3) (ha.2 j k h1 h2 h3) (hb.2 j k h1 h2 h3)
theorem zq_one {x m : Int} (hm : -289 ≤ m ∧ m ≤ 289) : (0 ≤ x → -(289 * x) ≤ x * m ∧ x * m ≤ 289 * x) ∧ (x ≤ 0 → 289 * x ≤ x * m ∧ x * m ≤ -(289 * x)) := by
  refine ⟨fun hx => ?_, fun hx => ?_⟩
  · have h1 : x * m ≤ x * 289 := Int.mul_le_mul_of_nonneg_left hm.2 hx
    have h2 : x * (-289) ≤ x * m := Int.mul_le_mul_of_nonneg_left hm.1 hx
    omega
  · have h1 : -x * m ≤ -x * 289 := Int.mul_le_mul_of_nonneg_left hm.2 (by omega)
    have h2 : -x * (-289) ≤ -x * m := Int.mul_le_mul_of_nonneg_left hm.1 (by omega)
    have e : -x * m = -(x * m) := Int.neg_mul x m
    rw [e] at h1 h2
    omega
/-- three places of such a row against three minors -/
theorem zq_three {x y z p q r : Int} (hx : -9 ≤ x ∧ x ≤ 17) (hy : -9 ≤ y ∧ y ≤ 17) (hz : -9 ≤ z ∧ z ≤ 17) (h1 : (0 ≤ x ∧ y ≤ 0) ∨ (x ≤ 0 ∧ 0 ≤ y)) (h2 : (0 ≤ x ∧ z ≤ 0) ∨ (x ≤ 0 ∧ 0 ≤ z)) (h3 : (0 ≤ y ∧ z ≤ 0) ∨ (y ≤ 0 ∧ 0 ≤ z)) (hp : -289 ≤ p ∧ p ≤ 289) (hq : -289 ≤ q ∧ q ≤ 289) (hr : -289 ≤ r ∧ r ≤ 289) : ∃ A : Int, A ≤ 7514 ∧ -A ≤ x * p + y * q + z * r ∧ x * p + y * q + z * r ≤ A ∧ -A ≤ x * p - y * q + z * r ∧ x * p - y * q + z * r ≤ A ∧ -A ≤ x * p - y * q - z * r ∧ x * p - y * q - z * r ≤ A := by
  have a1 := zq_one (x := x) hp
  have a2 := zq_one (x := y) hq
  have a3 := zq_one (x := z) hr
  have b1 : ∃ X : Int, -X ≤ x * p ∧ x * p ≤ X ∧ ((0 ≤ x ∧ X = 289 * x) ∨ (x ≤ 0 ∧ X = -(289 * x))) := by
    rcases Int.le_total 0 x with c | c
    · exact ⟨289 * x, (a1.1 c).1, (a1.1 c).2, Or.inl ⟨c, rfl⟩⟩
    · exact ⟨-(289 * x), by have := a1.2 c; omega, (a1.2 c).2, Or.inr ⟨c, rfl⟩⟩
  have b2 : ∃ X : Int, -X ≤ y * q ∧ y * q ≤ X ∧ ((0 ≤ y ∧ X = 289 * y) ∨ (y ≤ 0 ∧ X = -(289 * y))) := by
    rcases Int.le_total 0 y with c | c
    · exact ⟨289 * y, (a2.1 c).1, (a2.1 c).2, Or.inl ⟨c, rfl⟩⟩
    · exact ⟨-(289 * y), by have := a2.2 c; omega, (a2.2 c).2, Or.inr ⟨c, rfl⟩⟩
  have b3 : ∃ X : Int, -X ≤ z * r ∧ z * r ≤ X ∧ ((0 ≤ z ∧ X = 289 * z) ∨ (z ≤ 0 ∧ X = -(289 * z))) := by
    rcases Int.le_total 0 z with c | c
    · exact ⟨289 * z, (a3.1 c).1, (a3.1 c).2, Or.inl ⟨c, rfl⟩⟩
    · exact ⟨-(289 * z), by have := a3.2 c; omega, (a3.2 c).2, Or.inr ⟨c, rfl⟩⟩
  obtain ⟨X, c1, c2, c3⟩ := b1
  obtain ⟨Y, d1, d2, d3⟩ := b2
  obtain ⟨Z, f1, f2, f3⟩ := b3
  refine ⟨X + Y + Z, ?_, by omega, by omega, by omega, by omega, by omega, by omega⟩
  omega
