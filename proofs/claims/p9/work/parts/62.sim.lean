/-! both sides: amounts -/
theorem zq_81 : ∀ a, a < 9 → ∀ b, b < 9 → (6350400 : Int).tdiv (((a + 1 : Nat) : Int) * ((b + 1 : Nat) : Int)) = (2520 : Int).tdiv ((a + 1 : Nat) : Int) * (2520 : Int).tdiv ((b + 1 : Nat) : Int) := by decide +kernel
theorem zq_split {v q : Int} (hv : 1 ≤ v ∧ v ≤ 9) (hq : 1 ≤ q ∧ q ≤ 9) : (6350400 : Int).tdiv (v * q) = (2520 : Int).tdiv v * (2520 : Int).tdiv q := by
  have h := zq_81 (v.toNat - 1) (by omega) (q.toNat - 1) (by omega)
  rw [show ((v.toNat - 1 + 1 : Nat) : Int) = v by omega, show ((q.toNat - 1 + 1 : Nat) : Int) = q by omega] at h
  exact h
theorem zq_split1 {v : Int} (hv : 1 ≤ v ∧ v ≤ 9) : (6350400 : Int).tdiv v = (2520 : Int).tdiv v * 2520 := by
  have h := zq_split hv (q := 1) (by omega)
  rw [Int.mul_one] at h
  exact h
theorem zq_2520 {v : Int} (hv : 1 ≤ v ∧ v ≤ 9) : ∃ t : Int, 2520 = v * t := by
  have : v = 1 ∨ v = 2 ∨ v = 3 ∨ v = 4 ∨ v = 5 ∨ v = 6 ∨ v = 7 ∨ v = 8 ∨ v = 9 := by omega
  rcases this with rfl | rfl | rfl | rfl | rfl | rfl | rfl | rfl | rfl
  · exact ⟨2520, rfl⟩
  · exact ⟨1260, rfl⟩
  · exact ⟨840, rfl⟩
  · exact ⟨630, rfl⟩
  · exact ⟨504, rfl⟩
  · exact ⟨420, rfl⟩
  · exact ⟨360, rfl⟩
  · exact ⟨315, rfl⟩
  · exact ⟨280, rfl⟩
/-- an amount in least terms counts as many parts as it did before -/
theorem zq_red {u v : Int} (hv : 1 ≤ v ∧ v ≤ 9) : nU u v * (2520 : Int).tdiv (nD u v) = u * (2520 : Int).tdiv v := by
  have hg := gcd_pos (a := u) (b := v) (by omega)
  obtain ⟨t, ht⟩ := zq_2520 hv
  obtain ⟨a, ha⟩ := Int.gcd_dvd_left u v
  obtain ⟨b, hb⟩ := Int.gcd_dvd_right u v
  have e1 : nU u v = a := by
    show u.tdiv (Int.gcd u v : Int) = a
    have : u.tdiv (Int.gcd u v : Int) = ((Int.gcd u v : Int) * a).tdiv (Int.gcd u v : Int) := by rw [← ha]
    rw [this]; exact Int.mul_tdiv_cancel_left a (by omega)
  have e2 : nD u v = b := by
    show v.tdiv (Int.gcd u v : Int) = b
    have : v.tdiv (Int.gcd u v : Int) = ((Int.gcd u v : Int) * b).tdiv (Int.gcd u v : Int) := by rw [← hb]
    rw [this]; exact Int.mul_tdiv_cancel_left b (by omega)
  have hb0 : b ≠ 0 := fun q => by rw [q, Int.mul_zero] at hb; omega
  have e3 : (2520 : Int).tdiv v = t := by rw [ht]; exact Int.mul_tdiv_cancel_left t (by omega)
  have e4 : (2520 : Int).tdiv b = (Int.gcd u v : Int) * t := by
    have : (2520 : Int) = b * ((Int.gcd u v : Int) * t) := by
      rw [ht]
      calc v * t = ((Int.gcd u v : Int) * b) * t := by rw [← hb]
        _ = b * ((Int.gcd u v : Int) * t) := by rw [Int.mul_comm (Int.gcd u v : Int) b, Int.mul_assoc]
    rw [this]; exact Int.mul_tdiv_cancel_left _ hb0
  rw [e1, e2, e3, e4]
  calc a * ((Int.gcd u v : Int) * t) = ((Int.gcd u v : Int) * a) * t := by rw [← Int.mul_assoc, Int.mul_comm a]
    _ = u * t := by rw [← ha]
/-- lane k is told alike on both sides -/
def zqS (M : MM) (k : Nat) : Prop := M (3 + k) 0 = M 87 k ∧ M (3 + k) 1 = M 88 k ∧ M (3 + k) 2 = M 89 k ∧ M (3 + k) 3 = M 90 k ∧ M (3 + k) 4 = M 91 k ∧ M (3 + k) 5 = M 92 k ∧ M (3 + k) 6 = nU (M 93 k) (M 94 k) ∧ M (3 + k) 7 = nD (M 93 k) (M 94 k)
theorem zq_term {M : MM} {k : Nat} (h : zqS M k) (hl : LW M k) (v : Int) : balF M v k = arrF M v k - levF M v k := by
  unfold LW at hl
  obtain ⟨h0, h1, _, h3, h4, _, h6, h7⟩ := h
  have hr := zq_red (u := M 93 k) (v := M 94 k) (by omega)
  have hs := zq_split (v := M 94 k) (q := M 91 k) (by omega) (by omega)
  have hs1 := zq_split1 (v := M 94 k) (by omega)
  unfold balF arrF levF
  rw [h0, h1, h3, h4, h6, h7, hr, hs, hs1]
  have e1 : M 93 k * (2520 : Int).tdiv (M 94 k) * M 90 k * (2520 : Int).tdiv (M 91 k) = (2520 : Int).tdiv (M 94 k) * (2520 : Int).tdiv (M 91 k) * M 93 k * M 90 k := by
    simp only [Int.mul_assoc, Int.mul_comm, Int.mul_left_comm]
  have e2 : M 93 k * (2520 : Int).tdiv (M 94 k) * 2520 = (2520 : Int).tdiv (M 94 k) * 2520 * M 93 k := by
    simp only [Int.mul_assoc, Int.mul_comm, Int.mul_left_comm]
  rw [e1, e2]
theorem zq_sums {M : MM} (v : Int) : ∀ n : Nat, (∀ k, k < n → zqS M k ∧ LW M k) → sumZ (balF M v) n = sumZ (arrF M v) n - sumZ (levF M v) n := by
  intro n
  induction n with
  | zero => intro _; rfl
  | succ n ih =>
    intro h
    have h1 := ih (fun k hk => h k (by omega))
    have h2 := zq_term (h n (by omega)).1 (h n (by omega)).2 v
    show sumZ (balF M v) n + balF M v n = (sumZ (arrF M v) n + arrF M v n) - (sumZ (levF M v) n + levF M v n)
    omega
