/-! both sides: right and left -/
theorem zq_frac {u v : Int} (hv : 1 ≤ v) : ∃ g : Int, 0 < g ∧ u = g * nU u v ∧ v = g * nD u v := by
  have hg := gcd_pos (a := u) (b := v) (by omega)
  obtain ⟨a, ha⟩ := Int.gcd_dvd_left u v
  obtain ⟨b, hb⟩ := Int.gcd_dvd_right u v
  have e1 : nU u v = a := by
    show u.tdiv (Int.gcd u v : Int) = a
    have : u.tdiv (Int.gcd u v : Int) = ((Int.gcd u v : Int) * a).tdiv (Int.gcd u v : Int) := by rw [← ha]
    rw [this]; exact Int.mul_tdiv_cancel_left a (by omega)
  have e2 : nD u v = b := by
    show v.tdiv (Int.gcd u v : Int) = b
    have : v.tdiv (Int.gcd u v : Int) = ((Int.gcd u v : Int) * b).tdiv (Int.gcd u v : Int) := by rw [← hb]
    rw [this]; exact Int.mul_tdiv_cancel_left b (by omega)
  exact ⟨(Int.gcd u v : Int), hg.1, by rw [e1]; exact ha, by rw [e2]; exact hb⟩
theorem zq_le {u v r : Int} (hv : 1 ≤ v) : nU u v ≤ r * nD u v ↔ u ≤ r * v := by
  obtain ⟨g, hg, ha, hb⟩ := zq_frac (u := u) hv
  have e : r * v = g * (r * nD u v) := by
    calc r * v = r * (g * nD u v) := by rw [← hb]
      _ = g * (r * nD u v) := by rw [← Int.mul_assoc, Int.mul_comm r g, Int.mul_assoc]
  constructor
  · intro h
    have h1 : g * nU u v ≤ g * (r * nD u v) := Int.mul_le_mul_of_nonneg_left h (by omega)
    rw [← ha, ← e] at h1
    exact h1
  · intro h
    by_cases c : nU u v ≤ r * nD u v
    · exact c
    · exfalso
      have h1 : g * (r * nD u v + 1) ≤ g * nU u v := Int.mul_le_mul_of_nonneg_left (by omega) (by omega)
      rw [Int.mul_add, Int.mul_one, ← ha, ← e] at h1
      omega
theorem zq_lev0 {M : MM} : ∀ n : Nat, (∀ k, k < n → LW M k) → sumZ (levF M (M 85 0 - 1)) n = 0 := by
  intro n
  induction n with
  | zero => intro _; rfl
  | succ n ih =>
    intro h
    have h1 := ih (fun k hk => h k (by omega))
    have h2 := h n (by omega)
    unfold LW at h2
    have h3 : levF M (M 85 0 - 1) n = 0 := if_neg (by omega)
    show sumZ (levF M (M 85 0 - 1)) n + levF M (M 85 0 - 1) n = 0
    omega
theorem zq_arr0 {M : MM} : ∀ n : Nat, (∀ k, k < n → LW M k) → sumZ (arrF M 0) n = 0 := by
  intro n
  induction n with
  | zero => intro _; rfl
  | succ n ih =>
    intro h
    have h1 := ih (fun k hk => h k (by omega))
    have h2 := h n (by omega)
    unfold LW at h2
    have h3 : arrF M 0 n = 0 := if_neg (by omega)
    show sumZ (arrF M 0) n + arrF M 0 n = 0
    omega
/-- the nets that are, alike -/
def zqN (M : MM) : Prop := M 1 0 = M 85 0 ∧ M 1 1 = M 86 0 ∧ ∀ k : Nat, (k : Int) < M 86 0 → zqS M k
theorem zq_bals {M : MM} (h : zqN M) (hw : WM M) (v : Int) : sumZ (balF M v) (M 1 1).toNat = sumZ (arrF M v) (M 86 0).toNat - sumZ (levF M v) (M 86 0).toNat := by
  have h0 := hw.2.1
  rw [h.2.1]
  exact zq_sums v _ (fun k hk => ⟨h.2.2 k (by omega), hw.2.2 k (by omega)⟩)
theorem zq_right {M : MM} (h : zqN M) (hw : WM M) : RGc M ↔ RG M := by
  have key : ∀ i : Nat, (i : Int) < M 86 0 → (M (3 + i) 6 ≤ M (3 + i) 2 * M (3 + i) 7 ↔ M 93 i ≤ M 89 i * M 94 i) := fun i hi => by
    have q := h.2.2 i hi
    have l := hw.2.2 i hi
    unfold zqS at q
    unfold LW at l
    rw [q.2.2.1, q.2.2.2.2.2.2.1, q.2.2.2.2.2.2.2]
    exact zq_le (by omega)
  have e0 := h.1
  have e1 := h.2.1
  constructor
  · intro r
    refine ⟨fun i hi => (key i hi).mp (r.1 i (by omega)), fun v h1 h2 => ?_⟩
    have s := r.2 v h1 (by omega)
    rw [zq_bals h hw] at s
    omega
  · intro r
    refine ⟨fun i hi => (key i (by omega)).mpr (r.1 i (by omega)), fun v h1 h2 => ?_⟩
    have s := r.2 v h1 (by omega)
    rw [zq_bals h hw]
    omega
/-- what is left at a post, by both -/
theorem zq_left {M : MM} (h : zqN M) (hw : WM M) {v s s' : Int} (h1 : (v = 0 ∧ s = sumZ (levF M 0) (M 86 0).toNat) ∨ (v ≠ 0 ∧ v = M 85 0 - 1 ∧ s = sumZ (arrF M v) (M 86 0).toNat) ∨ (v ≠ 0 ∧ v ≠ M 85 0 - 1 ∧ s = sumZ (arrF M v) (M 86 0).toNat - sumZ (levF M v) (M 86 0).toNat)) (h2 : (v = 0 ∧ s' = -(sumZ (balF M v) (M 1 1).toNat)) ∨ (v ≠ 0 ∧ s' = sumZ (balF M v) (M 1 1).toNat)) : s' = s := by
  have hb := zq_bals h hw v
  have h0 := hw.2.1
  have ha := zq_arr0 (M := M) (M 86 0).toNat (fun k hk => hw.2.2 k (by omega))
  have hl := zq_lev0 (M := M) (M 86 0).toNat (fun k hk => hw.2.2 k (by omega))
  rw [hb] at h2
  rcases h1 with ⟨c, d⟩ | ⟨c, c2, d⟩ | ⟨c, c2, d⟩
  · subst c
    omega
  · rw [← c2] at hl
    omega
  · omega
