def w2 (M : MM) (x y : Int) : MM := up2 (up2 M 84 15 x) 84 16 y
theorem w2_self (M : MM) : w2 M (M 84 15) (M 84 16) = M := by
  funext c k
  unfold w2 up2
  by_cases h : c = 84
  · subst h
    by_cases h2 : k = 16
    · subst h2; simp
    · by_cases h3 : k = 15
      · subst h3; simp
      · simp [h2, h3]
  · simp [h]
theorem w2_w2 (M : MM) (x y x' y' : Int) : up2 (up2 (w2 M x y) 84 15 x') 84 16 y' = w2 M x' y' := by
  funext c k
  unfold w2 up2
  by_cases h : c = 84
  · subst h
    by_cases h2 : k = 16
    · subst h2; simp
    · by_cases h3 : k = 15
      · subst h3; simp
      · simp [h2, h3]
  · simp [h]
theorem nUD_mul {a b : Int} (hb : 0 < b) : nU a b * b = a * nD a b := by
  obtain ⟨h1, h2⟩ := nUD (a := a) hb
  generalize (Int.gcd a b : Int) = g at h1 h2
  generalize hu : nU a b = u at h1 h2 ⊢
  generalize hd : nD a b = d at h1 h2 ⊢
  rw [h1, h2, ← Int.mul_assoc, Int.mul_comm u g]
/-- the sum of two fractions over one lower number, as the reference makes it -/
theorem fr_add {S N D a b u w g : Int} (hD : 0 < D) (ha : a = nU S D) (hb : b = nD S D) (hu : u = nU N D) (hw : w = nD N D) (hg : g = (Int.gcd b w : Int)) : 0 < b.tdiv g * w ∧ b.tdiv g * w ≤ D ∧ (a * w.tdiv g + u * b.tdiv g) * D = (S + N) * (b.tdiv g * w) := by
  have hb0 : 0 < b := by rw [hb]; exact (nD_bd hD).1
  have hw0 : 0 < w := by rw [hw]; exact (nD_bd hD).1
  have hg0 : 0 < g := by rw [hg]; exact (gcd_pos hw0).1
  obtain ⟨b', eb⟩ : g ∣ b := by rw [hg]; exact Int.gcd_dvd_left _ _
  obtain ⟨w', ew⟩ : g ∣ w := by rw [hg]; exact Int.gcd_dvd_right _ _
  have tb : b.tdiv g = b' := by rw [eb]; exact Int.mul_tdiv_cancel_left b' (by omega)
  have tw : w.tdiv g = w' := by rw [ew]; exact Int.mul_tdiv_cancel_left w' (by omega)
  have hb1 : 0 < b' := by
    rcases Int.lt_or_le 0 b' with q | q
    · exact q
    · have := Int.mul_nonpos_of_nonneg_of_nonpos (a := g) (b := b') (by omega) q; omega
  have hY : 0 < b' * w := Int.mul_pos hb1 hw0
  have hdb : b ∣ D := by rw [hb]; exact nD_dvd hD
  have hdw : w ∣ D := by rw [hw]; exact nD_dvd hD
  have hl : b' * w ∣ D := by
    have h1 : Int.lcm b w ∣ D.natAbs := by
      exact Nat.lcm_dvd (Int.natAbs_dvd_natAbs.mpr hdb) (Int.natAbs_dvd_natAbs.mpr hdw)
    have h2 : Int.gcd b w * Int.lcm b w = b.natAbs * w.natAbs := Int.gcd_mul_lcm b w
    have h3 : ((Int.gcd b w * Int.lcm b w : Nat) : Int) = b * w := by
      rw [h2]
      push_cast
      rw [Int.ofNat_natAbs_of_nonneg (by omega), Int.ofNat_natAbs_of_nonneg (by omega)]
    push_cast at h3
    rw [← hg, eb, Int.mul_assoc] at h3
    have h4 : (Int.lcm (g * b') w : Int) = b' * w := Int.eq_of_mul_eq_mul_left (by omega) h3
    rw [← h4, ← eb]
    have h5 : (Int.lcm b w : Int) ∣ (D.natAbs : Int) := Int.ofNat_dvd.mpr h1
    rwa [Int.ofNat_natAbs_of_nonneg (by omega)] at h5
  have hle := Int.le_of_dvd hD hl
  rw [tb, tw]
  refine ⟨hY, hle, ?_⟩
  have e1 : a * D = S * b := by rw [ha, hb]; exact nUD_mul hD
  have e2 : u * D = N * w := by rw [hu, hw]; exact nUD_mul hD
  have e3 : b * w' = b' * w := by rw [eb, ew, Int.mul_comm g b', Int.mul_assoc]
  calc (a * w' + u * b') * D = (a * D) * w' + (u * D) * b' := by rw [Int.add_mul, Int.mul_right_comm, Int.mul_right_comm u]
    _ = S * (b * w') + N * (b' * w) := by rw [e1, e2, Int.mul_assoc, Int.mul_assoc, Int.mul_comm w b']
    _ = (S + N) * (b' * w) := by rw [e3, Int.add_mul]
def pz (M : MM) (Q : Int) (v : Nat) : Int := M 103 v * (Q / M 104 v)
def dT (M : MM) (Q : Int) (k : Nat) : Int := M 99 k * pz M Q (M 88 k).toNat - M 100 k * pz M Q (M 87 k).toNat
def wT (M : MM) (Q : Int) (k : Nat) : Int := if 0 < dT M Q k then M 101 k * (2520 / M 100 k) * dT M Q k else 0
abbrev WS (M : MM) (Q : Int) (n : Nat) : Int := sumZ (wT M Q) n
theorem d2520 {q : Int} (h : 1 ≤ q ∧ q ≤ 9) : 2520 / q * q = 2520 ∧ 1 ≤ 2520 / q ∧ 2520 / q ≤ 2520 := by
  have : q = 1 ∨ q = 2 ∨ q = 3 ∨ q = 4 ∨ q = 5 ∨ q = 6 ∨ q = 7 ∨ q = 8 ∨ q = 9 := by omega
  rcases this with rfl | rfl | rfl | rfl | rfl | rfl | rfl | rfl | rfl <;> decide
/-- prices that have a common lower number Q -/
def PRQ (M : MM) (Q : Int) : Prop := (1 ≤ Q ∧ Q ≤ 4913) ∧ ∀ x : Nat, (x : Int) < M 85 0 → 0 ≤ M 103 x ∧ M 103 x ≤ 4913 ∧ 1 ≤ M 104 x ∧ M 104 x ≤ 4913 ∧ M 104 x ∣ Q
theorem PRQ.pp {M : MM} {Q : Int} (h : PRQ M Q) {x : Nat} (hx : (x : Int) < M 85 0) : pz M Q x * M 104 x = M 103 x * Q ∧ 0 ≤ pz M Q x ∧ pz M Q x ≤ 4913 * 4913 := by
  obtain ⟨h1, h2, h3, h4, h5⟩ := h.2 x hx
  have e : Q / M 104 x * M 104 x = Q := Int.ediv_mul_cancel h5
  have e2 : 0 ≤ Q / M 104 x ∧ Q / M 104 x ≤ Q := ⟨Int.ediv_nonneg (by have := h.1; omega) (by omega), Int.ediv_le_self _ (by have := h.1; omega)⟩
  have e3 := mul_bd (a := M 103 x) (b := Q / M 104 x) (A := 4913) (B := 4913) ⟨h1, h2⟩ ⟨e2.1, by have := h.1; omega⟩
  unfold pz
  exact ⟨by rw [Int.mul_assoc, e], e3⟩
theorem wT_c {M : MM} {Q : Int} (h : PRQ M Q) {i : Nat} (ht : 0 ≤ M 88 i ∧ M 88 i < M 85 0) (hf : 0 ≤ M 87 i ∧ M 87 i < M 85 0) (hs : 0 ≤ M 99 i ∧ M 99 i ≤ 17) (hq : 1 ≤ M 100 i ∧ M 100 i ≤ 9) (hr : 0 ≤ M 101 i ∧ M 101 i ≤ 100) : dT M Q i * (M 104 (M 88 i).toNat * M 104 (M 87 i).toNat) = Q * (((M 99 i * M 103 (M 88 i).toNat) * M 104 (M 87 i).toNat) - ((M 103 (M 87 i).toNat * M 100 i) * M 104 (M 88 i).toNat)) ∧ (0 ≤ wT M Q i ∧ wT M Q i ≤ 103407943176 * 1000) ∧ (((((M 99 i * M 103 (M 88 i).toNat) * M 104 (M 87 i).toNat) - ((M 103 (M 87 i).toNat * M 100 i) * M 104 (M 88 i).toNat)) ≤ 0 ∨ M 101 i = 0) → wT M Q i = 0) ∧ (0 < (((M 99 i * M 103 (M 88 i).toNat) * M 104 (M 87 i).toNat) - ((M 103 (M 87 i).toNat * M 100 i) * M 104 (M 88 i).toNat)) → ((((M 99 i * M 103 (M 88 i).toNat) * M 104 (M 87 i).toNat) - ((M 103 (M 87 i).toNat * M 100 i) * M 104 (M 88 i).toNat)) * M 101 i) * (2520 * Q) = wT M Q i * (M 100 i * M 104 (M 88 i).toNat * M 104 (M 87 i).toNat)) := by
  have pt := h.pp (x := (M 88 i).toNat) (by omega)
  have pf := h.pp (x := (M 87 i).toNat) (by omega)
  have bt := h.2 (M 88 i).toNat (by omega)
  have bf := h.2 (M 87 i).toNat (by omega)
  have hQ := h.1
  have e1 : dT M Q i * (M 104 (M 88 i).toNat * M 104 (M 87 i).toNat) = Q * (((M 99 i * M 103 (M 88 i).toNat) * M 104 (M 87 i).toNat) - ((M 103 (M 87 i).toNat * M 100 i) * M 104 (M 88 i).toNat)) := by
    unfold dT
    have x1 : M 99 i * pz M Q (M 88 i).toNat * (M 104 (M 88 i).toNat * M 104 (M 87 i).toNat) = M 99 i * (M 103 (M 88 i).toNat * Q) * M 104 (M 87 i).toNat := by rw [← pt.1]; simp only [Int.mul_assoc, Int.mul_left_comm, Int.mul_comm]
    have x2 : M 100 i * pz M Q (M 87 i).toNat * (M 104 (M 88 i).toNat * M 104 (M 87 i).toNat) = M 100 i * (M 103 (M 87 i).toNat * Q) * M 104 (M 88 i).toNat := by rw [← pf.1]; simp only [Int.mul_assoc, Int.mul_left_comm, Int.mul_comm]
    rw [Int.sub_mul, x1, x2, Int.mul_sub]
    simp only [Int.mul_assoc, Int.mul_left_comm, Int.mul_comm]
  have pp : 0 < M 104 (M 88 i).toNat * M 104 (M 87 i).toNat := Int.mul_pos (by omega) (by omega)
  have sgn : 0 < dT M Q i ↔ 0 < (((M 99 i * M 103 (M 88 i).toNat) * M 104 (M 87 i).toNat) - ((M 103 (M 87 i).toNat * M 100 i) * M 104 (M 88 i).toNat)) := by
    constructor
    · intro q
      have := Int.mul_pos q pp
      rw [e1] at this
      rcases Int.lt_or_le 0 (((M 99 i * M 103 (M 88 i).toNat) * M 104 (M 87 i).toNat) - ((M 103 (M 87 i).toNat * M 100 i) * M 104 (M 88 i).toNat)) with c | c
      · exact c
      · have := Int.mul_nonpos_of_nonneg_of_nonpos (a := Q) (b := (((M 99 i * M 103 (M 88 i).toNat) * M 104 (M 87 i).toNat) - ((M 103 (M 87 i).toNat * M 100 i) * M 104 (M 88 i).toNat))) (by omega) c; omega
    · intro q
      have := Int.mul_pos (a := Q) (by omega) q
      rw [← e1] at this
      rcases Int.lt_or_le 0 (dT M Q i) with c | c
      · exact c
      · have := Int.mul_nonpos_of_nonpos_of_nonneg (a := dT M Q i) (b := M 104 (M 88 i).toNat * M 104 (M 87 i).toNat) c (by omega); omega
  have d := d2520 hq
  have dle : dT M Q i ≤ 17 * (4913 * 4913) := by
    unfold dT
    have y1 := mul_bd (a := M 99 i) (b := pz M Q (M 88 i).toNat) (A := 17) (B := 4913 * 4913) hs pt.2
    have y2 := mul_bd (a := M 100 i) (b := pz M Q (M 87 i).toNat) (A := 9) (B := 4913 * 4913) ⟨by omega, hq.2⟩ pf.2
    omega
  refine ⟨e1, ?_, ?_, ?_⟩
  · unfold wT
    split
    · rename_i c
      have y1 := mul_bd (a := M 101 i) (b := 2520 / M 100 i) (A := 100) (B := 2520) hr ⟨by omega, d.2.2⟩
      have y2 := mul_bd (a := M 101 i * (2520 / M 100 i)) (b := dT M Q i) (A := 100 * 2520) (B := 17 * (4913 * 4913)) y1 ⟨by omega, dle⟩
      omega
    · omega
  · intro q
    unfold wT
    rcases q with q | q
    · rw [if_neg (fun c => by have := sgn.mp c; omega)]
    · rw [q]; split <;> simp
  · intro q
    unfold wT
    rw [if_pos (sgn.mpr q)]
    have z1 : M 101 i * (2520 / M 100 i) * dT M Q i * (M 100 i * M 104 (M 88 i).toNat * M 104 (M 87 i).toNat) = M 101 i * (2520 / M 100 i * M 100 i) * (dT M Q i * (M 104 (M 88 i).toNat * M 104 (M 87 i).toNat)) := by simp only [Int.mul_assoc, Int.mul_left_comm, Int.mul_comm]
    rw [z1, d.1, e1]
    simp only [Int.mul_assoc, Int.mul_left_comm, Int.mul_comm]
