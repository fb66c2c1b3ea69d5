/-! the reference's choices: all of them are visited -/
theorem adv_hit (M : MM) (v : Int) : ∀ (r j k : Nat), j ≤ k → k < j + r → (M 87 k = v ∨ M 88 k = v) → adv M v r j ≤ k := by
  intro r
  induction r with
  | zero => intro j k h1 h2 _; omega
  | succ r ih =>
    intro j k h1 h2 h
    unfold adv
    split
    · exact h1
    · rename_i hn
      by_cases c : j = k
      · subst c; exact absurd h hn
      · exact ih (j + 1) k (by omega) (by omega) h
def zVd (M : MM) (c : Nat → Int) (u : Nat) : Prop := c u = -1 ∨ (0 ≤ c u ∧ c u < M 86 0 ∧ (M 87 (c u).toNat = (u : Int) ∨ M 88 (c u).toNat = (u : Int)))
theorem zq_next : ∀ (k v : Nat) (M : MM) (c : Nat → Int), (0 ≤ M 86 0 ∧ M 86 0 ≤ 10) → (∀ u, v ≤ u → u < v + k → -1 ≤ M 102 u ∧ M 102 u < M 86 0) → (∀ u, v ≤ u → u < v + k → zVd M c u) → Nm (M 102) k v < Nm c k v → (ncR k v M).1 = 1 ∧ Nm ((ncR k v M).2 102) k v ≤ Nm c k v := by
  intro k
  induction k with
  | zero => intro v M c _ _ _ h; exact absurd h (Nat.lt_irrefl _)
  | succ k ih =>
    intro v M c hn hM hc hlt
    have hv := hM v (Nat.le_refl _) (by omega)
    have hcv := hc v (Nat.le_refl _) (by omega)
    have cb : -1 ≤ c v ∧ c v < M 86 0 := by unfold zVd at hcv; omega
    have hj := adv_le M v ((M 86 0).toNat - (M 102 v + 1).toNat) (M 102 v + 1).toNat
    have hj2 : (M 102 v + 1).toNat ≤ nj M v ∧ nj M v ≤ (M 102 v + 1).toNat + ((M 86 0).toNat - (M 102 v + 1).toNat) := hj
    have e1 : Nm (M 102) (k + 1) v = (M 102 v + 1).toNat + 11 * Nm (M 102) k (v + 1) := rfl
    have e2 : Nm c (k + 1) v = (c v + 1).toNat + 11 * Nm c k (v + 1) := rfl
    rw [e1, e2] at hlt
    rw [e2]
    unfold ncR
    by_cases hn2 : (nj M v : Int) < M 86 0
    · rw [if_pos hn2]
      refine ⟨rfl, ?_⟩
      show Nm (up2 M 102 v (nj M v) 102) (k + 1) v ≤ _
      have e3 : Nm (up2 M 102 v (nj M v) 102) (k + 1) v = (nj M v + 1) + 11 * Nm (M 102) k (v + 1) := by
        show (up2 M 102 v (nj M v) 102 v + 1).toNat + 11 * Nm (up2 M 102 v (nj M v) 102) k (v + 1) = _
        rw [up2_self, Nm_congr (c := up2 M 102 v (nj M v) 102) (c' := M 102) k (v + 1) (fun u a b => by rw [up2_in, if_neg (by omega)])]
        omega
      rw [e3]
      by_cases c1 : Nm (M 102) k (v + 1) < Nm c k (v + 1)
      · omega
      · have hgt : M 102 v < c v := by omega
        have hinc : 0 ≤ c v ∧ (M 87 (c v).toNat = (v : Int) ∨ M 88 (c v).toNat = (v : Int)) := by
          rcases hcv with q | q
          · omega
          · exact ⟨q.1, q.2.2⟩
        have hh : nj M v ≤ (c v).toNat := adv_hit M v _ _ _ (by omega) (by omega) hinc.2
        omega
    · rw [if_neg hn2]
      have c1 : Nm (M 102) k (v + 1) < Nm c k (v + 1) := by
        by_cases c2 : Nm (M 102) k (v + 1) < Nm c k (v + 1)
        · exact c2
        · exfalso
          have hgt : M 102 v < c v := by omega
          have hinc : 0 ≤ c v ∧ (M 87 (c v).toNat = (v : Int) ∨ M 88 (c v).toNat = (v : Int)) := by
            rcases hcv with q | q
            · omega
            · exact ⟨q.1, q.2.2⟩
          have hh : nj M v ≤ (c v).toNat := adv_hit M v _ _ _ (by omega) (by omega) hinc.2
          omega
      have eM : Nm (up2 M 102 v (-1) 102) k (v + 1) = Nm (M 102) k (v + 1) := Nm_congr k (v + 1) (fun u a b => by rw [up2_in, if_neg (by omega)])
      obtain ⟨i1, i2⟩ := ih (v + 1) (up2 M 102 v (-1)) c hn (fun u a b => by rw [up2_in, if_neg (by omega)]; exact hM u (by omega) (by omega)) (fun u a b => hc u (by omega) (by omega)) (by rw [eM]; exact c1)
      refine ⟨i1, ?_⟩
      have e4 : Nm ((ncR k (v + 1) (up2 M 102 v (-1))).2 102) (k + 1) v = 0 + 11 * Nm ((ncR k (v + 1) (up2 M 102 v (-1))).2 102) k (v + 1) := by
        show ((ncR k (v + 1) (up2 M 102 v (-1))).2 102 v + 1).toNat + _ = _
        rw [ncR_lo k (v + 1) _ v (by omega), up2_self]
        rfl
      rw [e4]
      omega
theorem Nm_inj : ∀ (k v : Nat) (c c' : Nat → Int), (∀ u, v ≤ u → u < v + k → -1 ≤ c u ∧ c u < 10) → (∀ u, v ≤ u → u < v + k → -1 ≤ c' u ∧ c' u < 10) → Nm c k v = Nm c' k v → ∀ u, v ≤ u → u < v + k → c u = c' u := by
  intro k
  induction k with
  | zero => intro v c c' _ _ _ u h1 h2; omega
  | succ k ih =>
    intro v c c' h h' he u h1 h2
    have a := h v (Nat.le_refl _) (by omega)
    have a' := h' v (Nat.le_refl _) (by omega)
    have he2 : (c v + 1).toNat + 11 * Nm c k (v + 1) = (c' v + 1).toNat + 11 * Nm c' k (v + 1) := he
    by_cases q : u = v
    · subst q; omega
    · exact ih (v + 1) c c' (fun u a b => h u (by omega) (by omega)) (fun u a b => h' u (by omega) (by omega)) (by omega) u (by omega) (by omega)
