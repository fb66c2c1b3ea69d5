/-! the reference's prices, by a choice that fits a row of prices -/
def zRD (D B : MM) : Prop := D 21 5 = B 86 0 ∧ ∀ k : Nat, (k : Int) < B 86 0 → D 22 k = B 87 k ∧ D 23 k = (if B 88 k = B 85 0 - 1 then 4 else B 88 k) ∧ D 24 k = B 101 k ∧ D 25 k = B 99 k ∧ D 26 k = B 100 k
def zyl (y : Nat → Int) (la v : Nat) : Int := if v = la then y 4 else y v
def zFt (B : MM) (la : Nat) (c : Nat → Int) (y : Nat → Int) (ρ : Nat → Nat) : Prop := ∀ v : Nat, 1 ≤ v → v < la → (1 ≤ ρ v ∧ ρ v ≤ 3) ∧ ((c v = -1 ∧ y v = 0) ∨ ((0 ≤ c v ∧ c v < B 86 0) ∧ (B 87 (c v).toNat = (v : Int) ∨ B 88 (c v).toNat = (v : Int)) ∧ 0 < B 99 (c v).toNat ∧ B 99 (c v).toNat * zyl y la (B 88 (c v).toNat).toNat = B 100 (c v).toNat * zyl y la (B 87 (c v).toNat).toNat ∧ ((otr B v (c v).toNat).toNat = la ∨ (1 ≤ (otr B v (c v).toNat).toNat ∧ (otr B v (c v).toNat).toNat < la ∧ ρ (otr B v (c v).toNat).toNat < ρ v))))
def zCn (la : Nat) (y : Nat → Int) (M : MM) : Prop := ∀ v, v ≤ la → 0 ≤ M 104 v ∧ (M 104 v ≠ 0 → M 103 v * y 4 = M 104 v * zyl y la v)
def zRi (B : MM) (la : Nat) (y : Nat → Int) (M : MM) : Prop := FQ B M ∧ zCn la y M ∧ (∀ u, 1 ≤ u → u < la → B 102 u = -1 → M 104 u ≠ 0) ∧ M 104 la ≠ 0
theorem zq_redp {a b x z : Int} (hb : 0 < b) (h : a * x = b * z) : nU a b * x = nD a b * z := by
  have h1 := nUD_mul (a := a) hb
  have e : (nU a b * x) * b = (nD a b * z) * b := by
    have e1 : nU a b * x * b = nU a b * b * x := Int.mul_right_comm _ _ _
    rw [e1, h1]
    have e2 : a * nD a b * x = nD a b * (a * x) := by rw [Int.mul_comm a, Int.mul_assoc]
    rw [e2, h, Int.mul_assoc, Int.mul_comm z b]
  exact Int.eq_of_mul_eq_mul_right (by omega) e
section ZRS
variable {B : MM} {la : Nat} {y : Nat → Int} {ρ : Nat → Nat}
theorem zq_fps (hw : WM B) (hs : SHK B) (hla : (la : Int) = B 85 0 - 1) (hft : zFt B la (B 102) y ρ) {M : MM} (h : zRi B la y M) {v : Nat} (h1 : 1 ≤ v) (h2 : v < la) : ∃ M1, fpS M v = some M1 ∧ zRi B la y M1 ∧ (∀ w, M 104 w ≠ 0 → M1 104 w ≠ 0) ∧ (M 104 v ≠ 0 ∨ M 104 (otr B v (B 102 v).toNat).toNat ≠ 0 → M1 104 v ≠ 0) := by
  obtain ⟨hF, hC, hN, hLa⟩ := h
  by_cases c0 : 0 < M 104 v
  · exact ⟨M, if_pos c0, ⟨hF, hC, hN, hLa⟩, fun _ q => q, fun _ => by omega⟩
  have h0 : M 104 v = 0 := by have := (hC v (by omega)).1; omega
  obtain ⟨-, hft⟩ := hft v h1 h2
  rcases hft with ⟨q, -⟩ | ⟨f1, f2, f3, f4, f5⟩
  · exact absurd h0 (hN v h1 h2 q)
  have e102 : M 102 v = B 102 v := hF.at (by decide) (by decide) (by decide) v
  have eo : otr M v (M 102 v).toNat = otr B v (B 102 v).toNat := by
    unfold otr
    rw [e102, hF.at (c := 87) (by decide) (by decide) (by decide), hF.at (c := 88) (by decide) (by decide) (by decide)]
  have ho : (otr B v (B 102 v).toNat).toNat ≤ la := by omega
  unfold fpS
  rw [if_neg c0, eo]
  by_cases c1 : M 104 (otr B v (B 102 v).toNat).toNat = 0
  · rw [if_pos c1]
    exact ⟨M, rfl, ⟨hF, hC, hN, hLa⟩, fun _ q => q, fun q => q.elim (fun r => absurd h0 r) (fun r => absurd c1 r)⟩
  rw [if_neg c1, e102, hF.at (c := 87) (by decide) (by decide) (by decide), hF.at (c := 99) (by decide) (by decide) (by decide), hF.at (c := 100) (by decide) (by decide) (by decide)]
  have hlw := hw.2.2 (B 102 v).toNat (by omega)
  have hsk := hs (B 102 v).toNat (by omega)
  unfold LW at hlw
  have hco := (hC (otr B v (B 102 v).toNat).toNat ho).2 c1
  have hcn := (hC (otr B v (B 102 v).toNat).toNat ho).1
  have key : ∀ a b : Int, 0 < b → a * y 4 = b * y v → zRi B la y (fpP M v a b) ∧ (∀ w, M 104 w ≠ 0 → fpP M v a b 104 w ≠ 0) ∧ fpP M v a b 104 v ≠ 0 := by
    intro a b hb hab
    have hd := nD_bd (a := a) hb
    have e4 : ∀ w, fpP M v a b 104 w = if w = v then nD a b else M 104 w := fun w => by
      unfold fpP
      rw [up2_in, up2_ne _ _ _ _ (by decide), up2_ne _ _ _ _ (by decide), up2_ne _ _ _ _ (by decide)]
    have e3 : ∀ w, fpP M v a b 103 w = if w = v then nU a b else M 103 w := fun w => by
      unfold fpP
      rw [up2_ne _ _ _ _ (by decide), up2_in, up2_ne _ _ _ _ (by decide), up2_ne _ _ _ _ (by decide)]
    have mono : ∀ w, M 104 w ≠ 0 → fpP M v a b 104 w ≠ 0 := fun w hq => by
      rw [e4]
      split
      · omega
      · exact hq
    refine ⟨⟨hF.fpp v a b, fun w hw2 => ?_, fun u u1 u2 q => mono u (hN u u1 u2 q), mono la hLa⟩, mono, by rw [e4, if_pos rfl]; omega⟩
    rw [e4, e3]
    by_cases c : w = v
    · rw [if_pos c, if_pos c]
      refine ⟨by omega, fun _ => ?_⟩
      rw [c, show zyl y la v = y v from if_neg (by omega)]
      exact zq_redp hb hab
    · rw [if_neg c, if_neg c]
      exact hC w hw2
  by_cases c2 : B 87 (B 102 v).toNat = (v : Int)
  · rw [if_pos c2]
    have eov : otr B v (B 102 v).toNat = B 88 (B 102 v).toNat := if_pos c2
    have k := key (M 103 (otr B v (B 102 v).toNat).toNat * B 99 (B 102 v).toNat) (M 104 (otr B v (B 102 v).toNat).toNat * B 100 (B 102 v).toNat) (Int.mul_pos (by omega) (by omega)) (by
      rw [eov] at hco ⊢
      have ev : zyl y la (B 87 (B 102 v).toNat).toNat = y v := by rw [c2]; exact if_neg (by omega)
      rw [ev] at f4
      grind)
    exact ⟨_, rfl, k.1, k.2.1, fun _ => k.2.2⟩
  · rw [if_neg c2, if_neg (by omega)]
    have ct : B 88 (B 102 v).toNat = (v : Int) := f2.resolve_left c2
    have eov : otr B v (B 102 v).toNat = B 87 (B 102 v).toNat := if_neg c2
    have k := key (M 103 (otr B v (B 102 v).toNat).toNat * B 100 (B 102 v).toNat) (M 104 (otr B v (B 102 v).toNat).toNat * B 99 (B 102 v).toNat) (Int.mul_pos (by omega) (by omega)) (by
      rw [eov] at hco ⊢
      have ev : zyl y la (B 88 (B 102 v).toNat).toNat = y v := by rw [ct]; exact if_neg (by omega)
      rw [ev] at f4
      grind)
    exact ⟨_, rfl, k.1, k.2.1, fun _ => k.2.2⟩
theorem zq_fpl (hw : WM B) (hs : SHK B) (hla : (la : Int) = B 85 0 - 1) (hft : zFt B la (B 102) y ρ) : ∀ (c v : Nat) (M : MM), 1 ≤ v → v + c ≤ la → zRi B la y M → ∃ M1, fpL c v M = some M1 ∧ zRi B la y M1 ∧ (∀ w, M 104 w ≠ 0 → M1 104 w ≠ 0) ∧ ∀ u, v ≤ u → u < v + c → (M 104 u ≠ 0 ∨ M 104 (otr B u (B 102 u).toNat).toNat ≠ 0) → M1 104 u ≠ 0 := by
  intro c
  induction c with
  | zero => intro v M _ _ h; exact ⟨M, rfl, h, fun _ q => q, fun u h1 h2 => by omega⟩
  | succ c ih =>
    intro v M h1 h2 h
    obtain ⟨M1, a1, a2, a3, a4⟩ := zq_fps hw hs hla hft h h1 (show v < la by omega)
    obtain ⟨M2, b1, b2, b3, b4⟩ := ih (v + 1) M1 (by omega) (by omega) a2
    refine ⟨M2, ?_, b2, fun w q => b3 w (a3 w q), fun u u1 u2 q => ?_⟩
    · unfold fpL
      rw [a1]
      exact b1
    · by_cases c : u = v
      · subst c; exact b3 u (a4 q)
      · exact b4 u (by omega) (by omega) (q.elim (fun r => Or.inl (a3 u r)) (fun r => Or.inr (a3 _ r)))
theorem zq_fprd (hw : WM B) (hs : SHK B) (hla : (la : Int) = B 85 0 - 1) (hla1 : 1 ≤ la) (hft : zFt B la (B 102) y ρ) : ∀ (r j : Nat) (M : MM), zRi B la y M → (∀ u, 1 ≤ u → u < la → ρ u ≤ j → M 104 u ≠ 0) → ∃ M1, fpRd la r M = some M1 ∧ zRi B la y M1 ∧ ∀ u, 1 ≤ u → u < la → ρ u ≤ j + r → M1 104 u ≠ 0 := by
  intro r
  induction r with
  | zero => intro j M h hj; exact ⟨M, rfl, h, hj⟩
  | succ r ih =>
    intro j M h hj
    obtain ⟨M1, a1, a2, a3, a4⟩ := zq_fpl hw hs hla hft (la - 1) 1 M (by decide) (by omega) h
    obtain ⟨M2, b1, b2, b3⟩ := ih (j + 1) M1 a2 (fun u u1 u2 q => by
      refine a4 u u1 (by omega) ?_
      obtain ⟨-, hf⟩ := hft u u1 u2
      rcases hf with ⟨w, -⟩ | ⟨-, -, -, -, f5⟩
      · exact Or.inl (h.2.2.1 u u1 u2 w)
      · rcases f5 with w | ⟨w1, w2, w3⟩
        · exact Or.inr (by rw [w]; exact h.2.2.2)
        · exact Or.inr (hj _ w1 w2 (by omega)))
    refine ⟨M2, ?_, b2, fun u u1 u2 q => b3 u u1 u2 (by omega)⟩
    unfold fpRd
    rw [a1]
    exact b1
/-- a choice that fits is resolved, and its prices are those of the row -/
theorem zq_fpok (hw : WM B) (hs : SHK B) (hla : (la : Int) = B 85 0 - 1) (hy : zVx y) (hft : zFt B la (B 102) y ρ) : ∃ M1, fpOk B M1 ∧ zCn la y M1 := by
  have hP := hw.1
  have hla1 : 1 ≤ la := by omega
  have e3 : ∀ v, v ≤ la → piK B (B 85 0 - 1) (B 85 0).toNat 103 v = if v = la then 1 else 0 := fun v hv => by
    show (if v < (B 85 0).toNat then (if (v : Int) = B 85 0 - 1 then (1 : Int) else 0) else B 103 v) = _
    rw [if_pos (by omega)]
    by_cases c : v = la
    · rw [if_pos c, if_pos (by omega)]
    · rw [if_neg c, if_neg (by omega)]
  have e4 : ∀ v, v ≤ la → piK B (B 85 0 - 1) (B 85 0).toNat 104 v = if v = la ∨ v = 0 ∨ B 102 v = -1 then 1 else 0 := fun v hv => by
    show (if v < (B 85 0).toNat then (if (v : Int) = B 85 0 - 1 ∨ v = 0 ∨ B 102 v = -1 then (1 : Int) else 0) else B 104 v) = _
    rw [if_pos (by omega)]
    by_cases c : v = la ∨ v = 0 ∨ B 102 v = -1
    · rw [if_pos c, if_pos (by omega)]
    · rw [if_neg c, if_neg (by omega)]
  have h0 : zRi B la y (piK B (B 85 0 - 1) (B 85 0).toNat) := by
    refine ⟨FQ.pik _ _ _, fun v hv => ?_, fun u u1 u2 q => by rw [e4 u (by omega), if_pos (Or.inr (Or.inr q))]; decide, by rw [e4 la (Nat.le_refl _), if_pos (Or.inl rfl)]; decide⟩
    rw [e4 v hv, e3 v hv]
    by_cases c1 : v = la
    · rw [if_pos c1, if_pos (Or.inl c1)]
      refine ⟨by decide, fun _ => ?_⟩
      rw [show zyl y la v = y 4 from if_pos c1]
    · rw [if_neg c1, show zyl y la v = y v from if_neg c1]
      by_cases c2 : v = 0
      · rw [if_pos (Or.inr (Or.inl c2)), c2, hy.1]
        exact ⟨by decide, fun _ => by omega⟩
      · by_cases c3 : B 102 v = -1
        · rw [if_pos (Or.inr (Or.inr c3))]
          refine ⟨by decide, fun _ => ?_⟩
          obtain ⟨-, hf⟩ := hft v (by omega) (by omega)
          rcases hf with ⟨-, w⟩ | ⟨w, -⟩
          · rw [w]; omega
          · omega
        · rw [if_neg (by omega)]
          exact ⟨by decide, fun q => absurd rfl q⟩
  obtain ⟨M1, a1, a2, a3⟩ := zq_fprd hw hs hla hla1 hft 3 0 _ h0 (fun u u1 u2 q => by have := (hft u u1 u2).1.1; omega)
  refine ⟨M1, ⟨?_, fun v v1 v2 => a3 v v1 (by omega) (by have := (hft v v1 (by omega)).1.2; omega)⟩, a2.2.1⟩
  unfold fpA
  rw [show (B 85 0 - 1).toNat = la by omega]
  exact a1
end ZRS
