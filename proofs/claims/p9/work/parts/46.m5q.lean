def Nm (c : Nat → Int) : Nat → Nat → Nat
  | 0, _ => 0
  | k + 1, v => (c v + 1).toNat + 11 * Nm c k (v + 1)
theorem Nm_congr {c c' : Nat → Int} : ∀ (k v : Nat), (∀ u, v ≤ u → u < v + k → c u = c' u) → Nm c k v = Nm c' k v := by
  intro k
  induction k with
  | zero => intro v _; rfl
  | succ k ih => intro v h; unfold Nm; rw [h v (Nat.le_refl _) (by omega), ih (v + 1) (fun u h1 h2 => h u (by omega) (by omega))]
theorem Nm_lt {c : Nat → Int} : ∀ (k v : Nat), (∀ u, v ≤ u → u < v + k → -1 ≤ c u ∧ c u < 10) → Nm c k v + 1 ≤ 11 ^ k := by
  intro k
  induction k with
  | zero => intro v _; exact Nat.le_refl 1
  | succ k ih =>
    intro v h
    have h1 := ih (v + 1) (fun u a b => h u (by omega) (by omega))
    have h2 := h v (Nat.le_refl _) (by omega)
    unfold Nm
    rw [Nat.pow_succ]
    omega
theorem ncR_ne : ∀ (k v : Nat) (M : MM) (c : Nat), c ≠ 102 → (ncR k v M).2 c = M c := by
  intro k
  induction k with
  | zero => intro v M c _; rfl
  | succ k ih =>
    intro v M c hc
    unfold ncR
    split
    · exact up2_ne _ _ _ _ hc
    · rw [ih (v + 1) _ c hc]; exact up2_ne _ _ _ _ hc
theorem ncR_lo : ∀ (k v : Nat) (M : MM) (u : Nat), (u < v ∨ v + k ≤ u) → (ncR k v M).2 102 u = M 102 u := by
  intro k
  induction k with
  | zero => intro v M u _; rfl
  | succ k ih =>
    intro v M u hu
    unfold ncR
    split
    · show up2 M 102 v _ 102 u = _
      rw [up2_in, if_neg (by omega)]
    · rw [ih (v + 1) _ u (by omega), up2_in, if_neg (by omega)]
/-- what the next choice is: digits that may be, and a greater number -/
theorem ncR_num : ∀ (k v : Nat) (M : MM), 0 ≤ M 86 0 → M 86 0 ≤ 10 → (∀ u, v ≤ u → u < v + k → -1 ≤ M 102 u ∧ M 102 u < M 86 0) → (∀ u, v ≤ u → u < v + k → -1 ≤ (ncR k v M).2 102 u ∧ (ncR k v M).2 102 u < M 86 0) ∧ ((ncR k v M).1 = 1 → Nm (M 102) k v < Nm ((ncR k v M).2 102) k v) := by
  intro k
  induction k with
  | zero => intro v M _ _ h; exact ⟨fun u h1 h2 => by omega, fun q => absurd (show (0 : Int) = 1 from q) (by decide)⟩
  | succ k ih =>
    intro v M h0 hL h
    have hv := h v (Nat.le_refl _) (by omega)
    have hj := (adv_le M v ((M 86 0).toNat - (M 102 v + 1).toNat) (M 102 v + 1).toNat).1
    have hj2 : (M 102 v + 1).toNat ≤ nj M v := hj
    unfold ncR
    split
    · rename_i hlt
      refine ⟨fun u h1 h2 => ?_, fun _ => ?_⟩
      · show -1 ≤ up2 M 102 v _ 102 u ∧ up2 M 102 v _ 102 u < _
        rw [up2_in]
        split
        · omega
        · exact h u h1 h2
      · show Nm (M 102) (k + 1) v < Nm (up2 M 102 v (nj M v) 102) (k + 1) v
        unfold Nm
        rw [up2_self, Nm_congr (c := up2 M 102 v (nj M v) 102) (c' := M 102) k (v + 1) (fun u a b => by rw [up2_in, if_neg (by omega)])]
        omega
    · have hM : ∀ u, v + 1 ≤ u → u < v + 1 + k → -1 ≤ up2 M 102 v (-1) 102 u ∧ up2 M 102 v (-1) 102 u < up2 M 102 v (-1) 86 0 := fun u a b => by
        rw [up2_in, if_neg (by omega)]; exact h u (by omega) (by omega)
      obtain ⟨i1, i2⟩ := ih (v + 1) (up2 M 102 v (-1)) h0 hL hM
      refine ⟨fun u h1 h2 => ?_, fun q => ?_⟩
      · by_cases hu : u = v
        · subst hu
          rw [ncR_lo k (u + 1) _ u (by omega), up2_self]
          omega
        · exact i1 u (by omega) (by omega)
      · have h3 := i2 q
        unfold Nm
        rw [ncR_lo k (v + 1) _ v (by omega), up2_self]
        rw [Nm_congr (c := up2 M 102 v (-1) 102) (c' := M 102) k (v + 1) (fun u a b => by rw [up2_in, if_neg (by omega)])] at h3
        have : ((-1 : Int) + 1).toNat = 0 := rfl
        omega
/-- all lanes' shares and rooms that are reckoned with are numbers that may be -/
def SHK (M : MM) : Prop := ∀ k : Nat, (k : Int) < M 86 0 → 0 ≤ M 99 k ∧ M 99 k ≤ 17 ∧ 1 ≤ M 100 k ∧ M 100 k ≤ 9 ∧ 0 ≤ M 101 k ∧ M 101 k ≤ 100
/-- what the search for MOST leaves as it was -/
def FM (M0 M : MM) : Prop := (∀ c, c ≠ 84 → c ≠ 102 → c ≠ 103 → c ≠ 104 → M c = M0 c) ∧ ∀ j, j ≠ 15 → j ≠ 16 → j ≠ 23 → j ≠ 24 → M 84 j = M0 84 j
theorem FM.at {M0 M : MM} (h : FM M0 M) {c : Nat} (h1 : c ≠ 84) (h0 : c ≠ 102) (h2 : c ≠ 103) (h3 : c ≠ 104) (j : Nat) : M c j = M0 c j := by rw [h.1 c h1 h0 h2 h3]
theorem fpL_id : ∀ (c v : Nat) (M : MM), (∀ u, v ≤ u → u < v + c → 0 < M 104 u) → fpL c v M = some M := by
  intro c
  induction c with
  | zero => intro v M _; rfl
  | succ c ih =>
    intro v M h
    unfold fpL
    have : fpS M v = some M := by unfold fpS; rw [if_pos (h v (Nat.le_refl _) (by omega))]
    rw [this]
    exact ih (v + 1) M (fun u a b => h u (by omega) (by omega))
theorem fpOk_none {M : MM} (hw : WM M) (h : ∀ v : Nat, 1 ≤ v → (v : Int) < M 85 0 - 1 → M 102 v = -1) : fpOk M (piK M (M 85 0 - 1) (M 85 0).toNat) := by
  have hP := hw.1
  have hpos : ∀ u : Nat, 1 ≤ u → (u : Int) < M 85 0 - 1 → piK M (M 85 0 - 1) (M 85 0).toNat 104 u = 1 := fun u h1 h2 => by
    show (if u < (M 85 0).toNat then (if (u : Int) = M 85 0 - 1 ∨ u = 0 ∨ M 102 u = -1 then (1 : Int) else 0) else M 104 u) = 1
    rw [if_pos (by omega), if_pos (Or.inr (Or.inr (h u h1 h2)))]
  have hid : fpL ((M 85 0 - 1).toNat - 1) 1 (piK M (M 85 0 - 1) (M 85 0).toNat) = some (piK M (M 85 0 - 1) (M 85 0).toNat) := fpL_id _ _ _ (fun u a b => by rw [hpos u a (by omega)]; decide)
  refine ⟨?_, fun v h1 h2 => by rw [hpos v h1 h2]; decide⟩
  unfold fpA fpRd
  rw [hid]
  simp only []
  unfold fpRd
  rw [hid]
  simp only []
  unfold fpRd
  rw [hid]
  rfl
def MB (M : MM) : Prop := (0 ≤ M 84 23 ∧ M 84 23 ≤ 1034079431760000) ∧ (0 < M 84 24 ∧ M 84 24 ≤ 12380760) ∧ M 84 23 ≤ 17000 * M 84 24
/-- with no lane chosen, no more than 17 of each of 1000 can be worth anything -/
theorem first_bd {M : MM} (hw : WM M) (hc : CHK M) (h : ∀ v : Nat, 1 ≤ v → (v : Int) < M 85 0 - 1 → M 102 v = -1) {M1 : MM} {Q : Int} (hok : fpOk M M1) (hfr : FR M M1) (hq : PRQ M1 Q) : nU (sumZ (wT M1 Q) (M1 86 0).toNat) (2520 * Q) ≤ 17000 * nD (sumZ (wT M1 Q) (M1 86 0).toNat) (2520 * Q) := by
  have hP := hw.1
  have hL := hw.2.1
  have hw1 := hfr.wm hw
  have hc1 := hfr.chk hc
  have hL1 := hw1.2.1
  have e1 : some M1 = some (piK M (M 85 0 - 1) (M 85 0).toNat) := hok.1.symm.trans (fpOk_none hw h).1
  have e2 : M1 = piK M (M 85 0 - 1) (M 85 0).toNat := Option.some.inj e1
  have hQ := hq.1
  have e85 : M1 85 0 = M 85 0 := hfr.at (c := 85) (by decide) (by decide) (by decide) 0
  have hpz : ∀ x : Nat, (x : Int) < M 85 0 → 0 ≤ pz M1 Q x ∧ pz M1 Q x ≤ Q := fun x hx => by
    have h3 : M1 103 x = 0 ∨ M1 103 x = 1 := by
      rw [e2]
      show (if x < (M 85 0).toNat then (if (x : Int) = M 85 0 - 1 then (1 : Int) else 0) else M 103 x) = 0 ∨ (if x < (M 85 0).toNat then (if (x : Int) = M 85 0 - 1 then (1 : Int) else 0) else M 103 x) = 1
      rw [if_pos (by omega)]
      split <;> omega
    have h4 := hq.2 x (by omega)
    have h5 : 0 ≤ Q / M1 104 x ∧ Q / M1 104 x ≤ Q := ⟨Int.ediv_nonneg (by omega) (by omega), Int.ediv_le_self _ (by omega)⟩
    unfold pz
    rcases h3 with q | q
    · rw [q, Int.zero_mul]; omega
    · rw [q, Int.one_mul]; exact h5
  have hS := sumZ_bd (f := wT M1 Q) (c := 100 * 2520 * (17 * Q)) (n := (M1 86 0).toNat) (by omega) (fun j hj => by
    have hlw := hw1.2.2 j (by omega)
    have hch := hc1.2 j (by omega)
    unfold LW at hlw
    have b := wT_c (i := j) hq (by omega) (by omega) (by omega) (by omega) (by omega)
    refine ⟨b.2.1.1, ?_⟩
    unfold wT
    split
    · rename_i hd
      have d := d2520 (q := M1 100 j) (by omega)
      have y1 := mul_bd (a := M1 101 j) (b := 2520 / M1 100 j) (A := 100) (B := 2520) (by omega) ⟨by omega, d.2.2⟩
      have y2 := mul_bd (a := M1 99 j) (b := pz M1 Q (M1 88 j).toNat) (A := 17) (B := Q) (by omega) (hpz _ (by omega))
      have y3 := mul_bd (a := M1 100 j) (b := pz M1 Q (M1 87 j).toNat) (A := 9) (B := Q) (by omega) (hpz _ (by omega))
      have y4 : dT M1 Q j ≤ 17 * Q := by unfold dT; omega
      exact (mul_bd (A := 100 * 2520) (B := 17 * Q) y1 ⟨by omega, y4⟩).2
    · omega)
  have hD : 0 < 2520 * Q := by omega
  have hn := nD_bd (a := sumZ (wT M1 Q) (M1 86 0).toNat) hD
  have hm := nUD_mul (a := sumZ (wT M1 Q) (M1 86 0).toNat) hD
  generalize sumZ (wT M1 Q) (M1 86 0).toNat = S at hS hn hm ⊢
  generalize nU S (2520 * Q) = u at hm ⊢
  generalize nD S (2520 * Q) = d at hn hm ⊢
  have h10 : (((M1 86 0).toNat : Nat) : Int) * (100 * 2520 * (17 * Q)) ≤ 10 * (100 * 2520 * (17 * Q)) := Int.mul_le_mul_of_nonneg_right (by omega) (by omega)
  have hSQ : S ≤ 17000 * (2520 * Q) := by omega
  have h11 : S * d ≤ 17000 * (2520 * Q) * d := Int.mul_le_mul_of_nonneg_right hSQ (by omega)
  rw [← hm] at h11
  have h12 : u * (2520 * Q) ≤ (17000 * d) * (2520 * Q) := by
    rw [show 17000 * d * (2520 * Q) = 17000 * (2520 * Q) * d by rw [Int.mul_right_comm]]
    exact h11
  exact Int.le_of_mul_le_mul_right h12 hD
def JT (M0 M : MM) (s : Int) : Prop := WM M ∧ CHK M ∧ FM M0 M ∧ (s = 0 ∨ s = 1) ∧ (s = 1 → MB M) ∧ (s = 0 → ∀ v : Nat, 1 ≤ v → (v : Int) < M 85 0 - 1 → M 102 v = -1)
theorem STA.fm {M0 M M' : MM} {s s' : Int} (h : STA M s M' s') (hf : FM M0 M) : FM M0 M' := by
  refine ⟨fun c h1 h0 h2 h3 => ?_, fun j h1 h2 h3 h4 => ?_⟩
  · rw [h.fr c h1 h2 h3]; exact hf.1 c h1 h0 h2 h3
  · rw [← hf.2 j h1 h2 h3 h4]
    rcases h with ⟨-, h, -⟩ | ⟨M1, Q, u, d, -, hI, -, -, -, h | h⟩
    · exact h.2 j h1 h2
    · obtain ⟨-, rfl, -⟩ := h
      unfold w2
      rw [up2_in, if_neg h4, up2_in, if_neg h3, up2_in, if_neg h2, up2_in, if_neg h1]
      exact hI.1.2 j h1 h2
    · obtain ⟨-, -, rfl, -⟩ := h
      unfold w2
      rw [up2_in, if_neg h2, up2_in, if_neg h1]
      exact hI.1.2 j h1 h2
theorem STA.mb {M M' : MM} {s s' : Int} (h : STA M s M' s') (hw : WM M) (hc : CHK M) (hs : s = 1 → MB M) (h0 : s = 0 ∨ s = 1) (hn : s = 0 → ∀ v : Nat, 1 ≤ v → (v : Int) < M 85 0 - 1 → M 102 v = -1) : s' = 1 ∧ MB M' := by
  rcases h with ⟨h1, h2, h3⟩ | ⟨M1, Q, u, d, hok, hI, hq, hu, hd, h | h⟩
  · have hs1 : s = 1 := by
      rcases h0 with c | c
      · exact absurd ⟨_, fpOk_none hw (hn c)⟩ h1
      · exact c
    refine ⟨by omega, ?_⟩
    have := hs hs1
    unfold MB at this ⊢
    rw [h2.2 23 (by decide) (by decide), h2.2 24 (by decide) (by decide)]
    exact this
  · obtain ⟨hle, rfl, rfl⟩ := h
    have hfr : FR M M1 := hI.1.1
    have mb := most_bd (hfr.wm hw) (hfr.chk hc) hq
    rw [← hu, ← hd] at mb
    refine ⟨rfl, mb.1, mb.2, ?_⟩
    show u ≤ 17000 * d
    rcases h0 with c | c
    · have := first_bd hw hc (hn c) hok hfr hq
      rw [← hu, ← hd] at this
      exact this
    · have hb := hs c
      have hlt : u * M 84 24 < M 84 23 * d := by omega
      have h2 : M 84 23 * d ≤ 17000 * M 84 24 * d := Int.mul_le_mul_of_nonneg_right hb.2.2 (by omega)
      have h3 : u * M 84 24 < (17000 * d) * M 84 24 := by
        rw [Int.mul_right_comm]
        omega
      exact Int.le_of_lt (Int.lt_of_mul_lt_mul_right h3 (by have := hb.2.1; omega))
  · obtain ⟨c1, -, rfl, rfl⟩ := h
    have hs1 : s' = 1 := by omega
    refine ⟨hs1, ?_⟩
    have := hs hs1
    have e1 : w2 M1 u d 84 23 = M 84 23 := hI.1.2 23 (by decide) (by decide)
    have e2 : w2 M1 u d 84 24 = M 84 24 := hI.1.2 24 (by decide) (by decide)
    unfold MB at this ⊢
    rw [e1, e2]
    exact this
theorem JT_step {M0 M M' : MM} {s s' : Int} (hj : JT M0 M s) (h : STA M s M' s') {z : Int} {M2 : MM} (hz : (z, M2) = ncR ((M' 85 0).toNat - 2) 1 M') : (z = 0 → FM M0 M2 ∧ MB M2) ∧ (z = 1 → JT M0 M2 s' ∧ 1331 - Nm (M2 102) ((M2 85 0).toNat - 2) 1 < 1331 - Nm (M 102) ((M 85 0).toNat - 2) 1) := by
  obtain ⟨hw, hc, hf, h0, hs, hn⟩ := hj
  have hfr := h.fr
  have hw' := hfr.wm hw
  have hc' := hfr.chk hc
  have hm := h.mb hw hc hs h0 hn
  have e1 : z = (ncR ((M' 85 0).toNat - 2) 1 M').1 := congrArg Prod.fst hz
  have e2 : M2 = (ncR ((M' 85 0).toNat - 2) 1 M').2 := congrArg Prod.snd hz
  have hP := hw'.1
  have hL := hw'.2.1
  have hdig : ∀ u, 1 ≤ u → u < 1 + ((M' 85 0).toNat - 2) → -1 ≤ M' 102 u ∧ M' 102 u < M' 86 0 := fun u a b => by have := hc'.1 u a (by omega); omega
  obtain ⟨n1, n2⟩ := ncR_num ((M' 85 0).toNat - 2) 1 M' hL.1 hL.2 hdig
  rw [← e2] at n1 n2
  have hne : ∀ c, c ≠ 102 → M2 c = M' c := fun c hc0 => by rw [e2]; exact ncR_ne _ _ _ _ hc0
  have hf2 : FM M0 M2 := by
    have := h.fm hf
    exact ⟨fun c a1 a2 a3 a4 => by rw [hne c a2]; exact this.1 c a1 a2 a3 a4, fun j a1 a2 a3 a4 => by rw [hne 84 (by decide)]; exact this.2 j a1 a2 a3 a4⟩
  have hmb2 : MB M2 := by unfold MB; rw [hne 84 (by decide)]; exact hm.2
  have e85 := hne 85 (by decide)
  have e86 := hne 86 (by decide)
  refine ⟨fun _ => ⟨hf2, hmb2⟩, fun q => ⟨⟨?_, ?_, hf2, Or.inr hm.1, fun _ => hmb2, fun c => ?_⟩, ?_⟩⟩
  · unfold WM LW at hw' ⊢
    rw [hne 85 (by decide), hne 86 (by decide), hne 87 (by decide), hne 88 (by decide), hne 89 (by decide), hne 90 (by decide), hne 91 (by decide), hne 92 (by decide), hne 93 (by decide), hne 94 (by decide)]
    exact hw'
  · refine ⟨fun v a b => ?_, ?_⟩
    · rw [e85] at b
      rw [e86]
      have := n1 v a (by omega)
      omega
    · rw [hne 86 (by decide), hne 99 (by decide), hne 100 (by decide), hne 101 (by decide)]; exact hc'.2
  · have := hm.1; omega
  · have h3 := n2 (by rw [← e1]; exact q)
    have e102 : M' 102 = M 102 := hfr 102 (by decide) (by decide) (by decide)
    have e850 : M' 85 0 = M 85 0 := hfr.at (c := 85) (by decide) (by decide) (by decide) 0
    rw [e85]
    rw [e102, e850] at h3
    rw [e850]
    have hb := Nm_lt (c := M2 102) ((M 85 0).toNat - 2) 1 (fun u a b => by rw [← e850] at b; have := n1 u a b; omega)
    have hpw : 11 ^ ((M 85 0).toNat - 2) ≤ 1331 := by
      have : (M 85 0).toNat - 2 ≤ 3 := by omega
      calc 11 ^ ((M 85 0).toNat - 2) ≤ 11 ^ 3 := Nat.pow_le_pow_right (by decide) this
        _ = 1331 := by decide
    omega
def cmK (M : MM) (i : Nat) : MM := fun c => if c = 102 then (fun k => if k < i then -1 else M 102 k) else M c
theorem cmK_0 (M : MM) : cmK M 0 = M := by
  funext c k
  unfold cmK
  split
  · rename_i h; simp [h]
  · rfl
theorem cmK_succ (M : MM) (i : Nat) : up2 (cmK M i) 102 i (-1) = cmK M (i + 1) := by
  funext c k
  by_cases h1 : c = 102
  · subst h1
    simp only [up2, cmK, if_true]
    by_cases hk : k = i
    · subst hk; simp
    · by_cases h2 : k < i
      · simp [hk, h2, Nat.lt_succ_of_lt h2]
      · simp [hk, h2, show ¬ k < i + 1 by omega]
  · simp [up2, cmK, h1]
set_option maxRecDepth 100000 in
set_option maxHeartbeats 4000000 in
theorem fm_cm5 {G : GG} {E : EE}  (A : AmM G E cX5_findMost 3 yX5_findMost.cls 4)  (M : MM) (kk : AM G E 3 20 [.ref 84, vi 5, jk] [] (cmK M 5)) : ∀ (n : Nat) (i : Nat), 5 - i < n → i ≤ 5 → AM G E 3 2 [.ref 84, vi (i : Int), jk] [] (cmK M i) := by
  intro n
  induction n with
  | zero => intro i hn hi; exfalso; omega
  | succ n ih =>
    intro i hn hi
    refine a_iload_n (z := (i : Int)) A dX5_findMost_2 rfl ?_
    refine a_iconst A dX5_findMost_3 ?_
    refine a_icmp_ge (tgt := 20) A dX5_findMost_4 (by decide) (by omega) (by omega) (fun h4 => ?_) (fun h4 => ?_)
    · have e : i = 5 := by omega
      subst e
      exact kk
    · refine a_aload_n (z := 84) A dX5_findMost_7 rfl ?_
      refine gf_X5_62 (r := 102) A dX5_findMost_8 rfl (by decide) rfl ?_
      refine a_iload_n (z := (i : Int)) A dX5_findMost_11 rfl ?_
      refine a_iconst A dX5_findMost_12 ?_
      refine a_iastore (i := (i : Int)) (j := i) A dX5_findMost_13 rfl (by decide) (by decide) (by omega) rfl ?_
      refine a_iinc (z := (i : Int)) (lv' := [.ref 84, vi ((i : Int) + 1), jk]) A dX5_findMost_14 rfl (by decide) rfl ?_
      refine a_goto (tgt := 2) A dX5_findMost_17 (by decide) ?_
      rw [cmK_succ]
      exact ih (i + 1) (by omega) (by omega)
set_option maxRecDepth 100000 in
set_option maxHeartbeats 4000000 in
theorem c_X5_findMost (G : GG) (l : Launch) (M : MM) (hw : WM M) (hs : SHK M) : CMv G l yX5_findMost cX5_findMost 3 none 4 [.ref 84] M (fun M' => FM M M' ∧ MB M') := by
  refine CT.intro (by decide) (Nat.le_of_ble_eq_true rfl) (fun E hE A T0 => ?_)
  subst hE
  refine a_iconst A dX5_findMost_0 ?_
  refine a_istore_n (lv' := [.ref 84, vi 0, jk]) A dX5_findMost_1 (by decide) rfl ?_
  have h0 := fm_cm5 A M ?_ 6 0 (by omega) (by omega)
  · rw [cmK_0] at h0; exact h0
  refine a_iconst A dX5_findMost_20 ?_
  refine a_istore_n (lv' := [.ref 84, vi 0, jk]) A dX5_findMost_21 (by decide) rfl ?_
  refine a_iconst A dX5_findMost_22 ?_
  refine a_istore_n (lv' := [.ref 84, vi 0, vi 1]) A dX5_findMost_23 (by decide) rfl ?_
  refine fm_loop5 A T0 (JT M) (fun M => 1331 - Nm (M 102) ((M 85 0).toNat - 2) 1) (fun M1 s h => ⟨h.1, h.2.1, h.2.2.2.1, fun q => ⟨(h.2.2.2.2.1 q).1, (h.2.2.2.2.1 q).2.1⟩⟩) (fun M1 s M' s' hj hst z M2 hz => JT_step hj hst hz) 1332 (cmK M 5) 0 (by omega) ?_
  refine ⟨hw, ⟨fun v a b => Or.inl ?_, hs⟩, ⟨fun c h1 h0 h2 h3 => ?_, fun j _ _ _ _ => rfl⟩, Or.inl rfl, fun q => absurd q (by decide), fun _ v a b => ?_⟩
  · have hP := hw.1
    have b2 : (v : Int) < M 85 0 - 1 := b
    show (if v < 5 then (-1 : Int) else M 102 v) = -1
    rw [if_pos (by omega)]
  · unfold cmK; rw [if_neg h0]
  · have hP := hw.1
    have b2 : (v : Int) < M 85 0 - 1 := b
    show (if v < 5 then (-1 : Int) else M 102 v) = -1
    rw [if_pos (by omega)]
