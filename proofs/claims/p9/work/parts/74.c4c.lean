/-! most and more of the class -/
def zZ (M : MM) : Prop := M 41 0 = 0 ∧ (0 ≤ M 21 15 ∧ M 21 15 ≤ 492317280000)
/-- what was loaded -/
def zLo (M : MM) (w : Int) : MM := zld (up2 M 21 5 (M 1 1)) w (M 1 1).toNat
def zCO (M M' : MM) : Prop := (∀ c, c < 21 ∨ 44 < c → M' c = M c) ∧ zZ M'
theorem zld_22 (M : MM) (w : Int) {i k : Nat} (h : k < i) : zld M w i 22 k = M (3 + k) 0 := by
  unfold zld
  rw [zcol_ne _ (by decide), zcol_ne _ (by decide), zcol_ne _ (by decide), zcol_ne _ (by decide)]
  show (if k < i then M (3 + k) 0 else M 22 k) = _
  rw [if_pos h]
theorem zld_23 (M : MM) (w : Int) {i k : Nat} (h : k < i) : zld M w i 23 k = ldt M k := by
  unfold zld
  rw [zcol_ne _ (by decide), zcol_ne _ (by decide), zcol_ne _ (by decide)]
  show (if k < i then ldt M k else _) = _
  rw [if_pos h]
theorem zld_24 (M : MM) (w : Int) {i k : Nat} (h : k < i) : zld M w i 24 k = M (3 + k) 2 := by
  unfold zld
  rw [zcol_ne _ (by decide), zcol_ne _ (by decide)]
  show (if k < i then M (3 + k) 2 else _) = _
  rw [if_pos h]
theorem zld_25 (M : MM) (w : Int) {i k : Nat} (h : k < i) : zld M w i 25 k = ldp M w k := by
  unfold zld
  rw [zcol_ne _ (by decide)]
  show (if k < i then ldp M w k else _) = _
  rw [if_pos h]
theorem zld_26 (M : MM) (w : Int) {i k : Nat} (h : k < i) : zld M w i 26 k = M (3 + k) 4 := by
  unfold zld
  show (if k < i then M (3 + k) 4 else _) = _
  rw [if_pos h]
theorem zld_o (M : MM) (w : Int) {c : Nat} (h : c < 22 ∨ 26 < c) (i : Nat) : zld M w i c = M c := by
  unfold zld
  rw [zcol_ne _ (by omega), zcol_ne _ (by omega), zcol_ne _ (by omega), zcol_ne _ (by omega), zcol_ne _ (by omega)]
theorem zLo_5 (M : MM) (w : Int) : zLo M w 21 5 = M 1 1 := by
  unfold zLo
  rw [zld_o _ _ (by decide), up2_self]
theorem zLo_o (M : MM) (w : Int) {c : Nat} (h : c < 21 ∨ 26 < c) : zLo M w c = M c := by
  unfold zLo
  rw [zld_o _ _ (by omega), up2_ne _ _ _ _ (by omega)]
theorem zLo_j (M : MM) (w : Int) {j : Nat} (h : j ≠ 5) : zLo M w 21 j = M 21 j := by
  unfold zLo
  rw [zld_o _ _ (by decide), up2_in, if_neg h]
theorem zLo_z {M : MM} (hz : zZ M) (w : Int) : zZ (zLo M w) := by
  unfold zZ
  rw [zLo_o _ _ (by decide), zLo_j _ _ (by decide)]
  exact hz
theorem zLo_l {M : MM} (hW : CW M) {w : Int} (hw : 0 ≤ w ∧ w ≤ 2) : ∀ k : Nat, (k : Int) < zLo M w 21 5 → ZPL (zLo M w) k ∧ zLo M w 22 k ≠ zLo M w 23 k := by
  intro k hk
  rw [zLo_5] at hk
  have hP := hW.1
  have h10 := hW.2.1
  have q := hW.2.2 k hk
  unfold CL at q
  have hlt : k < (M 1 1).toNat := by omega
  unfold ZPL zLo
  rw [zld_22 _ _ hlt, zld_23 _ _ hlt, zld_24 _ _ hlt, zld_25 _ _ hlt, zld_26 _ _ hlt]
  unfold ldt ldp
  have e : ∀ j, up2 M 21 5 (M 1 1) (3 + k) j = M (3 + k) j := fun j => by rw [up2_ne _ _ _ _ (by omega)]
  rw [e, e, e, e, e, e, up2_ne _ _ _ _ (show (1 : Nat) ≠ 21 by decide)]
  have h1 : (if M (3 + k) 1 = M 1 0 - 1 then (4 : Int) else M (3 + k) 1) = 4 ∨ ((if M (3 + k) 1 = M 1 0 - 1 then (4 : Int) else M (3 + k) 1) = M (3 + k) 1 ∧ M (3 + k) 1 < M 1 0 - 1) := by
    by_cases c : M (3 + k) 1 = M 1 0 - 1
    · rw [if_pos c]; exact Or.inl rfl
    · rw [if_neg c]; exact Or.inr ⟨rfl, by omega⟩
  have h2 : 0 ≤ (if w = 1 then (if 0 < M (3 + k) 3 - M (3 + k) 5 then M (3 + k) 3 - M (3 + k) 5 else 0) else if w = 2 then M (3 + k) 3 + M (3 + k) 5 else M (3 + k) 3) ∧ (if w = 1 then (if 0 < M (3 + k) 3 - M (3 + k) 5 then M (3 + k) 3 - M (3 + k) 5 else 0) else if w = 2 then M (3 + k) 3 + M (3 + k) 5 else M (3 + k) 3) ≤ 17 := by
    by_cases c : w = 1
    · rw [if_pos c]
      by_cases c2 : 0 < M (3 + k) 3 - M (3 + k) 5
      · rw [if_pos c2]; omega
      · rw [if_neg c2]; omega
    · rw [if_neg c]
      by_cases c2 : w = 2
      · rw [if_pos c2]; omega
      · rw [if_neg c2]; omega
  omega
theorem zq_frc {s u : Int} (h0 : 0 ≤ s) (hu : 0 < u ∧ u ≤ 7514) (hle : s ≤ 42840000 * u) : (0 ≤ nU s (2520 * u) ∧ nU s (2520 * u) ≤ 17000 * nD s (2520 * u)) ∧ (1 ≤ nD s (2520 * u) ∧ nD s (2520 * u) ≤ 18935280) := by
  have hD : 0 < 2520 * u := by omega
  have h1 := nU_bd h0 hD
  have h2 := nD_bd (a := s) hD
  have h3 := nUD_mul (a := s) hD
  refine ⟨⟨h1.1, ?_⟩, by omega⟩
  have h4 : s * nD s (2520 * u) ≤ 42840000 * u * nD s (2520 * u) := Int.mul_le_mul_of_nonneg_right hle (by omega)
  rw [← h3] at h4
  have h5 : nU s (2520 * u) * (2520 * u) ≤ (17000 * nD s (2520 * u)) * (2520 * u) := by
    have e : 42840000 * u * nD s (2520 * u) = (17000 * nD s (2520 * u)) * (2520 * u) := by
      generalize nD s (2520 * u) = d
      have e1 : 42840000 * u * d = 42840000 * (u * d) := Int.mul_assoc _ _ _
      have e2 : 17000 * d * (2520 * u) = 17000 * (d * (2520 * u)) := Int.mul_assoc _ _ _
      have e3 : d * (2520 * u) = 2520 * (d * u) := Int.mul_left_comm _ _ _
      rw [e1, e2, e3, Int.mul_comm d u]
      omega
    rw [← e]
    exact h4
  exact Int.le_of_mul_le_mul_right h5 hD
theorem zq_diff {a b c d : Int} (h1 : 0 ≤ a ∧ a ≤ 17000 * b) (h2 : 1 ≤ b ∧ b ≤ 18935280) (h3 : 0 ≤ c ∧ c ≤ 17000 * d) (h4 : 1 ≤ d ∧ d ≤ 18935280) : (-9223372036854775808 < a * d - c * b ∧ a * d - c * b < 9223372036854775808) ∧ 0 < b * d ∧ b * d < 9223372036854775808 := by
  have p1 := mul_bd (a := a) (b := d) (A := 321899760000) (B := 18935280) (by omega) (by omega)
  have p2 := mul_bd (a := c) (b := b) (A := 321899760000) (B := 18935280) (by omega) (by omega)
  have p3 := mul_bd (a := b) (b := d) (A := 18935280) (B := 18935280) (by omega) (by omega)
  have p4 := Int.mul_pos (a := b) (b := d) (by omega) (by omega)
  omega
theorem zFG.co {M M1 M' : MM} {fa : Nat} (h0 : ∀ c, c < 21 ∨ 44 < c → M1 c = M c) (h : zFG M1 M' fa) (hfa : 42 ≤ fa ∧ fa ≤ 44) : zCO M M' := ⟨fun c hc => by rw [h.1 c (by omega) (by omega) (by omega) (by omega)]; exact h0 c hc, h.2.2.1, h.2.2.2⟩
set_option maxRecDepth 100000 in
set_option maxHeartbeats 4000000 in
theorem c_X4_most (G : GG) (l : Launch) (w b : Int) (M : MM) (hw : I32 w) (hb : I32 b) (hW : CW M) (hz : zZ M) : CMl G l yX4_most cX4_most 3 (some .long) 5 [.ref 0, vi w, vi b] M (fun z M' => ((w < 0 ∨ 2 < w) ∧ z = -1 ∧ M' = M) ∨ ((0 ≤ w ∧ w ≤ 2) ∧ ∃ (s u : Int) (L : MM), zLe (zLo M w) L s u ∧ ((b ≠ 0 ∧ z = nD s (2520 * u)) ∨ (b = 0 ∧ z = nU s (2520 * u))) ∧ zCO M M')) := by
  refine CT.intro (by decide) (Nat.le_of_ble_eq_true rfl) (fun E hE A T0 => ?_)
  subst hE
  refine a_iload_n (z := w) A dX4_most_0 rfl ?_
  refine a_iconst A dX4_most_1 ?_
  refine a_iconst A dX4_most_2 ?_
  refine m_invSi A (c_X4_within G _ w 0 2 M (by omega) (by omega) (by omega)) (by decide) mi_X4_within ms_X4_within cs_X4_51 dX4_most_3 rfl rfl (Nat.le_of_ble_eq_true rfl) (fun z3 M3 h3 => ?_)
  obtain ⟨e3, hc3⟩ := h3
  have e3 := e3.symm
  subst e3
  refine a_if_ne (tgt := 13) A dX4_most_6 (by decide) (by omega) (fun h6 => ?_) (fun h6 => ?_)
  · refine a_aload_n (z := 0) A dX4_most_13 rfl ?_
    refine gf_X4_34 (r := 21) A dX4_most_14 rfl (by decide) rfl ?_
    refine a_aload_n (z := 0) A dX4_most_17 rfl ?_
    refine gf_X4_12 (r := 1) A dX4_most_18 rfl (by decide) rfl ?_
    refine a_iload_n (z := w) A dX4_most_21 rfl ?_
    refine m_invVv A (c_X2_load G _ w M (by omega) hW) (by decide) mi_X2_load mv_X2_load cs_X4_85 cf2 dX4_most_22 rfl (by decide) rfl rfl (Nat.le_of_ble_eq_true rfl) (fun M22 h22 => ?_)
    have h22 : M22 = zLo M w := h22
    refine a_aload_n (z := 0) A dX4_most_25 rfl ?_
    refine gf_X4_34 (r := 21) A dX4_most_26 rfl (by decide) rfl ?_
    refine a_aload_n (z := 0) A dX4_most_29 rfl ?_
    refine gf_X4_41 (r := 42) A dX4_most_30 rfl (by decide) rfl ?_
    refine m_invVv A (c_X2_findLeast G _ 42 M22 rfl (by decide) (by rw [h22, zLo_5]; exact hW.2.1) (by rw [h22]; exact zLo_l hW (by omega)) (by rw [h22]; exact (zLo_z hz w).1) (by rw [h22]; exact (zLo_z hz w).2)) (by decide) mi_X2_findLeast mv_X2_findLeast cs_X4_89 cf2 dX4_most_33 rfl (by decide) rfl rfl (Nat.le_of_ble_eq_true rfl) (fun M33 h33 => ?_)
    obtain ⟨s, u, L, hfa, hle, hfg⟩ := h33
    rw [h22] at hle hfg
    have hco : zCO M M33 := hfg.co (fun c hc => zLo_o M w (by omega)) (by decide)
    have hx0 : M33 42 0 = nU s (2520 * u) := by rw [hfa, up2_in, if_neg (by decide), up2_self]
    have hx1 : M33 42 1 = nD s (2520 * u) := by rw [hfa, up2_self]
    refine a_aload_n (z := 0) A dX4_most_36 rfl ?_
    refine gf_X4_41 (r := 42) A dX4_most_37 rfl (by decide) rfl ?_
    refine a_iload_n (z := b) A dX4_most_40 rfl ?_
    refine m_invVl A (c_X0_number G _ 42 b M33 rfl (by decide) (by omega)) (by decide) mi_X0_number mv_X0_number cs_X4_93 cf0 dX4_most_41 rfl (by decide) rfl rfl (Nat.le_of_ble_eq_true rfl) (fun z41 M41 h41 => ?_)
    obtain ⟨e41, hc41⟩ := h41
    have e41 := e41.symm
    subst e41
    rw [hx0, hx1] at hc41
    exact m_lreturn A T0 dX4_most_44 (Or.inr ⟨by omega, s, u, L, hle, hc41, hco⟩)
  · refine a_ldc2 A lk_X4_83 dX4_most_9 ?_
    exact m_lreturn A T0 dX4_most_12 (Or.inl ⟨by omega, rfl, rfl⟩)
theorem zq_chr {M M1 : MM} {k r : Int} (hW : CW M) (h : zFG (zLo M 0) M1 43) (hk : 0 ≤ k ∧ k < M 1 1) (hr : 0 ≤ r ∧ r ≤ 100) : (0 ≤ up2 M1 24 k.toNat r 21 5 ∧ up2 M1 24 k.toNat r 21 5 ≤ 10) ∧ (∀ q : Nat, (q : Int) < up2 M1 24 k.toNat r 21 5 → ZPL (up2 M1 24 k.toNat r) q ∧ up2 M1 24 k.toNat r 22 q ≠ up2 M1 24 k.toNat r 23 q) ∧ up2 M1 24 k.toNat r 41 0 = 0 ∧ (0 ≤ up2 M1 24 k.toNat r 21 15 ∧ up2 M1 24 k.toNat r 21 15 ≤ 492317280000) ∧ True := by
  have e5 : up2 M1 24 k.toNat r 21 5 = M 1 1 := by
    rw [up2_ne _ _ _ _ (by decide), h.2.1 5 (by decide), zLo_5]
  refine ⟨by rw [e5]; exact hW.2.1, fun q hq => ?_, by rw [up2_ne _ _ _ _ (by decide)]; exact h.2.2.1, by rw [up2_ne _ _ _ _ (by decide)]; exact h.2.2.2, trivial⟩
  rw [e5] at hq
  have hz := zLo_l hW (w := 0) (by decide) q (by rw [zLo_5]; exact hq)
  unfold ZPL at hz ⊢
  rw [up2_ne _ _ _ _ (show (22 : Nat) ≠ 24 by decide), up2_ne _ _ _ _ (show (23 : Nat) ≠ 24 by decide), up2_ne _ _ _ _ (show (25 : Nat) ≠ 24 by decide), up2_ne _ _ _ _ (show (26 : Nat) ≠ 24 by decide), up2_in, h.1 22 (by decide) (by decide) (by decide) (by decide), h.1 23 (by decide) (by decide) (by decide) (by decide), h.1 24 (by decide) (by decide) (by decide) (by decide), h.1 25 (by decide) (by decide) (by decide) (by decide), h.1 26 (by decide) (by decide) (by decide) (by decide)]
  by_cases c : q = k.toNat
  · rw [if_pos c]; omega
  · rw [if_neg c]; exact hz
set_option maxRecDepth 100000 in
set_option maxHeartbeats 4000000 in
theorem c_X4_more (G : GG) (l : Launch) (k r b : Int) (M : MM) (hk : I32 k) (hr : I32 r) (hb : I32 b) (hW : CW M) (hz : zZ M) : CMl G l yX4_more cX4_more 4 (some .long) 5 [.ref 0, vi k, vi r, vi b] M (fun z M' => (¬ ((0 ≤ k ∧ k < M 1 1) ∧ 0 ≤ r ∧ r ≤ 100) ∧ z = 0 ∧ M' = M) ∨ (((0 ≤ k ∧ k < M 1 1) ∧ 0 ≤ r ∧ r ≤ 100) ∧ ∃ (s u s2 u2 : Int) (L L2 Mx : MM), zLe (zLo M 0) L s u ∧ zFG (zLo M 0) Mx 43 ∧ zLe (up2 Mx 24 k.toNat r) L2 s2 u2 ∧ ((b ≠ 0 ∧ z = nD (nU s2 (2520 * u2) * nD s (2520 * u) - nU s (2520 * u) * nD s2 (2520 * u2)) (nD s2 (2520 * u2) * nD s (2520 * u))) ∨ (b = 0 ∧ z = nU (nU s2 (2520 * u2) * nD s (2520 * u) - nU s (2520 * u) * nD s2 (2520 * u2)) (nD s2 (2520 * u2) * nD s (2520 * u)))) ∧ zCO M M')) := by
  refine CT.intro (by decide) (Nat.le_of_ble_eq_true rfl) (fun E hE A T0 => ?_)
  subst hE
  have hL := hW.2.1
  refine a_aload_n (z := 0) A dX4_more_0 rfl ?_
  refine gf_X4_12 (r := 1) A dX4_more_1 rfl (by decide) rfl ?_
  refine a_iload_n (z := k) A dX4_more_4 rfl ?_
  refine m_invVi A (c_X1_hasLane G _ k M (by omega) hL) (by decide) mi_X1_hasLane mv_X1_hasLane cs_X4_80 cf1 dX4_more_5 rfl (by decide) rfl rfl (Nat.le_of_ble_eq_true rfl) (fun z5 M5 h5 => ?_)
  obtain ⟨e5, hc5⟩ := h5
  have e5 := e5.symm
  subst e5
  refine a_if_eq (tgt := 18) A dX4_more_8 (by decide) (by omega) (fun h8 => ?_) (fun h8 => ?_)
  · refine a_lconst0 A dX4_more_18 ?_
    exact m_lreturn A T0 dX4_more_19 (Or.inl ⟨by omega, rfl, rfl⟩)
  · refine a_iload_n (z := r) A dX4_more_11 rfl ?_
    refine m_invSi A (c_X4_isRoom G _ r M (by omega)) (by decide) mi_X4_isRoom ms_X4_isRoom cs_X4_69 dX4_more_12 rfl rfl (Nat.le_of_ble_eq_true rfl) (fun z12 M12 h12 => ?_)
    obtain ⟨e12, hc12⟩ := h12
    have e12 := e12.symm
    subst e12
    refine a_if_ne (tgt := 20) A dX4_more_15 (by decide) (by omega) (fun h15 => ?_) (fun h15 => ?_)
    · refine a_aload_n (z := 0) A dX4_more_20 rfl ?_
      refine gf_X4_34 (r := 21) A dX4_more_21 rfl (by decide) rfl ?_
      refine a_aload_n (z := 0) A dX4_more_24 rfl ?_
      refine gf_X4_12 (r := 1) A dX4_more_25 rfl (by decide) rfl ?_
      refine a_iconst A dX4_more_28 ?_
      refine m_invVv A (c_X2_load G _ 0 M (by omega) hW) (by decide) mi_X2_load mv_X2_load cs_X4_85 cf2 dX4_more_29 rfl (by decide) rfl rfl (Nat.le_of_ble_eq_true rfl) (fun M29 h29 => ?_)
      have h29 : M29 = zLo M 0 := h29
      refine a_aload_n (z := 0) A dX4_more_32 rfl ?_
      refine gf_X4_34 (r := 21) A dX4_more_33 rfl (by decide) rfl ?_
      refine a_aload_n (z := 0) A dX4_more_36 rfl ?_
      refine gf_X4_45 (r := 43) A dX4_more_37 rfl (by decide) rfl ?_
      refine m_invVv A (c_X2_findLeast G _ 43 M29 rfl (by decide) (by rw [h29, zLo_5]; exact hW.2.1) (by rw [h29]; exact zLo_l hW (by omega)) (by rw [h29]; exact (zLo_z hz 0).1) (by rw [h29]; exact (zLo_z hz 0).2)) (by decide) mi_X2_findLeast mv_X2_findLeast cs_X4_89 cf2 dX4_more_40 rfl (by decide) rfl rfl (Nat.le_of_ble_eq_true rfl) (fun M40 h40 => ?_)
      obtain ⟨s, u, L, hfa, hle, hfg⟩ := h40
      rw [h29] at hle hfg
      have hco : zCO M M40 := hfg.co (fun c hc => zLo_o M 0 (by omega)) (by decide)
      have hx0 : M40 43 0 = nU s (2520 * u) := by rw [hfa, up2_in, if_neg (by decide), up2_self]
      have hx1 : M40 43 1 = nD s (2520 * u) := by rw [hfa, up2_self]
      refine a_aload_n (z := 0) A dX4_more_43 rfl ?_
      refine gf_X4_34 (r := 21) A dX4_more_44 rfl (by decide) rfl ?_
      refine a_iload_n (z := k) A dX4_more_47 rfl ?_
      refine a_iload_n (z := r) A dX4_more_48 rfl ?_
      refine m_invVv A (c_X2_changeRoom G _ k r M40 (by omega)) (by decide) mi_X2_changeRoom mv_X2_changeRoom cs_X4_97 cf2 dX4_more_49 rfl (by decide) rfl rfl (Nat.le_of_ble_eq_true rfl) (fun M49 h49 => ?_)
      have h49 : M49 = up2 M40 24 k.toNat r := h49
      have hch := zq_chr hW hfg (show (0 : Int) ≤ k ∧ k < M 1 1 by omega) (show (0 : Int) ≤ r ∧ r ≤ 100 by omega)
      rw [← h49] at hch
      refine a_aload_n (z := 0) A dX4_more_52 rfl ?_
      refine gf_X4_34 (r := 21) A dX4_more_53 rfl (by decide) rfl ?_
      refine a_aload_n (z := 0) A dX4_more_56 rfl ?_
      refine gf_X4_48 (r := 44) A dX4_more_57 rfl (by decide) rfl ?_
      refine m_invVv A (c_X2_findLeast G _ 44 M49 rfl (by decide) hch.1 hch.2.1 hch.2.2.1 hch.2.2.2.1) (by decide) mi_X2_findLeast mv_X2_findLeast cs_X4_89 cf2 dX4_more_60 rfl (by decide) rfl rfl (Nat.le_of_ble_eq_true rfl) (fun M60 h60 => ?_)
      obtain ⟨s2, u2, L2, hfa2, hle2, hfg2⟩ := h60
      have hco2 : zCO M M60 := hfg2.co (fun c hc => by rw [h49, up2_ne _ _ _ _ (by omega)]; exact hco.1 c hc) (by decide)
      have hy0 : M60 44 0 = nU s2 (2520 * u2) := by rw [hfa2, up2_in, if_neg (by decide), up2_self]
      have hy1 : M60 44 1 = nD s2 (2520 * u2) := by rw [hfa2, up2_self]
      have e43 : M60 43 = M40 43 := by rw [hfg2.1 43 (by decide) (by decide) (by decide) (by decide), h49, up2_ne _ _ _ _ (by decide)]
      have hx2 : M60 43 0 = nU s (2520 * u) := by rw [e43]; exact hx0
      have hx3 : M60 43 1 = nD s (2520 * u) := by rw [e43]; exact hx1
      have f1 := zq_frc hle.2.2.1.1.1 ⟨hle.2.2.2.1, hle.2.2.1.2.1.2⟩ hle.2.2.2.2
      have f2 := zq_frc hle2.2.2.1.1.1 ⟨hle2.2.2.2.1, hle2.2.2.1.2.1.2⟩ hle2.2.2.2.2
      have fd := zq_diff f2.1 f2.2 f1.1 f1.2
      refine a_aload_n (z := 0) A dX4_more_63 rfl ?_
      refine gf_X4_41 (r := 42) A dX4_more_64 rfl (by decide) rfl ?_
      refine a_aload_n (z := 0) A dX4_more_67 rfl ?_
      refine gf_X4_48 (r := 44) A dX4_more_68 rfl (by decide) rfl ?_
      refine a_aload_n (z := 0) A dX4_more_71 rfl ?_
      refine gf_X4_45 (r := 43) A dX4_more_72 rfl (by decide) rfl ?_
      refine m_invVv A (c_X0_setDifference G _ 42 44 43 M60 rfl (by decide) rfl (by decide) rfl (by decide) (by rw [hy0, hy1, hx2, hx3]; exact fd.1) (by rw [hy1, hx3]; exact fd.2)) (by decide) mi_X0_setDifference mv_X0_setDifference cs_X4_101 cf0 dX4_more_75 rfl (by decide) rfl rfl (Nat.le_of_ble_eq_true rfl) (fun M75 h75 => ?_)
      rw [hy0, hy1, hx2, hx3] at h75
      have hco3 : zCO M M75 := by
          rw [h75]
          exact ⟨fun c hc => by rw [up2_ne _ _ _ _ (by omega), up2_ne _ _ _ _ (by omega)]; exact hco2.1 c hc, hco2.2⟩
      have hw0 : M75 42 0 = nU (nU s2 (2520 * u2) * nD s (2520 * u) - nU s (2520 * u) * nD s2 (2520 * u2)) (nD s2 (2520 * u2) * nD s (2520 * u)) := by rw [h75, up2_in, if_neg (by decide), up2_self]
      have hw1 : M75 42 1 = nD (nU s2 (2520 * u2) * nD s (2520 * u) - nU s (2520 * u) * nD s2 (2520 * u2)) (nD s2 (2520 * u2) * nD s (2520 * u)) := by rw [h75, up2_self]
      refine a_aload_n (z := 0) A dX4_more_78 rfl ?_
      refine gf_X4_41 (r := 42) A dX4_more_79 rfl (by decide) rfl ?_
      refine a_iload_n (z := b) A dX4_more_82 rfl ?_
      refine m_invVl A (c_X0_number G _ 42 b M75 rfl (by decide) (by omega)) (by decide) mi_X0_number mv_X0_number cs_X4_93 cf0 dX4_more_83 rfl (by decide) rfl rfl (Nat.le_of_ble_eq_true rfl) (fun z83 M83 h83 => ?_)
      obtain ⟨e83, hc83⟩ := h83
      have e83 := e83.symm
      subst e83
      rw [hw0, hw1] at hc83
      exact m_lreturn A T0 dX4_more_86 (by rw [h49] at hle2; exact Or.inr ⟨by omega, s, u, s2, u2, L, L2, M40, hle, hfg, hle2, hc83, hco3⟩)
    · refine a_lconst0 A dX4_more_18 ?_
      exact m_lreturn A T0 dX4_more_19 (Or.inl ⟨by omega, rfl, rfl⟩)
