theorem zq_balF {M : MM} {i : Nat} (hl : CL M i) (v : Int) : -57153600000 ≤ balF M v i ∧ balF M v i ≤ 57153600000 := by
  unfold CL at hl
  have h7 := parts_bd (q := M (3 + i) 7) (by omega)
  have h4 := parts_bd (q := M (3 + i) 4) (by omega)
  have a1 := mul_bd (a := M (3 + i) 6) (b := (2520 : Int).tdiv (M (3 + i) 7)) (A := 1000) (B := 2520) (by omega) (by omega)
  have a2 := mul_bd (b := M (3 + i) 3) (A := 1000 * 2520) (B := 9) a1 (by omega)
  have a3 := mul_bd (b := (2520 : Int).tdiv (M (3 + i) 4)) (A := 1000 * 2520 * 9) (B := 2520) a2 (by omega)
  unfold balF
  by_cases c1 : M (3 + i) 1 = v
  · rw [if_pos c1]
    by_cases c2 : M (3 + i) 0 = v
    · rw [if_pos c2]; omega
    · rw [if_neg c2]; omega
  · rw [if_neg c1]
    by_cases c2 : M (3 + i) 0 = v
    · rw [if_pos c2]; omega
    · rw [if_neg c2]; omega
theorem zq_sumbd {f : Nat → Int} : ∀ n : Nat, (∀ k, k < n → -57153600000 ≤ f k ∧ f k ≤ 57153600000) → -((n : Int) * 57153600000) ≤ sumZ f n ∧ sumZ f n ≤ (n : Int) * 57153600000 := by
  intro n
  induction n with
  | zero => intro _; exact ⟨by show -(0 * 57153600000) ≤ (0 : Int); omega, by show (0 : Int) ≤ 0 * 57153600000; omega⟩
  | succ n ih =>
    intro h
    have h1 := ih (fun k hk => h k (by omega))
    have h2 := h n (by omega)
    show -(((n + 1 : Nat) : Int) * 57153600000) ≤ sumZ f n + f n ∧ sumZ f n + f n ≤ ((n + 1 : Nat) : Int) * 57153600000
    omega
theorem zq_bal {M : MM} (hW : CW M) (v : Int) : -571536000000 ≤ sumZ (balF M v) (M 1 1).toNat ∧ sumZ (balF M v) (M 1 1).toNat ≤ 571536000000 := by
  have h0 := hW.2.1
  have h := zq_sumbd (f := balF M v) (M 1 1).toNat (fun k hk => zq_balF (hW.2.2 k (by omega)) v)
  omega
theorem zq_CW4 {M : MM} (h : CW M) (x : Int) : CW (up2 M 1 4 x) := by
  refine ⟨h.1, h.2.1, fun i hi => ?_⟩
  have q := h.2.2 i hi
  unfold CL at q ⊢
  rw [up2_ne _ _ _ _ (show 3 + i ≠ 1 by omega)]
  exact q
def RGc (M : MM) : Prop := (∀ i : Nat, (i : Int) < M 1 1 → M (3 + i) 6 ≤ M (3 + i) 2 * M (3 + i) 7) ∧ ∀ v : Nat, 1 ≤ v → (v : Int) < M 1 0 - 1 → 0 ≤ sumZ (balF M (v : Int)) (M 1 1).toNat
set_option maxRecDepth 100000 in
set_option maxHeartbeats 4000000 in
theorem c_X4_left (G : GG) (l : Launch) (v b : Int) (M : MM) (hv : I32 v) (hb : I32 b) (hW : CW M) : CMl G l yX4_left cX4_left 5 (some .long) 3 [.ref 0, vi v, vi b] M (fun z M' => ((v < 0 ∨ M 1 0 ≤ v) ∧ z = 0 ∧ M' = M) ∨ ((0 ≤ v ∧ v < M 1 0) ∧ ∃ s : Int, ((v = 0 ∧ s = -(sumZ (balF M v) (M 1 1).toNat)) ∨ (v ≠ 0 ∧ s = (sumZ (balF M v) (M 1 1).toNat))) ∧ M' = up2 (up2 M 42 0 (nU s 6350400)) 42 1 (nD s 6350400) ∧ ((b ≠ 0 ∧ z = nD s 6350400) ∨ (b = 0 ∧ z = nU s 6350400)))) := by
  refine CT.intro (by decide) (Nat.le_of_ble_eq_true rfl) (fun E hE A T0 => ?_)
  subst hE
  have hP := hW.1
  have hsb := zq_bal hW v
  refine a_aload_n (z := 0) A dX4_left_0 rfl ?_
  refine gf_X4_12 (r := 1) A dX4_left_1 rfl (by decide) rfl ?_
  refine a_iload_n (z := v) A dX4_left_4 rfl ?_
  refine m_invVi A (c_X1_hasPost G _ v M (by omega) hP) (by decide) mi_X1_hasPost mv_X1_hasPost cs_X4_105 cf1 dX4_left_5 rfl (by decide) rfl rfl (Nat.le_of_ble_eq_true rfl) (fun z5 M5 h5 => ?_)
  obtain ⟨e5, hc5⟩ := h5
  have e5 := e5.symm
  subst e5
  have hc5 : (z5 = 1 ∧ 0 ≤ v ∧ v < M 1 0) ∨ (z5 = 0 ∧ (v < 0 ∨ M 1 0 ≤ v)) := hc5
  refine a_if_ne (tgt := 13) A dX4_left_8 (by decide) (by omega) (fun h8 => ?_) (fun h8 => ?_)
  · refine a_aload_n (z := 0) A dX4_left_13 rfl ?_
    refine gf_X4_12 (r := 1) A dX4_left_14 rfl (by decide) rfl ?_
    refine a_iload_n (z := v) A dX4_left_17 rfl ?_
    refine m_invVl A (c_X1_balance G _ v M (by omega) hW) (by decide) mi_X1_balance mv_X1_balance cs_X4_138 cf1 dX4_left_18 rfl (by decide) rfl rfl (Nat.le_of_ble_eq_true rfl) (fun z18 M18 h18 => ?_)
    obtain ⟨e18, rfl⟩ := h18
    have e18 := e18.symm
    subst e18
    refine a_lstore_n (lv' := [.ref 0, vi v, vi b, vl (sumZ (balF M v) (M 1 1).toNat), jk]) A dX4_left_21 (by decide) rfl ?_
    refine a_aload_n (z := 0) A dX4_left_22 rfl ?_
    refine gf_X4_41 (r := 42) A dX4_left_23 rfl (by decide) rfl ?_
    refine a_iload_n (z := v) A dX4_left_26 rfl ?_
    refine a_if_ne (tgt := 35) A dX4_left_27 (by decide) (by omega) (fun h27 => ?_) (fun h27 => ?_)
    · refine a_lload_n (z := (sumZ (balF M v) (M 1 1).toNat)) A dX4_left_35 rfl ?_
      refine a_ldc2 A lk_X4_142 dX4_left_36 ?_
      refine m_invVv A (c_X0_set G _ 42 (sumZ (balF M v) (M 1 1).toNat) 6350400 M rfl (by decide) (by omega) (by omega)) (by decide) mi_X0_set mv_X0_set cs_X4_131 cf0 dX4_left_39 rfl (by decide) rfl rfl (Nat.le_of_ble_eq_true rfl) (fun M39 h39 => ?_)
      have h39 := h39.symm
      subst h39
      refine a_aload_n (z := 0) A dX4_left_42 rfl ?_
      refine gf_X4_41 (r := 42) A dX4_left_43 rfl (by decide) rfl ?_
      refine a_iload_n (z := b) A dX4_left_46 rfl ?_
      refine m_invVl A (c_X0_number G _ 42 b (up2 (up2 M 42 0 (nU (sumZ (balF M v) (M 1 1).toNat) 6350400)) 42 1 (nD (sumZ (balF M v) (M 1 1).toNat) 6350400)) rfl (by decide) (by omega)) (by decide) mi_X0_number mv_X0_number cs_X4_93 cf0 dX4_left_47 rfl (by decide) rfl rfl (Nat.le_of_ble_eq_true rfl) (fun z47 M47 h47 => ?_)
      obtain ⟨e47, hc47⟩ := h47
      have e47 := e47.symm
      subst e47
      exact m_lreturn A T0 dX4_left_50 (by first | exact Or.inl ⟨by omega, rfl, rfl⟩ | exact Or.inr ⟨by omega, _, Or.inl ⟨h27, rfl⟩, rfl, hc47⟩ | exact Or.inr ⟨by omega, _, Or.inr ⟨h27, rfl⟩, rfl, hc47⟩)
    · refine a_lload_n (z := (sumZ (balF M v) (M 1 1).toNat)) A dX4_left_30 rfl ?_
      refine a_lneg A dX4_left_31 ?_
      refine a_goto (tgt := 36) A dX4_left_32 (by decide) ?_
      refine a_ldc2 A lk_X4_142 dX4_left_36 ?_
      refine m_invVv A (c_X0_set G _ 42 (-(sumZ (balF M v) (M 1 1).toNat)) 6350400 M rfl (by decide) (by omega) (by omega)) (by decide) mi_X0_set mv_X0_set cs_X4_131 cf0 dX4_left_39 rfl (by decide) rfl rfl (Nat.le_of_ble_eq_true rfl) (fun M39 h39 => ?_)
      have h39 := h39.symm
      subst h39
      refine a_aload_n (z := 0) A dX4_left_42 rfl ?_
      refine gf_X4_41 (r := 42) A dX4_left_43 rfl (by decide) rfl ?_
      refine a_iload_n (z := b) A dX4_left_46 rfl ?_
      refine m_invVl A (c_X0_number G _ 42 b (up2 (up2 M 42 0 (nU (-(sumZ (balF M v) (M 1 1).toNat)) 6350400)) 42 1 (nD (-(sumZ (balF M v) (M 1 1).toNat)) 6350400)) rfl (by decide) (by omega)) (by decide) mi_X0_number mv_X0_number cs_X4_93 cf0 dX4_left_47 rfl (by decide) rfl rfl (Nat.le_of_ble_eq_true rfl) (fun z47 M47 h47 => ?_)
      obtain ⟨e47, hc47⟩ := h47
      have e47 := e47.symm
      subst e47
      exact m_lreturn A T0 dX4_left_50 (by first | exact Or.inl ⟨by omega, rfl, rfl⟩ | exact Or.inr ⟨by omega, _, Or.inl ⟨h27, rfl⟩, rfl, hc47⟩ | exact Or.inr ⟨by omega, _, Or.inr ⟨h27, rfl⟩, rfl, hc47⟩)
  · refine a_lconst0 A dX4_left_11 ?_
    exact m_lreturn A T0 dX4_left_12 (by first | exact Or.inl ⟨by omega, rfl, rfl⟩ | exact Or.inr ⟨by omega, _, Or.inl ⟨h27, rfl⟩, rfl, hc47⟩ | exact Or.inr ⟨by omega, _, Or.inr ⟨h27, rfl⟩, rfl, hc47⟩)
set_option maxRecDepth 100000 in
set_option maxHeartbeats 4000000 in
theorem c_X4_gain (G : GG) (l : Launch) (b : Int) (N : Nat) (M : MM) (hb : I32 b) (hN4 : M 1 4 = (N : Int)) (hN : N ≤ 4) (hW : CW M) (hr : RW M 13 N) : CMl G l yX4_gain cX4_gain 2 (some .long) 4 [.ref 0, vi b] M (fun z M' => (N = 0 ∧ z = 0 ∧ M' = M) ∨ (N ≠ 0 ∧ M' = up2 (up2 M 42 0 (nU (cU M 13 N) (cD M 13 N))) 42 1 (nD (cU M 13 N) (cD M 13 N)) ∧ ((b ≠ 0 ∧ z = (nD (cU M 13 N) (cD M 13 N))) ∨ (b = 0 ∧ z = (nU (cU M 13 N) (cD M 13 N)))))) := by
  refine CT.intro (by decide) (Nat.le_of_ble_eq_true rfl) (fun E hE A T0 => ?_)
  subst hE
  refine a_aload_n (z := 0) A dX4_gain_0 rfl ?_
  refine gf_X4_12 (r := 1) A dX4_gain_1 rfl (by decide) rfl ?_
  refine gf_X4_120 (x := M 1 4) A dX4_gain_4 rfl (by decide) rfl ?_
  refine a_if_ne (tgt := 12) A dX4_gain_7 (by decide) (by omega) (fun h7 => ?_) (fun h7 => ?_)
  · refine a_aload_n (z := 0) A dX4_gain_12 rfl ?_
    refine gf_X4_12 (r := 1) A dX4_gain_13 rfl (by decide) rfl ?_
    refine a_aload_n (z := 0) A dX4_gain_16 rfl ?_
    refine gf_X4_12 (r := 1) A dX4_gain_17 rfl (by decide) rfl ?_
    refine gf_X4_123 (r := 13) A dX4_gain_20 rfl (by decide) rfl ?_
    refine a_aload_n (z := 0) A dX4_gain_23 rfl ?_
    refine gf_X4_12 (r := 1) A dX4_gain_24 rfl (by decide) rfl ?_
    refine gf_X4_120 (x := (N : Int)) A dX4_gain_27 rfl (by decide) hN4 ?_
    refine a_aload_n (z := 0) A dX4_gain_30 rfl ?_
    refine gf_X4_41 (r := 42) A dX4_gain_31 rfl (by decide) rfl ?_
    refine m_invVv A (c_X1_multiplyShares G _ 13 N 42 M rfl (by decide) rfl (by decide) hN hW hr) (by decide) mi_X1_multiplyShares mv_X1_multiplyShares cs_X4_127 cf1 dX4_gain_34 rfl (by decide) rfl rfl (Nat.le_of_ble_eq_true rfl) (fun M34 h34 => ?_)
    have h34 := h34.symm
    subst h34
    refine a_aload_n (z := 0) A dX4_gain_37 rfl ?_
    refine gf_X4_41 (r := 42) A dX4_gain_38 rfl (by decide) rfl ?_
    refine a_iload_n (z := b) A dX4_gain_41 rfl ?_
    refine m_invVl A (c_X0_number G _ 42 b (up2 (up2 M 42 0 (nU (cU M 13 N) (cD M 13 N))) 42 1 (nD (cU M 13 N) (cD M 13 N))) rfl (by decide) (by omega)) (by decide) mi_X0_number mv_X0_number cs_X4_93 cf0 dX4_gain_42 rfl (by decide) rfl rfl (Nat.le_of_ble_eq_true rfl) (fun z42 M42 h42 => ?_)
    obtain ⟨e42, hc42⟩ := h42
    have e42 := e42.symm
    subst e42
    exact m_lreturn A T0 dX4_gain_45 (by first | exact Or.inl ⟨by omega, rfl, rfl⟩ | exact Or.inr ⟨by omega, rfl, hc42⟩)
  · refine a_lconst0 A dX4_gain_10 ?_
    exact m_lreturn A T0 dX4_gain_11 (by first | exact Or.inl ⟨by omega, rfl, rfl⟩ | exact Or.inr ⟨by omega, rfl, hc42⟩)
set_option maxRecDepth 100000 in
set_option maxHeartbeats 4000000 in
theorem c_X4_send (G : GG) (l : Launch) (k u v : Int) (M : MM) (hk : I32 k) (hu : I32 u) (hv : I32 v) (hL : 0 ≤ M 1 1 ∧ M 1 1 ≤ 10) : CMi G l yX4_send cX4_send 4 (some .boolean) 3 [.ref 0, vi k, vi u, vi v] M (fun z M' => (z = 0 ∧ ¬ ((0 ≤ k ∧ k < M 1 1) ∧ (0 ≤ u ∧ u ≤ 1000) ∧ 1 ≤ v ∧ v ≤ 9) ∧ M' = M) ∨ (z = 1 ∧ ((0 ≤ k ∧ k < M 1 1) ∧ (0 ≤ u ∧ u ≤ 1000) ∧ 1 ≤ v ∧ v ≤ 9) ∧ M' = up2 (up2 (up2 (up2 M 42 0 (nU u v)) 42 1 (nD u v)) (3 + k.toNat) 6 (nU u v)) (3 + k.toNat) 7 (nD u v))) := by
  refine CT.intro (by decide) (Nat.le_of_ble_eq_true rfl) (fun E hE A T0 => ?_)
  subst hE
  refine a_aload_n (z := 0) A dX4_send_0 rfl ?_
  refine gf_X4_12 (r := 1) A dX4_send_1 rfl (by decide) rfl ?_
  refine a_iload_n (z := k) A dX4_send_4 rfl ?_
  refine m_invVi A (c_X1_hasLane G _ k M (by omega) hL) (by decide) mi_X1_hasLane mv_X1_hasLane cs_X4_80 cf1 dX4_send_5 rfl (by decide) rfl rfl (Nat.le_of_ble_eq_true rfl) (fun z5 M5 h5 => ?_)
  obtain ⟨e5, hc5⟩ := h5
  have e5 := e5.symm
  subst e5
  refine a_if_ne (tgt := 13) A dX4_send_8 (by decide) (by omega) (fun h8 => ?_) (fun h8 => ?_)
  · refine a_iload_n (z := u) A dX4_send_13 rfl ?_
    refine a_iconst A dX4_send_14 ?_
    refine a_sipush A dX4_send_15 (by decide) ?_
    refine m_invSi A (c_X4_within G _ u 0 1000 M (by omega) (by omega) (by omega)) (by decide) mi_X4_within ms_X4_within cs_X4_51 dX4_send_18 rfl rfl (Nat.le_of_ble_eq_true rfl) (fun z18 M18 h18 => ?_)
    obtain ⟨e18, hc18⟩ := h18
    have e18 := e18.symm
    subst e18
    refine a_if_eq (tgt := 34) A dX4_send_21 (by decide) (by omega) (fun h21 => ?_) (fun h21 => ?_)
    · refine a_iconst A dX4_send_34 ?_
      exact m_zreturn A T0 dX4_send_35 (by first | exact Or.inl rfl | exact Or.inr rfl | omega) (by first | exact Or.inl ⟨rfl, by omega, rfl⟩ | exact Or.inr ⟨rfl, by omega, rfl⟩)
    · refine a_iload_n (z := v) A dX4_send_24 rfl ?_
      refine a_iconst A dX4_send_25 ?_
      refine a_bipush A dX4_send_26 (by decide) ?_
      refine m_invSi A (c_X4_within G _ v 1 9 M (by omega) (by omega) (by omega)) (by decide) mi_X4_within ms_X4_within cs_X4_51 dX4_send_28 rfl rfl (Nat.le_of_ble_eq_true rfl) (fun z28 M28 h28 => ?_)
      obtain ⟨e28, hc28⟩ := h28
      have e28 := e28.symm
      subst e28
      refine a_if_ne (tgt := 36) A dX4_send_31 (by decide) (by omega) (fun h31 => ?_) (fun h31 => ?_)
      · refine a_aload_n (z := 0) A dX4_send_36 rfl ?_
        refine gf_X4_41 (r := 42) A dX4_send_37 rfl (by decide) rfl ?_
        refine a_iload_n (z := u) A dX4_send_40 rfl ?_
        refine a_i2l A dX4_send_41 (by omega) ?_
        refine a_iload_n (z := v) A dX4_send_42 rfl ?_
        refine a_i2l A dX4_send_43 (by omega) ?_
        refine m_invVv A (c_X0_set G _ 42 u v M rfl (by decide) (by omega) (by omega)) (by decide) mi_X0_set mv_X0_set cs_X4_131 cf0 dX4_send_44 rfl (by decide) rfl rfl (Nat.le_of_ble_eq_true rfl) (fun M44 h44 => ?_)
        have h44 := h44.symm
        subst h44
        refine a_aload_n (z := 0) A dX4_send_47 rfl ?_
        refine gf_X4_12 (r := 1) A dX4_send_48 rfl (by decide) rfl ?_
        refine gf_X4_76 (r := 2) A dX4_send_51 rfl (by decide) rfl ?_
        refine a_iload_n (z := k) A dX4_send_54 rfl ?_
        refine a_aaload (i := k) (r := (3 + k.toNat)) A dX4_send_55 rfl (Or.inr rfl) (by decide) (by decide) (by omega) (rf2 (by omega)) ?_
        refine a_bipush A dX4_send_56 (by decide) ?_
        refine a_aload_n (z := 0) A dX4_send_58 rfl ?_
        refine gf_X4_41 (r := 42) A dX4_send_59 rfl (by decide) rfl ?_
        refine a_iconst A dX4_send_62 ?_
        refine m_invVl A (c_X0_number G _ 42 0 (up2 (up2 M 42 0 (nU u v)) 42 1 (nD u v)) rfl (by decide) (by omega)) (by decide) mi_X0_number mv_X0_number cs_X4_93 cf0 dX4_send_63 rfl (by decide) rfl rfl (Nat.le_of_ble_eq_true rfl) (fun z63 M63 h63 => ?_)
        obtain ⟨e63, hc63⟩ := h63
        have e63 := e63.symm
        subst e63
        have hz63 : z63 = nU u v := hc63.elim (fun q => absurd rfl q.1) (fun q => q.2)
        subst hz63
        refine a_l2i A dX4_send_66 ?_
        refine a_iastore (i := 6) (j := 6) A dX4_send_67 (ly3 (by omega)) (by omega) (by decide) (by omega) rfl ?_
        refine a_aload_n (z := 0) A dX4_send_68 rfl ?_
        refine gf_X4_12 (r := 1) A dX4_send_69 rfl (by decide) rfl ?_
        refine gf_X4_76 (r := 2) A dX4_send_72 rfl (by decide) rfl ?_
        refine a_iload_n (z := k) A dX4_send_75 rfl ?_
        refine a_aaload (i := k) (r := (3 + k.toNat)) A dX4_send_76 rfl (Or.inr rfl) (by decide) (by decide) (by omega) (rf2 (by omega)) ?_
        refine a_bipush A dX4_send_77 (by decide) ?_
        refine a_aload_n (z := 0) A dX4_send_79 rfl ?_
        refine gf_X4_41 (r := 42) A dX4_send_80 rfl (by decide) rfl ?_
        refine a_iconst A dX4_send_83 ?_
        refine m_invVl A (c_X0_number G _ 42 1 (up2 (up2 (up2 M 42 0 (nU u v)) 42 1 (nD u v)) (3 + k.toNat) 6 (nU u v)) rfl (by decide) (by omega)) (by decide) mi_X0_number mv_X0_number cs_X4_93 cf0 dX4_send_84 rfl (by decide) rfl rfl (Nat.le_of_ble_eq_true rfl) (fun z84 M84 h84 => ?_)
        obtain ⟨e84, hc84⟩ := h84
        have e84 := e84.symm
        subst e84
        have hz84 : z84 = nD u v := hc84.elim (fun q => q.2.trans (by rw [up2_ne _ _ _ _ (by omega)]; rfl)) (fun q => absurd q.1 (by decide))
        subst hz84
        refine a_l2i A dX4_send_87 ?_
        refine a_iastore (i := 7) (j := 7) A dX4_send_88 (ly3 (by omega)) (by omega) (by decide) (by omega) rfl ?_
        refine a_iconst A dX4_send_89 ?_
        exact m_zreturn A T0 dX4_send_90 (by first | exact Or.inl rfl | exact Or.inr rfl | omega) (by first | exact Or.inl ⟨rfl, by omega, rfl⟩ | exact Or.inr ⟨rfl, by omega, rfl⟩)
      · refine a_iconst A dX4_send_34 ?_
        exact m_zreturn A T0 dX4_send_35 (by first | exact Or.inl rfl | exact Or.inr rfl | omega) (by first | exact Or.inl ⟨rfl, by omega, rfl⟩ | exact Or.inr ⟨rfl, by omega, rfl⟩)
  · refine a_iconst A dX4_send_11 ?_
    exact m_zreturn A T0 dX4_send_12 (by first | exact Or.inl rfl | exact Or.inr rfl | omega) (by first | exact Or.inl ⟨rfl, by omega, rfl⟩ | exact Or.inr ⟨rfl, by omega, rfl⟩)
set_option maxRecDepth 100000 in
set_option maxHeartbeats 4000000 in
theorem c_X4_way (G : GG) (l : Launch) (f t : Int) (M : MM) (hf : I32 f) (ht : I32 t) (hW : CW M) : CMi G l yX4_way cX4_way 3 (some .int) 11 [.ref 0, vi f, vi t] M (fun z M' => (¬ ((0 ≤ f ∧ f < M 1 0) ∧ (0 ≤ t ∧ t < M 1 0) ∧ f ≠ t) ∧ z = -1 ∧ M' = (up2 M 1 4 0)) ∨ (((0 ≤ f ∧ f < M 1 0) ∧ (0 ≤ t ∧ t < M 1 0) ∧ f ≠ t) ∧ (((zqF (up2 M 1 4 0) f t) 16 4 = 0 ∧ z = -1 ∧ M' = (zqF (up2 M 1 4 0) f t)) ∨ ((zqF (up2 M 1 4 0) f t) 16 4 ≠ 0 ∧ z = (zqF (up2 M 1 4 0) f t) 16 4 ∧ M' = up2 (cp2 (zqF (up2 M 1 4 0) f t) 19 13 4) 1 4 ((zqF (up2 M 1 4 0) f t) 16 4))))) := by
  refine CT.intro (by decide) (Nat.le_of_ble_eq_true rfl) (fun E hE A T0 => ?_)
  subst hE
  have hP := hW.1
  have hW1 := zq_CW4 hW 0
  have hX := (zq_F_keep hW1 f t).2.2.2.1
  refine a_aload_n (z := 0) A dX4_way_0 rfl ?_
  refine gf_X4_12 (r := 1) A dX4_way_1 rfl (by decide) rfl ?_
  refine m_invVv A (c_X1_dropRow G _ M) (by decide) mi_X1_dropRow mv_X1_dropRow cs_X4_62 cf1 dX4_way_4 rfl (by decide) rfl rfl (Nat.le_of_ble_eq_true rfl) (fun M4 h4 => ?_)
  have h4 := h4.symm
  subst h4
  refine a_aload_n (z := 0) A dX4_way_7 rfl ?_
  refine gf_X4_12 (r := 1) A dX4_way_8 rfl (by decide) rfl ?_
  refine a_iload_n (z := f) A dX4_way_11 rfl ?_
  refine m_invVi A (c_X1_hasPost G _ f (up2 M 1 4 0) (by omega) hP) (by decide) mi_X1_hasPost mv_X1_hasPost cs_X4_105 cf1 dX4_way_12 rfl (by decide) rfl rfl (Nat.le_of_ble_eq_true rfl) (fun z12 M12 h12 => ?_)
  obtain ⟨e12, hc12⟩ := h12
  have e12 := e12.symm
  subst e12
  have hc12 : (z12 = 1 ∧ 0 ≤ f ∧ f < M 1 0) ∨ (z12 = 0 ∧ (f < 0 ∨ M 1 0 ≤ f)) := hc12
  refine a_if_eq (tgt := 34) A dX4_way_15 (by decide) (by omega) (fun h15 => ?_) (fun h15 => ?_)
  · refine a_iconst A dX4_way_34 ?_
    exact m_ireturn A T0 dX4_way_35 (by first | exact Or.inl ⟨by omega, rfl, rfl⟩ | exact Or.inr ⟨by omega, h50⟩)
  · refine a_aload_n (z := 0) A dX4_way_18 rfl ?_
    refine gf_X4_12 (r := 1) A dX4_way_19 rfl (by decide) rfl ?_
    refine a_iload_n (z := t) A dX4_way_22 rfl ?_
    refine m_invVi A (c_X1_hasPost G _ t (up2 M 1 4 0) (by omega) hP) (by decide) mi_X1_hasPost mv_X1_hasPost cs_X4_105 cf1 dX4_way_23 rfl (by decide) rfl rfl (Nat.le_of_ble_eq_true rfl) (fun z23 M23 h23 => ?_)
    obtain ⟨e23, hc23⟩ := h23
    have e23 := e23.symm
    subst e23
    have hc23 : (z23 = 1 ∧ 0 ≤ t ∧ t < M 1 0) ∨ (z23 = 0 ∧ (t < 0 ∨ M 1 0 ≤ t)) := hc23
    refine a_if_eq (tgt := 34) A dX4_way_26 (by decide) (by omega) (fun h26 => ?_) (fun h26 => ?_)
    · refine a_iconst A dX4_way_34 ?_
      exact m_ireturn A T0 dX4_way_35 (by first | exact Or.inl ⟨by omega, rfl, rfl⟩ | exact Or.inr ⟨by omega, h50⟩)
    · refine a_iload_n (z := f) A dX4_way_29 rfl ?_
      refine a_iload_n (z := t) A dX4_way_30 rfl ?_
      refine a_icmp_ne (tgt := 36) A dX4_way_31 (by decide) (by omega) (by omega) (fun h31 => ?_) (fun h31 => ?_)
      · refine a_aload_n (z := 0) A dX4_way_36 rfl ?_
        refine gf_X4_27 (r := 16) A dX4_way_37 rfl (by decide) rfl ?_
        refine a_aload_n (z := 0) A dX4_way_40 rfl ?_
        refine gf_X4_12 (r := 1) A dX4_way_41 rfl (by decide) rfl ?_
        refine a_iload_n (z := f) A dX4_way_44 rfl ?_
        refine a_iload_n (z := t) A dX4_way_45 rfl ?_
        refine m_invVv A (c_X3_findWays G _ f t (up2 M 1 4 0) hW1 (by omega) (by omega)) (by decide) mi_X3_findWays mv_X3_findWays cs_X4_108 cf3 dX4_way_46 rfl (by decide) rfl rfl (Nat.le_of_ble_eq_true rfl) (fun M46 h46 => ?_)
        have h46 := h46.symm
        subst h46
        refine a_aload_n (z := 0) A dX4_way_49 rfl ?_
        refine m_invVi A (c_X4_takeBestRow G _ (zqF (up2 M 1 4 0) f t) (by omega)) (by decide) mi_X4_takeBestRow mv_X4_takeBestRow cs_X4_112 cf4 dX4_way_50 rfl (by decide) rfl rfl (Nat.le_of_ble_eq_true rfl) (fun z50 M50 h50 => ?_)
        exact m_ireturn A T0 dX4_way_53 (by first | exact Or.inl ⟨by omega, rfl, rfl⟩ | exact Or.inr ⟨by omega, h50⟩)
      · refine a_iconst A dX4_way_34 ?_
        exact m_ireturn A T0 dX4_way_35 (by first | exact Or.inl ⟨by omega, rfl, rfl⟩ | exact Or.inr ⟨by omega, h50⟩)
set_option maxRecDepth 100000 in
set_option maxHeartbeats 4000000 in
theorem c_X4_ring (G : GG) (l : Launch) (M : MM) (hW : CW M) : CMi G l yX4_ring cX4_ring 1 (some .int) 11 [.ref 0] M (fun z M' => ((zqR (up2 M 1 4 0)) 16 4 = 0 ∧ z = -1 ∧ M' = (zqR (up2 M 1 4 0))) ∨ ((zqR (up2 M 1 4 0)) 16 4 ≠ 0 ∧ z = (zqR (up2 M 1 4 0)) 16 4 ∧ M' = up2 (cp2 (zqR (up2 M 1 4 0)) 19 13 4) 1 4 ((zqR (up2 M 1 4 0)) 16 4))) := by
  refine CT.intro (by decide) (Nat.le_of_ble_eq_true rfl) (fun E hE A T0 => ?_)
  subst hE
  have hW1 := zq_CW4 hW 0
  have hX := (zqR_keep hW1).2.2.1
  refine a_aload_n (z := 0) A dX4_ring_0 rfl ?_
  refine gf_X4_12 (r := 1) A dX4_ring_1 rfl (by decide) rfl ?_
  refine m_invVv A (c_X1_dropRow G _ M) (by decide) mi_X1_dropRow mv_X1_dropRow cs_X4_62 cf1 dX4_ring_4 rfl (by decide) rfl rfl (Nat.le_of_ble_eq_true rfl) (fun M4 h4 => ?_)
  have h4 := h4.symm
  subst h4
  refine a_aload_n (z := 0) A dX4_ring_7 rfl ?_
  refine gf_X4_27 (r := 16) A dX4_ring_8 rfl (by decide) rfl ?_
  refine a_aload_n (z := 0) A dX4_ring_11 rfl ?_
  refine gf_X4_12 (r := 1) A dX4_ring_12 rfl (by decide) rfl ?_
  refine m_invVv A (c_X3_findRings G _ (up2 M 1 4 0) hW1) (by decide) mi_X3_findRings mv_X3_findRings cs_X4_116 cf3 dX4_ring_15 rfl (by decide) rfl rfl (Nat.le_of_ble_eq_true rfl) (fun M15 h15 => ?_)
  have h15 := h15.symm
  subst h15
  refine a_aload_n (z := 0) A dX4_ring_18 rfl ?_
  refine m_invVi A (c_X4_takeBestRow G _ (zqR (up2 M 1 4 0)) (by omega)) (by decide) mi_X4_takeBestRow mv_X4_takeBestRow cs_X4_112 cf4 dX4_ring_19 rfl (by decide) rfl rfl (Nat.le_of_ble_eq_true rfl) (fun z19 M19 h19 => ?_)
  exact m_ireturn A T0 dX4_ring_22 (by exact h19)
set_option maxRecDepth 100000 in
set_option maxHeartbeats 4000000 in
theorem c_X4_count (G : GG) (l : Launch) (w : Int) (M : MM) (hw : I32 w) (hW : CW M) : CMi G l yX4_count cX4_count 2 (some .int) 11 [.ref 0, vi w] M (fun z M' => (w = 0 ∧ z = M 1 0 ∧ M' = M) ∨ (w = 1 ∧ z = M 1 1 ∧ M' = M) ∨ (w = 2 ∧ z = zqR M 16 7 ∧ M' = zqR M) ∨ (w = 3 ∧ z = zqR M 16 8 ∧ M' = zqR M) ∨ (w = 4 ∧ z = M 1 4 ∧ M' = M) ∨ ((w < 0 ∨ 4 < w) ∧ z = -1 ∧ M' = M)) := by
  refine CT.intro (by decide) (Nat.le_of_ble_eq_true rfl) (fun E hE A T0 => ?_)
  subst hE
  refine a_iload_n (z := w) A dX4_count_0 rfl ?_
  by_cases hsw : w < 0 ∨ 4 < w
  · refine a_tswO (tgt := 98) A dX4_count_1 (by omega) hsw (by decide) ?_
    refine a_iconst A dX4_count_98 ?_
    exact m_ireturn A T0 dX4_count_99 (by first | exact Or.inl ⟨by omega, rfl, rfl⟩ | exact Or.inr (Or.inl ⟨by omega, rfl, rfl⟩) | exact Or.inr (Or.inr (Or.inl ⟨by omega, rfl, rfl⟩)) | exact Or.inr (Or.inr (Or.inr (Or.inl ⟨by omega, rfl, rfl⟩))) | exact Or.inr (Or.inr (Or.inr (Or.inr (Or.inl ⟨by omega, rfl, rfl⟩)))) | exact Or.inr (Or.inr (Or.inr (Or.inr (Or.inr (⟨by omega, rfl, rfl⟩))))))
  · have hs2 : w = 0 ∨ w = 1 ∨ w = 2 ∨ w = 3 ∨ w = 4 := by omega
    rcases hs2 with hs | hs | hs | hs | hs
    · refine a_tswI (tgt := 36) (off := 35) A dX4_count_1 (by omega) (by omega) (by omega) (by rw [hs]; rfl) (by decide) ?_
      refine a_aload_n (z := 0) A dX4_count_36 rfl ?_
      refine gf_X4_12 (r := 1) A dX4_count_37 rfl (by decide) rfl ?_
      refine gf_X4_55 (x := M 1 0) A dX4_count_40 rfl (by decide) rfl ?_
      exact m_ireturn A T0 dX4_count_43 (by first | exact Or.inl ⟨by omega, rfl, rfl⟩ | exact Or.inr (Or.inl ⟨by omega, rfl, rfl⟩) | exact Or.inr (Or.inr (Or.inl ⟨by omega, rfl, rfl⟩)) | exact Or.inr (Or.inr (Or.inr (Or.inl ⟨by omega, rfl, rfl⟩))) | exact Or.inr (Or.inr (Or.inr (Or.inr (Or.inl ⟨by omega, rfl, rfl⟩)))) | exact Or.inr (Or.inr (Or.inr (Or.inr (Or.inr (⟨by omega, rfl, rfl⟩))))))
    · refine a_tswI (tgt := 44) (off := 43) A dX4_count_1 (by omega) (by omega) (by omega) (by rw [hs]; rfl) (by decide) ?_
      refine a_aload_n (z := 0) A dX4_count_44 rfl ?_
      refine gf_X4_12 (r := 1) A dX4_count_45 rfl (by decide) rfl ?_
      refine gf_X4_59 (x := M 1 1) A dX4_count_48 rfl (by decide) rfl ?_
      exact m_ireturn A T0 dX4_count_51 (by first | exact Or.inl ⟨by omega, rfl, rfl⟩ | exact Or.inr (Or.inl ⟨by omega, rfl, rfl⟩) | exact Or.inr (Or.inr (Or.inl ⟨by omega, rfl, rfl⟩)) | exact Or.inr (Or.inr (Or.inr (Or.inl ⟨by omega, rfl, rfl⟩))) | exact Or.inr (Or.inr (Or.inr (Or.inr (Or.inl ⟨by omega, rfl, rfl⟩)))) | exact Or.inr (Or.inr (Or.inr (Or.inr (Or.inr (⟨by omega, rfl, rfl⟩))))))
    · refine a_tswI (tgt := 52) (off := 51) A dX4_count_1 (by omega) (by omega) (by omega) (by rw [hs]; rfl) (by decide) ?_
      refine a_aload_n (z := 0) A dX4_count_52 rfl ?_
      refine gf_X4_27 (r := 16) A dX4_count_53 rfl (by decide) rfl ?_
      refine a_aload_n (z := 0) A dX4_count_56 rfl ?_
      refine gf_X4_12 (r := 1) A dX4_count_57 rfl (by decide) rfl ?_
      refine m_invVv A (c_X3_findRings G _ M hW) (by decide) mi_X3_findRings mv_X3_findRings cs_X4_116 cf3 dX4_count_60 rfl (by decide) rfl rfl (Nat.le_of_ble_eq_true rfl) (fun M60 h60 => ?_)
      have h60 := h60.symm
      subst h60
      refine a_aload_n (z := 0) A dX4_count_63 rfl ?_
      refine gf_X4_27 (r := 16) A dX4_count_64 rfl (by decide) rfl ?_
      refine gf_X4_144 (x := (zqR M) 16 7) A dX4_count_67 rfl (by decide) rfl ?_
      exact m_ireturn A T0 dX4_count_70 (by first | exact Or.inl ⟨by omega, rfl, rfl⟩ | exact Or.inr (Or.inl ⟨by omega, rfl, rfl⟩) | exact Or.inr (Or.inr (Or.inl ⟨by omega, rfl, rfl⟩)) | exact Or.inr (Or.inr (Or.inr (Or.inl ⟨by omega, rfl, rfl⟩))) | exact Or.inr (Or.inr (Or.inr (Or.inr (Or.inl ⟨by omega, rfl, rfl⟩)))) | exact Or.inr (Or.inr (Or.inr (Or.inr (Or.inr (⟨by omega, rfl, rfl⟩))))))
    · refine a_tswI (tgt := 71) (off := 70) A dX4_count_1 (by omega) (by omega) (by omega) (by rw [hs]; rfl) (by decide) ?_
      refine a_aload_n (z := 0) A dX4_count_71 rfl ?_
      refine gf_X4_27 (r := 16) A dX4_count_72 rfl (by decide) rfl ?_
      refine a_aload_n (z := 0) A dX4_count_75 rfl ?_
      refine gf_X4_12 (r := 1) A dX4_count_76 rfl (by decide) rfl ?_
      refine m_invVv A (c_X3_findRings G _ M hW) (by decide) mi_X3_findRings mv_X3_findRings cs_X4_116 cf3 dX4_count_79 rfl (by decide) rfl rfl (Nat.le_of_ble_eq_true rfl) (fun M79 h79 => ?_)
      have h79 := h79.symm
      subst h79
      refine a_aload_n (z := 0) A dX4_count_82 rfl ?_
      refine gf_X4_27 (r := 16) A dX4_count_83 rfl (by decide) rfl ?_
      refine gf_X4_147 (x := (zqR M) 16 8) A dX4_count_86 rfl (by decide) rfl ?_
      exact m_ireturn A T0 dX4_count_89 (by first | exact Or.inl ⟨by omega, rfl, rfl⟩ | exact Or.inr (Or.inl ⟨by omega, rfl, rfl⟩) | exact Or.inr (Or.inr (Or.inl ⟨by omega, rfl, rfl⟩)) | exact Or.inr (Or.inr (Or.inr (Or.inl ⟨by omega, rfl, rfl⟩))) | exact Or.inr (Or.inr (Or.inr (Or.inr (Or.inl ⟨by omega, rfl, rfl⟩)))) | exact Or.inr (Or.inr (Or.inr (Or.inr (Or.inr (⟨by omega, rfl, rfl⟩))))))
    · refine a_tswI (tgt := 90) (off := 89) A dX4_count_1 (by omega) (by omega) (by omega) (by rw [hs]; rfl) (by decide) ?_
      refine a_aload_n (z := 0) A dX4_count_90 rfl ?_
      refine gf_X4_12 (r := 1) A dX4_count_91 rfl (by decide) rfl ?_
      refine gf_X4_120 (x := M 1 4) A dX4_count_94 rfl (by decide) rfl ?_
      exact m_ireturn A T0 dX4_count_97 (by first | exact Or.inl ⟨by omega, rfl, rfl⟩ | exact Or.inr (Or.inl ⟨by omega, rfl, rfl⟩) | exact Or.inr (Or.inr (Or.inl ⟨by omega, rfl, rfl⟩)) | exact Or.inr (Or.inr (Or.inr (Or.inl ⟨by omega, rfl, rfl⟩))) | exact Or.inr (Or.inr (Or.inr (Or.inr (Or.inl ⟨by omega, rfl, rfl⟩)))) | exact Or.inr (Or.inr (Or.inr (Or.inr (Or.inr (⟨by omega, rfl, rfl⟩))))))
set_option maxRecDepth 100000 in
set_option maxHeartbeats 4000000 in
theorem rt_loopA {G : GG} {E : EE} {P : Int → MM → Prop} (A : AmM G E cX4_right 3 yX4_right.cls 3) (T0 : RT E G yX4_right 108 0 0 (some .boolean) (fun r rf' M' => rf' = rF ∧ ∃ z, r = some (vi z) ∧ P z M')) (M : MM) (hW : CW M) (hp0 : ¬ RGc M → P 0 M) (kk : (∀ i : Nat, (i : Int) < M 1 1 → M (3 + i) 6 ≤ M (3 + i) 2 * M (3 + i) 7) → ∀ (j : Int) (w : Value), AM G E 3 46 [.ref 0, vi j, w] [] M) : ∀ (n : Nat) (i : Nat) (w : Value), (M 1 1).toNat - i < n → (i : Int) ≤ M 1 1 → (∀ j, j < i → M (3 + j) 6 ≤ M (3 + j) 2 * M (3 + j) 7) → AM G E 3 2 [.ref 0, vi (i : Int), w] [] M := by
  intro n
  induction n with
  | zero => intro i w hn hi heq; exfalso; omega
  | succ n ih =>
    intro i w hn hi heq
    have hL := hW.2.1
    have hl0 : (i : Int) < M 1 1 → CL M i := hW.2.2 i
    unfold CL at hl0
    have hm0 : (i : Int) < M 1 1 → 0 ≤ M (3 + i) 2 * M (3 + i) 7 ∧ M (3 + i) 2 * M (3 + i) 7 ≤ 100 * 9 := fun q => mul_bd (by omega) (by omega)
    refine a_iload_n (z := (i : Int)) A dX4_right_2 rfl ?_
    refine a_aload_n (z := 0) A dX4_right_3 rfl ?_
    refine gf_X4_12 (r := 1) A dX4_right_4 rfl (by decide) rfl ?_
    refine gf_X4_59 (x := M 1 1) A dX4_right_7 rfl (by decide) rfl ?_
    refine a_icmp_ge (tgt := 46) A dX4_right_10 (by decide) (by omega) (by omega) (fun h10 => ?_) (fun h10 => ?_)
    · exact kk (fun j hj => heq j (by omega)) _ _
    · refine a_aload_n (z := 0) A dX4_right_13 rfl ?_
      refine gf_X4_12 (r := 1) A dX4_right_14 rfl (by decide) rfl ?_
      refine gf_X4_76 (r := 2) A dX4_right_17 rfl (by decide) rfl ?_
      refine a_iload_n (z := (i : Int)) A dX4_right_20 rfl ?_
      refine a_aaload (i := (i : Int)) (r := (3 + i)) A dX4_right_21 rfl (Or.inr rfl) (by decide) (by decide) (by omega) (rf2 (by omega)) ?_
      refine a_astore_n (lv' := [.ref 0, vi (i : Int), .ref (3 + i)]) A dX4_right_22 (by decide) rfl ?_
      refine a_aload_n (z := (3 + i)) A dX4_right_23 rfl ?_
      refine a_bipush A dX4_right_24 (by decide) ?_
      refine a_iaload (i := 6) (x := M (3 + i) 6) A dX4_right_26 (ly3 (by omega)) (by omega) (by decide) (by omega) rfl ?_
      refine a_aload_n (z := (3 + i)) A dX4_right_27 rfl ?_
      refine a_iconst A dX4_right_28 ?_
      refine a_iaload (i := 2) (x := M (3 + i) 2) A dX4_right_29 (ly3 (by omega)) (by omega) (by decide) (by omega) rfl ?_
      refine a_aload_n (z := (3 + i)) A dX4_right_30 rfl ?_
      refine a_bipush A dX4_right_31 (by decide) ?_
      refine a_iaload (i := 7) (x := M (3 + i) 7) A dX4_right_33 (ly3 (by omega)) (by omega) (by decide) (by omega) rfl ?_
      refine a_imul (x := (M (3 + i) 2)) (y := (M (3 + i) 7)) A dX4_right_34 ?_
      refine a_icmp_le (tgt := 40) A dX4_right_35 (by decide) (by omega) (by omega) (fun h35 => ?_) (fun h35 => ?_)
      · refine a_iinc (z := (i : Int)) (lv' := [.ref 0, vi ((i : Int) + 1), .ref (3 + i)]) A dX4_right_40 rfl (by decide) rfl ?_
        refine a_goto (tgt := 2) A dX4_right_43 (by decide) ?_
        exact ih (i + 1) _ (by omega) (by omega) (lt_s heq (by omega))
      · refine a_iconst A dX4_right_38 ?_
        exact m_zreturn A T0 dX4_right_39 (by first | exact Or.inl rfl | exact Or.inr rfl | omega) (hp0 (fun q => by have := q.1 i (by omega); omega))
set_option maxRecDepth 100000 in
set_option maxHeartbeats 4000000 in
theorem rt_loopB {G : GG} {E : EE} {P : Int → MM → Prop} (A : AmM G E cX4_right 3 yX4_right.cls 3) (T0 : RT E G yX4_right 108 0 0 (some .boolean) (fun r rf' M' => rf' = rF ∧ ∃ z, r = some (vi z) ∧ P z M')) (M : MM) (hW : CW M) (hA : ∀ i : Nat, (i : Int) < M 1 1 → M (3 + i) 6 ≤ M (3 + i) 2 * M (3 + i) 7) (hp0 : ¬ RGc M → P 0 M) (hp1 : RGc M → P 1 M) : ∀ (n : Nat) (v : Nat) (w : Value), 5 - v < n → 1 ≤ v → v ≤ 5 → (∀ u, 1 ≤ u → u < v → 0 ≤ sumZ (balF M (u : Int)) (M 1 1).toNat) → AM G E 3 48 [.ref 0, vi (v : Int), w] [] M := by
  intro n
  induction n with
  | zero => intro v w hn hv1 hv5 heq; exfalso; omega
  | succ n ih =>
    intro v w hn hv1 hv5 heq
    have hP := hW.1
    have hsb := zq_bal hW (v : Int)
    refine a_iload_n (z := (v : Int)) A dX4_right_48 rfl ?_
    refine a_aload_n (z := 0) A dX4_right_49 rfl ?_
    refine gf_X4_12 (r := 1) A dX4_right_50 rfl (by decide) rfl ?_
    refine m_invVi A (c_X1_lastPost G _ M) (by decide) mi_X1_lastPost mv_X1_lastPost cs_X4_135 cf1 dX4_right_53 rfl (by decide) rfl rfl (Nat.le_of_ble_eq_true rfl) (fun z53 M53 h53 => ?_)
    obtain ⟨e53, rfl⟩ := h53
    have e53 := e53.symm
    subst e53
    refine a_icmp_ge (tgt := 80) A dX4_right_56 (by decide) (by omega) (by omega) (fun h56 => ?_) (fun h56 => ?_)
    · refine a_iconst A dX4_right_80 ?_
      exact m_zreturn A T0 dX4_right_81 (by first | exact Or.inl rfl | exact Or.inr rfl | omega) (hp1 ⟨hA, fun u h1 h2 => heq u h1 (by omega)⟩)
    · refine a_aload_n (z := 0) A dX4_right_59 rfl ?_
      refine gf_X4_12 (r := 1) A dX4_right_60 rfl (by decide) rfl ?_
      refine a_iload_n (z := (v : Int)) A dX4_right_63 rfl ?_
      refine m_invVl A (c_X1_balance G _ (v : Int) M (by omega) hW) (by decide) mi_X1_balance mv_X1_balance cs_X4_138 cf1 dX4_right_64 rfl (by decide) rfl rfl (Nat.le_of_ble_eq_true rfl) (fun z64 M64 h64 => ?_)
      obtain ⟨e64, rfl⟩ := h64
      have e64 := e64.symm
      subst e64
      refine a_lconst0 A dX4_right_67 ?_
      refine a_lcmp_ge (tgt := 74) A dX4_right_68 dX4_right_69 (by decide) (by omega) (by omega) (fun h68 => ?_) (fun h68 => ?_)
      · refine a_iinc (z := (v : Int)) (lv' := [.ref 0, vi ((v : Int) + 1), w]) A dX4_right_74 rfl (by decide) rfl ?_
        refine a_goto (tgt := 48) A dX4_right_77 (by decide) ?_
        exact ih (v + 1) _ (by omega) (by omega) (by omega) (lt_s1 heq (by omega))
      · refine a_iconst A dX4_right_72 ?_
        exact m_zreturn A T0 dX4_right_73 (by first | exact Or.inl rfl | exact Or.inr rfl | omega) (hp0 (fun q => by have := q.2 v (by omega) (by omega); omega))
set_option maxRecDepth 100000 in
set_option maxHeartbeats 4000000 in
theorem c_X4_right (G : GG) (l : Launch) (M : MM) (hW : CW M) : CMi G l yX4_right cX4_right 3 (some .boolean) 3 [.ref 0] M (fun z M' => M' = M ∧ ((z = 1 ∧ RGc M) ∨ (z = 0 ∧ ¬ RGc M))) := by
  refine CT.intro (by decide) (Nat.le_of_ble_eq_true rfl) (fun E hE A T0 => ?_)
  subst hE
  have hL := hW.2.1
  refine a_iconst A dX4_right_0 ?_
  refine a_istore_n (lv' := [.ref 0, vi 0, jk]) A dX4_right_1 (by decide) rfl ?_
  refine rt_loopA A T0 M hW (fun q => ⟨rfl, Or.inr ⟨rfl, q⟩⟩) ?_ ((M 1 1).toNat + 1) 0 _ (by omega) (by omega) (fun j hj => absurd hj (Nat.not_lt_zero j))
  intro hA j w
  refine a_iconst A dX4_right_46 ?_
  refine a_istore_n (lv' := [.ref 0, vi 1, w]) A dX4_right_47 (by decide) rfl ?_
  exact rt_loopB A T0 M hW hA (fun q => ⟨rfl, Or.inr ⟨rfl, q⟩⟩) (fun q => ⟨rfl, Or.inl ⟨rfl, q⟩⟩) 6 1 _ (by omega) (by omega) (by omega) (fun u h1 h2 => by omega)
