/-- slot a into slot b, all that is told -/
def cpM (M : MM) (a b : Nat) : MM :=
  let M1 := mvK (mvK (mvK (mvK (mvK (mvK (mvK (mvK (mvK (mvK (mvK (mvK M 85 1 a b 1) 86 1 a b 1) 87 10 a b 10) 88 10 a b 10) 89 10 a b 10) 90 10 a b 10) 91 10 a b 10) 92 10 a b 10) 93 10 a b 10) 94 10 a b 10) 95 1 a b 1) 96 5 a b 5
  up2 (up2 M1 97 b (M 97 a)) 98 b (M 98 a)
set_option maxRecDepth 100000 in
set_option maxHeartbeats 4000000 in
theorem c_X5_copy (G : GG) (l : Launch) (a b : Nat) (M : MM) (ha : a ≤ 3) (hb : b ≤ 3) (hab : a < b ∨ b < a) : CMv G l yX5_copy cX5_copy 3 none 2 [.ref 84, vi (a : Int), vi (b : Int)] M (fun M' => M' = cpM M a b) := by
  refine CT.intro (by decide) (Nat.le_of_ble_eq_true rfl) (fun E hE A T0 => ?_)
  subst hE
  refine a_aload_n (z := 84) A dX5_copy_0 rfl ?_
  refine gf_X5_7 (r := 85) A dX5_copy_1 rfl (by decide) rfl ?_
  refine a_iconst A dX5_copy_4 ?_
  refine a_iload_n (z := (a : Int)) A dX5_copy_5 rfl ?_
  refine a_iload_n (z := (b : Int)) A dX5_copy_6 rfl ?_
  refine m_invSv A (c_X5_move G _ 85 1 a b _ M rfl (by decide) (by decide) (by omega) (by omega) (by omega)) (by decide) mi_X5_move ms_X5_move cs_X5_85 dX5_copy_7 rfl rfl (Nat.le_of_ble_eq_true rfl) (fun M7 h7 => ?_)
  have h7 := h7.symm
  subst h7
  refine a_aload_n (z := 84) A dX5_copy_10 rfl ?_
  refine gf_X5_13 (r := 86) A dX5_copy_11 rfl (by decide) rfl ?_
  refine a_iconst A dX5_copy_14 ?_
  refine a_iload_n (z := (a : Int)) A dX5_copy_15 rfl ?_
  refine a_iload_n (z := (b : Int)) A dX5_copy_16 rfl ?_
  refine m_invSv A (c_X5_move G _ 86 1 a b _ (mvK M 85 1 a b 1) rfl (by decide) (by decide) (by omega) (by omega) (by omega)) (by decide) mi_X5_move ms_X5_move cs_X5_85 dX5_copy_17 rfl rfl (Nat.le_of_ble_eq_true rfl) (fun M17 h17 => ?_)
  have h17 := h17.symm
  subst h17
  refine a_aload_n (z := 84) A dX5_copy_20 rfl ?_
  refine gf_X5_16 (r := 87) A dX5_copy_21 rfl (by decide) rfl ?_
  refine a_bipush A dX5_copy_24 (by decide) ?_
  refine a_iload_n (z := (a : Int)) A dX5_copy_26 rfl ?_
  refine a_iload_n (z := (b : Int)) A dX5_copy_27 rfl ?_
  refine m_invSv A (c_X5_move G _ 87 10 a b _ (mvK (mvK M 85 1 a b 1) 86 1 a b 1) rfl (by decide) (by decide) (by omega) (by omega) (by omega)) (by decide) mi_X5_move ms_X5_move cs_X5_85 dX5_copy_28 rfl rfl (Nat.le_of_ble_eq_true rfl) (fun M28 h28 => ?_)
  have h28 := h28.symm
  subst h28
  refine a_aload_n (z := 84) A dX5_copy_31 rfl ?_
  refine gf_X5_19 (r := 88) A dX5_copy_32 rfl (by decide) rfl ?_
  refine a_bipush A dX5_copy_35 (by decide) ?_
  refine a_iload_n (z := (a : Int)) A dX5_copy_37 rfl ?_
  refine a_iload_n (z := (b : Int)) A dX5_copy_38 rfl ?_
  refine m_invSv A (c_X5_move G _ 88 10 a b _ (mvK (mvK (mvK M 85 1 a b 1) 86 1 a b 1) 87 10 a b 10) rfl (by decide) (by decide) (by omega) (by omega) (by omega)) (by decide) mi_X5_move ms_X5_move cs_X5_85 dX5_copy_39 rfl rfl (Nat.le_of_ble_eq_true rfl) (fun M39 h39 => ?_)
  have h39 := h39.symm
  subst h39
  refine a_aload_n (z := 84) A dX5_copy_42 rfl ?_
  refine gf_X5_22 (r := 89) A dX5_copy_43 rfl (by decide) rfl ?_
  refine a_bipush A dX5_copy_46 (by decide) ?_
  refine a_iload_n (z := (a : Int)) A dX5_copy_48 rfl ?_
  refine a_iload_n (z := (b : Int)) A dX5_copy_49 rfl ?_
  refine m_invSv A (c_X5_move G _ 89 10 a b _ (mvK (mvK (mvK (mvK M 85 1 a b 1) 86 1 a b 1) 87 10 a b 10) 88 10 a b 10) rfl (by decide) (by decide) (by omega) (by omega) (by omega)) (by decide) mi_X5_move ms_X5_move cs_X5_85 dX5_copy_50 rfl rfl (Nat.le_of_ble_eq_true rfl) (fun M50 h50 => ?_)
  have h50 := h50.symm
  subst h50
  refine a_aload_n (z := 84) A dX5_copy_53 rfl ?_
  refine gf_X5_25 (r := 90) A dX5_copy_54 rfl (by decide) rfl ?_
  refine a_bipush A dX5_copy_57 (by decide) ?_
  refine a_iload_n (z := (a : Int)) A dX5_copy_59 rfl ?_
  refine a_iload_n (z := (b : Int)) A dX5_copy_60 rfl ?_
  refine m_invSv A (c_X5_move G _ 90 10 a b _ (mvK (mvK (mvK (mvK (mvK M 85 1 a b 1) 86 1 a b 1) 87 10 a b 10) 88 10 a b 10) 89 10 a b 10) rfl (by decide) (by decide) (by omega) (by omega) (by omega)) (by decide) mi_X5_move ms_X5_move cs_X5_85 dX5_copy_61 rfl rfl (Nat.le_of_ble_eq_true rfl) (fun M61 h61 => ?_)
  have h61 := h61.symm
  subst h61
  refine a_aload_n (z := 84) A dX5_copy_64 rfl ?_
  refine gf_X5_28 (r := 91) A dX5_copy_65 rfl (by decide) rfl ?_
  refine a_bipush A dX5_copy_68 (by decide) ?_
  refine a_iload_n (z := (a : Int)) A dX5_copy_70 rfl ?_
  refine a_iload_n (z := (b : Int)) A dX5_copy_71 rfl ?_
  refine m_invSv A (c_X5_move G _ 91 10 a b _ (mvK (mvK (mvK (mvK (mvK (mvK M 85 1 a b 1) 86 1 a b 1) 87 10 a b 10) 88 10 a b 10) 89 10 a b 10) 90 10 a b 10) rfl (by decide) (by decide) (by omega) (by omega) (by omega)) (by decide) mi_X5_move ms_X5_move cs_X5_85 dX5_copy_72 rfl rfl (Nat.le_of_ble_eq_true rfl) (fun M72 h72 => ?_)
  have h72 := h72.symm
  subst h72
  refine a_aload_n (z := 84) A dX5_copy_75 rfl ?_
  refine gf_X5_31 (r := 92) A dX5_copy_76 rfl (by decide) rfl ?_
  refine a_bipush A dX5_copy_79 (by decide) ?_
  refine a_iload_n (z := (a : Int)) A dX5_copy_81 rfl ?_
  refine a_iload_n (z := (b : Int)) A dX5_copy_82 rfl ?_
  refine m_invSv A (c_X5_move G _ 92 10 a b _ (mvK (mvK (mvK (mvK (mvK (mvK (mvK M 85 1 a b 1) 86 1 a b 1) 87 10 a b 10) 88 10 a b 10) 89 10 a b 10) 90 10 a b 10) 91 10 a b 10) rfl (by decide) (by decide) (by omega) (by omega) (by omega)) (by decide) mi_X5_move ms_X5_move cs_X5_85 dX5_copy_83 rfl rfl (Nat.le_of_ble_eq_true rfl) (fun M83 h83 => ?_)
  have h83 := h83.symm
  subst h83
  refine a_aload_n (z := 84) A dX5_copy_86 rfl ?_
  refine gf_X5_34 (r := 93) A dX5_copy_87 rfl (by decide) rfl ?_
  refine a_bipush A dX5_copy_90 (by decide) ?_
  refine a_iload_n (z := (a : Int)) A dX5_copy_92 rfl ?_
  refine a_iload_n (z := (b : Int)) A dX5_copy_93 rfl ?_
  refine m_invSv A (c_X5_move G _ 93 10 a b _ (mvK (mvK (mvK (mvK (mvK (mvK (mvK (mvK M 85 1 a b 1) 86 1 a b 1) 87 10 a b 10) 88 10 a b 10) 89 10 a b 10) 90 10 a b 10) 91 10 a b 10) 92 10 a b 10) rfl (by decide) (by decide) (by omega) (by omega) (by omega)) (by decide) mi_X5_move ms_X5_move cs_X5_85 dX5_copy_94 rfl rfl (Nat.le_of_ble_eq_true rfl) (fun M94 h94 => ?_)
  have h94 := h94.symm
  subst h94
  refine a_aload_n (z := 84) A dX5_copy_97 rfl ?_
  refine gf_X5_37 (r := 94) A dX5_copy_98 rfl (by decide) rfl ?_
  refine a_bipush A dX5_copy_101 (by decide) ?_
  refine a_iload_n (z := (a : Int)) A dX5_copy_103 rfl ?_
  refine a_iload_n (z := (b : Int)) A dX5_copy_104 rfl ?_
  refine m_invSv A (c_X5_move G _ 94 10 a b _ (mvK (mvK (mvK (mvK (mvK (mvK (mvK (mvK (mvK M 85 1 a b 1) 86 1 a b 1) 87 10 a b 10) 88 10 a b 10) 89 10 a b 10) 90 10 a b 10) 91 10 a b 10) 92 10 a b 10) 93 10 a b 10) rfl (by decide) (by decide) (by omega) (by omega) (by omega)) (by decide) mi_X5_move ms_X5_move cs_X5_85 dX5_copy_105 rfl rfl (Nat.le_of_ble_eq_true rfl) (fun M105 h105 => ?_)
  have h105 := h105.symm
  subst h105
  refine a_aload_n (z := 84) A dX5_copy_108 rfl ?_
  refine gf_X5_40 (r := 95) A dX5_copy_109 rfl (by decide) rfl ?_
  refine a_iconst A dX5_copy_112 ?_
  refine a_iload_n (z := (a : Int)) A dX5_copy_113 rfl ?_
  refine a_iload_n (z := (b : Int)) A dX5_copy_114 rfl ?_
  refine m_invSv A (c_X5_move G _ 95 1 a b _ (mvK (mvK (mvK (mvK (mvK (mvK (mvK (mvK (mvK (mvK M 85 1 a b 1) 86 1 a b 1) 87 10 a b 10) 88 10 a b 10) 89 10 a b 10) 90 10 a b 10) 91 10 a b 10) 92 10 a b 10) 93 10 a b 10) 94 10 a b 10) rfl (by decide) (by decide) (by omega) (by omega) (by omega)) (by decide) mi_X5_move ms_X5_move cs_X5_85 dX5_copy_115 rfl rfl (Nat.le_of_ble_eq_true rfl) (fun M115 h115 => ?_)
  have h115 := h115.symm
  subst h115
  refine a_aload_n (z := 84) A dX5_copy_118 rfl ?_
  refine gf_X5_43 (r := 96) A dX5_copy_119 rfl (by decide) rfl ?_
  refine a_iconst A dX5_copy_122 ?_
  refine a_iload_n (z := (a : Int)) A dX5_copy_123 rfl ?_
  refine a_iload_n (z := (b : Int)) A dX5_copy_124 rfl ?_
  refine m_invSv A (c_X5_move G _ 96 5 a b _ (mvK (mvK (mvK (mvK (mvK (mvK (mvK (mvK (mvK (mvK (mvK M 85 1 a b 1) 86 1 a b 1) 87 10 a b 10) 88 10 a b 10) 89 10 a b 10) 90 10 a b 10) 91 10 a b 10) 92 10 a b 10) 93 10 a b 10) 94 10 a b 10) 95 1 a b 1) rfl (by decide) (by decide) (by omega) (by omega) (by omega)) (by decide) mi_X5_move ms_X5_move cs_X5_85 dX5_copy_125 rfl rfl (Nat.le_of_ble_eq_true rfl) (fun M125 h125 => ?_)
  have h125 := h125.symm
  subst h125
  refine a_aload_n (z := 84) A dX5_copy_128 rfl ?_
  refine gf_X5_46 (r := 97) A dX5_copy_129 rfl (by decide) rfl ?_
  refine a_iload_n (z := (b : Int)) A dX5_copy_132 rfl ?_
  refine a_aload_n (z := 84) A dX5_copy_133 rfl ?_
  refine gf_X5_46 (r := 97) A dX5_copy_134 rfl (by decide) rfl ?_
  refine a_iload_n (z := (a : Int)) A dX5_copy_137 rfl ?_
  refine a_laload (i := (a : Int)) (x := M 97 a) A dX5_copy_138 rfl (by decide) (by decide) (by omega) rfl ?_
  refine a_lastore (i := (b : Int)) (j := b) A dX5_copy_139 rfl (by decide) (by decide) (by omega) rfl ?_
  refine a_aload_n (z := 84) A dX5_copy_140 rfl ?_
  refine gf_X5_50 (r := 98) A dX5_copy_141 rfl (by decide) rfl ?_
  refine a_iload_n (z := (b : Int)) A dX5_copy_144 rfl ?_
  refine a_aload_n (z := 84) A dX5_copy_145 rfl ?_
  refine gf_X5_50 (r := 98) A dX5_copy_146 rfl (by decide) rfl ?_
  refine a_iload_n (z := (a : Int)) A dX5_copy_149 rfl ?_
  refine a_laload (i := (a : Int)) (x := M 98 a) A dX5_copy_150 rfl (by decide) (by decide) (by omega) rfl ?_
  refine a_lastore (i := (b : Int)) (j := b) A dX5_copy_151 rfl (by decide) (by decide) (by omega) rfl ?_
  exact m_return A T0 dX5_copy_152 (by rfl)
set_option maxRecDepth 100000 in
set_option maxHeartbeats 4000000 in
theorem c_X5_image (G : GG) (l : Launch) (k : Int) (M : MM) (hk : I32 k) : CMi G l yX5_image cX5_image 2 (some .boolean) 3 [.ref 84, vi k] M (fun z M' => (z = 0 ∧ (k < 0 ∨ 2 < k) ∧ M' = up2 M 84 0 0) ∨ (z = 1 ∧ (0 ≤ k ∧ k ≤ 2) ∧ M' = up2 (cpM (up2 M 84 0 0) 0 (k.toNat + 1)) 107 k.toNat 1)) := by
  refine CT.intro (by decide) (Nat.le_of_ble_eq_true rfl) (fun E hE A T0 => ?_)
  subst hE
  refine a_aload_n (z := 84) A dX5_image_0 rfl ?_
  refine a_iconst A dX5_image_1 ?_
  refine pf_X5_81 A dX5_image_2 rfl (by decide) ?_
  refine a_iload_n (z := k) A dX5_image_5 rfl ?_
  refine a_iconst A dX5_image_6 ?_
  refine a_iconst A dX5_image_7 ?_
  refine m_invSi A (c_X5_in G _ k 0 2 (up2 M 84 0 0) (by omega) (by omega) (by omega)) (by decide) mi_X5_in ms_X5_in cs_X5_89 dX5_image_8 rfl rfl (Nat.le_of_ble_eq_true rfl) (fun z8 M8 h8 => ?_)
  obtain ⟨e8, hc8⟩ := h8
  have e8 := e8.symm
  subst e8
  refine a_if_ne (tgt := 16) A dX5_image_11 (by decide) (by omega) (fun h11 => ?_) (fun h11 => ?_)
  · obtain ⟨q, hq⟩ : ∃ q : Nat, k = (q : Int) := ⟨k.toNat, by omega⟩
    subst hq
    refine a_aload_n (z := 84) A dX5_image_16 rfl ?_
    refine a_iconst A dX5_image_17 ?_
    refine a_iload_n (z := (q : Int)) A dX5_image_18 rfl ?_
    refine a_iconst A dX5_image_19 ?_
    refine a_iadd (x := (q : Int)) (y := 1) A dX5_image_20 ?_
    refine m_invVv A (c_X5_copy G _ 0 (q + 1) (up2 M 84 0 0) (by omega) (by omega) (by omega)) (by decide) mi_X5_copy mv_X5_copy cs_X5_192 cf5 dX5_image_21 rfl (by decide) rfl rfl (Nat.le_of_ble_eq_true rfl) (fun M21 h21 => ?_)
    have h21 := h21.symm
    subst h21
    refine a_aload_n (z := 84) A dX5_image_24 rfl ?_
    refine gf_X5_77 (r := 107) A dX5_image_25 rfl (by decide) rfl ?_
    refine a_iload_n (z := (q : Int)) A dX5_image_28 rfl ?_
    refine a_iconst A dX5_image_29 ?_
    refine a_bastore (i := (q : Int)) (j := q) A dX5_image_30 rfl (by decide) (by decide) (by omega) rfl (Or.inr rfl) ?_
    refine a_iconst A dX5_image_31 ?_
    exact m_zreturn A T0 dX5_image_32 (by first | exact Or.inl rfl | exact Or.inr rfl | omega) (by exact Or.inr ⟨rfl, by omega, rfl⟩)
  · refine a_iconst A dX5_image_14 ?_
    exact m_zreturn A T0 dX5_image_15 (by first | exact Or.inl rfl | exact Or.inr rfl | omega) (by exact Or.inl ⟨rfl, by omega, rfl⟩)
set_option maxRecDepth 100000 in
set_option maxHeartbeats 4000000 in
theorem c_X5_again (G : GG) (l : Launch) (k : Int) (M : MM) (hk : I32 k) (hz : ∀ j : Nat, j < 3 → M 107 j = 0 ∨ M 107 j = 1) : CMi G l yX5_again cX5_again 2 (some .boolean) 3 [.ref 84, vi k] M (fun z M' => (z = 0 ∧ ((k < 0 ∨ 2 < k) ∨ M 107 k.toNat = 0) ∧ M' = up2 M 84 0 0) ∨ (z = 1 ∧ (0 ≤ k ∧ k ≤ 2 ∧ M 107 k.toNat ≠ 0) ∧ M' = cpM (up2 M 84 0 0) (k.toNat + 1) 0)) := by
  refine CT.intro (by decide) (Nat.le_of_ble_eq_true rfl) (fun E hE A T0 => ?_)
  subst hE
  refine a_aload_n (z := 84) A dX5_again_0 rfl ?_
  refine a_iconst A dX5_again_1 ?_
  refine pf_X5_81 A dX5_again_2 rfl (by decide) ?_
  refine a_iload_n (z := k) A dX5_again_5 rfl ?_
  refine a_iconst A dX5_again_6 ?_
  refine a_iconst A dX5_again_7 ?_
  refine m_invSi A (c_X5_in G _ k 0 2 (up2 M 84 0 0) (by omega) (by omega) (by omega)) (by decide) mi_X5_in ms_X5_in cs_X5_89 dX5_again_8 rfl rfl (Nat.le_of_ble_eq_true rfl) (fun z8 M8 h8 => ?_)
  obtain ⟨e8, hc8⟩ := h8
  have e8 := e8.symm
  subst e8
  refine a_if_eq (tgt := 23) A dX5_again_11 (by decide) (by omega) (fun h11 => ?_) (fun h11 => ?_)
  · refine a_iconst A dX5_again_23 ?_
    exact m_zreturn A T0 dX5_again_24 (by first | exact Or.inl rfl | exact Or.inr rfl | omega) (by exact Or.inl ⟨rfl, Or.inl (by omega), rfl⟩)
  · obtain ⟨q, hq⟩ : ∃ q : Nat, k = (q : Int) := ⟨k.toNat, by omega⟩
    subst hq
    have hz' := hz q (by omega)
    refine a_aload_n (z := 84) A dX5_again_14 rfl ?_
    refine gf_X5_77 (r := 107) A dX5_again_15 rfl (by decide) rfl ?_
    refine a_iload_n (z := (q : Int)) A dX5_again_18 rfl ?_
    refine a_baload (i := (q : Int)) (x := M 107 q) A dX5_again_19 rfl (by decide) (by decide) (by omega) rfl ?_
    refine a_if_ne (tgt := 25) A dX5_again_20 (by decide) (by omega) (fun h20 => ?_) (fun h20 => ?_)
    · refine a_aload_n (z := 84) A dX5_again_25 rfl ?_
      refine a_iload_n (z := (q : Int)) A dX5_again_26 rfl ?_
      refine a_iconst A dX5_again_27 ?_
      refine a_iadd (x := (q : Int)) (y := 1) A dX5_again_28 ?_
      refine a_iconst A dX5_again_29 ?_
      refine m_invVv A (c_X5_copy G _ (q + 1) 0 (up2 M 84 0 0) (by omega) (by omega) (by omega)) (by decide) mi_X5_copy mv_X5_copy cs_X5_192 cf5 dX5_again_30 rfl (by decide) rfl rfl (Nat.le_of_ble_eq_true rfl) (fun M30 h30 => ?_)
      have h30 := h30.symm
      subst h30
      refine a_iconst A dX5_again_33 ?_
      exact m_zreturn A T0 dX5_again_34 (by first | exact Or.inl rfl | exact Or.inr rfl | omega) (by exact Or.inr ⟨rfl, ⟨by omega, by omega, h20⟩, rfl⟩)
    · refine a_iconst A dX5_again_23 ?_
      exact m_zreturn A T0 dX5_again_24 (by first | exact Or.inl rfl | exact Or.inr rfl | omega) (by exact Or.inl ⟨rfl, Or.inr h20, rfl⟩)
def prodZ (f : Nat → Int) : Nat → Int
  | 0 => 1
  | n + 1 => prodZ f n * f n
set_option maxRecDepth 100000 in
set_option maxHeartbeats 4000000 in
theorem pu_loop5 {G : GG} {E : EE} {P : Int → MM → Prop} (A : AmM G E cX5_productUp 5 yX5_productUp.cls 1) (T0 : RT E G yX5_productUp 108 0 0 (some .long) (fun r rf' M' => rf' = rF ∧ ∃ z, r = some (vl z) ∧ P z M')) (N : Nat) (M : MM) (hN : N ≤ 5) (hr : ∀ k, k < N → 0 ≤ M 105 k ∧ M 105 k < 40) (hv : ∀ k, k < N → I32 (M 90 (M 105 k).toNat)) (hp : P (prodZ (fun k => M 90 (M 105 k).toNat) N) M) : ∀ (n : Nat) (i : Nat), N - i < n → i ≤ N → AM G E 5 5 [.ref 84, vi (N : Int), vl (prodZ (fun k => M 90 (M 105 k).toNat) i), jk, vi (i : Int)] [] M := by
  intro n
  induction n with
  | zero => intro i hn hi; exfalso; omega
  | succ n ih =>
    intro i hn hi
    have hr0 : i < N → 0 ≤ M 105 i ∧ M 105 i < 40 := hr i
    have hv0 : i < N → I32 (M 90 (M 105 i).toNat) := hv i
    refine a_iload (z := (i : Int)) A dX5_productUp_5 rfl ?_
    refine a_iload_n (z := (N : Int)) A dX5_productUp_7 rfl ?_
    refine a_icmp_ge (tgt := 33) A dX5_productUp_8 (by decide) (by omega) (by omega) (fun h8 => ?_) (fun h8 => ?_)
    · refine a_lload_n (z := (prodZ (fun k => M 90 (M 105 k).toNat) i)) A dX5_productUp_33 rfl ?_
      exact m_lreturn A T0 dX5_productUp_34 (by rw [show N = i by omega] at hp; exact hp)
    · refine a_lload_n (z := (prodZ (fun k => M 90 (M 105 k).toNat) i)) A dX5_productUp_11 rfl ?_
      refine a_aload_n (z := 84) A dX5_productUp_12 rfl ?_
      refine gf_X5_25 (r := 90) A dX5_productUp_13 rfl (by decide) rfl ?_
      refine a_aload_n (z := 84) A dX5_productUp_16 rfl ?_
      refine gf_X5_71 (r := 105) A dX5_productUp_17 rfl (by decide) rfl ?_
      refine a_iload (z := (i : Int)) A dX5_productUp_20 rfl ?_
      refine a_iaload (i := (i : Int)) (x := M 105 i) A dX5_productUp_22 rfl (by decide) (by decide) (by omega) rfl ?_
      refine a_iaload (i := (M 105 i)) (x := M 90 ((M 105 i).toNat)) A dX5_productUp_23 rfl (by decide) (by decide) (by omega) rfl ?_
      refine a_i2l A dX5_productUp_24 (by omega) ?_
      refine a_lmul (x := (prodZ (fun k => M 90 (M 105 k).toNat) i)) (y := (M 90 ((M 105 i).toNat))) A dX5_productUp_25 ?_
      refine a_lstore_n (lv' := [.ref 84, vi (N : Int), vl ((prodZ (fun k => M 90 (M 105 k).toNat) i) * (M 90 ((M 105 i).toNat))), jk, vi (i : Int)]) A dX5_productUp_26 (by decide) rfl ?_
      refine a_iinc (z := (i : Int)) (lv' := [.ref 84, vi (N : Int), vl ((prodZ (fun k => M 90 (M 105 k).toNat) i) * (M 90 ((M 105 i).toNat))), jk, vi ((i : Int) + 1)]) A dX5_productUp_27 rfl (by decide) rfl ?_
      refine a_goto (tgt := 5) A dX5_productUp_30 (by decide) ?_
      exact ih (i + 1) (by omega) (by omega)
set_option maxRecDepth 100000 in
set_option maxHeartbeats 4000000 in
theorem c_X5_productUp (G : GG) (l : Launch) (N : Nat) (M : MM) (hN : N ≤ 5) (hr : ∀ k, k < N → 0 ≤ M 105 k ∧ M 105 k < 40) (hv : ∀ k, k < N → I32 (M 90 (M 105 k).toNat)) : CMl G l yX5_productUp cX5_productUp 5 (some .long) 1 [.ref 84, vi (N : Int)] M (fun z M' => M' = M ∧ z = prodZ (fun k => M 90 (M 105 k).toNat) N) := by
  refine CT.intro (by decide) (Nat.le_of_ble_eq_true rfl) (fun E hE A T0 => ?_)
  subst hE
  refine a_lconst1 A dX5_productUp_0 ?_
  refine a_lstore_n (lv' := [.ref 84, vi (N : Int), vl 1, jk, jk]) A dX5_productUp_1 (by decide) rfl ?_
  refine a_iconst A dX5_productUp_2 ?_
  refine a_istore (lv' := [.ref 84, vi (N : Int), vl 1, jk, vi 0]) A dX5_productUp_3 (by decide) rfl ?_
  exact pu_loop5 A T0 N M hN hr hv ⟨rfl, rfl⟩ (N + 1) 0 (by omega) (by omega)
set_option maxRecDepth 100000 in
set_option maxHeartbeats 4000000 in
theorem pd_loop5 {G : GG} {E : EE} {P : Int → MM → Prop} (A : AmM G E cX5_productDown 5 yX5_productDown.cls 1) (T0 : RT E G yX5_productDown 108 0 0 (some .long) (fun r rf' M' => rf' = rF ∧ ∃ z, r = some (vl z) ∧ P z M')) (N : Nat) (M : MM) (hN : N ≤ 5) (hr : ∀ k, k < N → 0 ≤ M 105 k ∧ M 105 k < 40) (hv : ∀ k, k < N → I32 (M 91 (M 105 k).toNat)) (hp : P (prodZ (fun k => M 91 (M 105 k).toNat) N) M) : ∀ (n : Nat) (i : Nat), N - i < n → i ≤ N → AM G E 5 5 [.ref 84, vi (N : Int), vl (prodZ (fun k => M 91 (M 105 k).toNat) i), jk, vi (i : Int)] [] M := by
  intro n
  induction n with
  | zero => intro i hn hi; exfalso; omega
  | succ n ih =>
    intro i hn hi
    have hr0 : i < N → 0 ≤ M 105 i ∧ M 105 i < 40 := hr i
    have hv0 : i < N → I32 (M 91 (M 105 i).toNat) := hv i
    refine a_iload (z := (i : Int)) A dX5_productDown_5 rfl ?_
    refine a_iload_n (z := (N : Int)) A dX5_productDown_7 rfl ?_
    refine a_icmp_ge (tgt := 33) A dX5_productDown_8 (by decide) (by omega) (by omega) (fun h8 => ?_) (fun h8 => ?_)
    · refine a_lload_n (z := (prodZ (fun k => M 91 (M 105 k).toNat) i)) A dX5_productDown_33 rfl ?_
      exact m_lreturn A T0 dX5_productDown_34 (by rw [show N = i by omega] at hp; exact hp)
    · refine a_lload_n (z := (prodZ (fun k => M 91 (M 105 k).toNat) i)) A dX5_productDown_11 rfl ?_
      refine a_aload_n (z := 84) A dX5_productDown_12 rfl ?_
      refine gf_X5_28 (r := 91) A dX5_productDown_13 rfl (by decide) rfl ?_
      refine a_aload_n (z := 84) A dX5_productDown_16 rfl ?_
      refine gf_X5_71 (r := 105) A dX5_productDown_17 rfl (by decide) rfl ?_
      refine a_iload (z := (i : Int)) A dX5_productDown_20 rfl ?_
      refine a_iaload (i := (i : Int)) (x := M 105 i) A dX5_productDown_22 rfl (by decide) (by decide) (by omega) rfl ?_
      refine a_iaload (i := (M 105 i)) (x := M 91 ((M 105 i).toNat)) A dX5_productDown_23 rfl (by decide) (by decide) (by omega) rfl ?_
      refine a_i2l A dX5_productDown_24 (by omega) ?_
      refine a_lmul (x := (prodZ (fun k => M 91 (M 105 k).toNat) i)) (y := (M 91 ((M 105 i).toNat))) A dX5_productDown_25 ?_
      refine a_lstore_n (lv' := [.ref 84, vi (N : Int), vl ((prodZ (fun k => M 91 (M 105 k).toNat) i) * (M 91 ((M 105 i).toNat))), jk, vi (i : Int)]) A dX5_productDown_26 (by decide) rfl ?_
      refine a_iinc (z := (i : Int)) (lv' := [.ref 84, vi (N : Int), vl ((prodZ (fun k => M 91 (M 105 k).toNat) i) * (M 91 ((M 105 i).toNat))), jk, vi ((i : Int) + 1)]) A dX5_productDown_27 rfl (by decide) rfl ?_
      refine a_goto (tgt := 5) A dX5_productDown_30 (by decide) ?_
      exact ih (i + 1) (by omega) (by omega)
set_option maxRecDepth 100000 in
set_option maxHeartbeats 4000000 in
theorem c_X5_productDown (G : GG) (l : Launch) (N : Nat) (M : MM) (hN : N ≤ 5) (hr : ∀ k, k < N → 0 ≤ M 105 k ∧ M 105 k < 40) (hv : ∀ k, k < N → I32 (M 91 (M 105 k).toNat)) : CMl G l yX5_productDown cX5_productDown 5 (some .long) 1 [.ref 84, vi (N : Int)] M (fun z M' => M' = M ∧ z = prodZ (fun k => M 91 (M 105 k).toNat) N) := by
  refine CT.intro (by decide) (Nat.le_of_ble_eq_true rfl) (fun E hE A T0 => ?_)
  subst hE
  refine a_lconst1 A dX5_productDown_0 ?_
  refine a_lstore_n (lv' := [.ref 84, vi (N : Int), vl 1, jk, jk]) A dX5_productDown_1 (by decide) rfl ?_
  refine a_iconst A dX5_productDown_2 ?_
  refine a_istore (lv' := [.ref 84, vi (N : Int), vl 1, jk, vi 0]) A dX5_productDown_3 (by decide) rfl ?_
  exact pd_loop5 A T0 N M hN hr hv ⟨rfl, rfl⟩ (N + 1) 0 (by omega) (by omega)
set_option maxRecDepth 100000 in
set_option maxHeartbeats 4000000 in
theorem ison_loop5 {G : GG} {E : EE} {P : Int → MM → Prop} (A : AmM G E cX5_isOn 4 yX5_isOn.cls 1) (T0 : RT E G yX5_isOn 108 0 0 (some .boolean) (fun r rf' M' => rf' = rF ∧ ∃ z, r = some (vi z) ∧ P z M')) (N : Nat) (v : Int) (M : MM) (hN : N ≤ 5) (hv0 : I32 v) (hr : ∀ k, k < N → 0 ≤ M 105 k ∧ M 105 k < 40) (hv : ∀ k, k < N → I32 (M 87 (M 105 k).toNat)) (hp1 : (∃ k, k < N ∧ M 87 (M 105 k).toNat = v) → P 1 M) (hp0 : (¬ ∃ k, k < N ∧ M 87 (M 105 k).toNat = v) → P 0 M) : ∀ (n : Nat) (i : Nat), N - i < n → i ≤ N → (∀ k, k < i → M 87 (M 105 k).toNat ≠ v) → AM G E 4 2 [.ref 84, vi (N : Int), vi v, vi (i : Int)] [] M := by
  intro n
  induction n with
  | zero => intro i hn hi hq; exfalso; omega
  | succ n ih =>
    intro i hn hi hq
    have hr0 : i < N → 0 ≤ M 105 i ∧ M 105 i < 40 := hr i
    have hvi : i < N → I32 (M 87 (M 105 i).toNat) := hv i
    refine a_iload_n (z := (i : Int)) A dX5_isOn_2 rfl ?_
    refine a_iload_n (z := (N : Int)) A dX5_isOn_3 rfl ?_
    refine a_icmp_ge (tgt := 30) A dX5_isOn_4 (by decide) (by omega) (by omega) (fun h4 => ?_) (fun h4 => ?_)
    · refine a_iconst A dX5_isOn_30 ?_
      exact m_zreturn A T0 dX5_isOn_31 (by first | exact Or.inl rfl | exact Or.inr rfl | omega) (hp0 (fun q => by obtain ⟨k, q1, q2⟩ := q; exact hq k (by omega) q2))
    · refine a_aload_n (z := 84) A dX5_isOn_7 rfl ?_
      refine gf_X5_16 (r := 87) A dX5_isOn_8 rfl (by decide) rfl ?_
      refine a_aload_n (z := 84) A dX5_isOn_11 rfl ?_
      refine gf_X5_71 (r := 105) A dX5_isOn_12 rfl (by decide) rfl ?_
      refine a_iload_n (z := (i : Int)) A dX5_isOn_15 rfl ?_
      refine a_iaload (i := (i : Int)) (x := M 105 i) A dX5_isOn_16 rfl (by decide) (by decide) (by omega) rfl ?_
      refine a_iaload (i := (M 105 i)) (x := M 87 ((M 105 i).toNat)) A dX5_isOn_17 rfl (by decide) (by decide) (by omega) rfl ?_
      refine a_iload_n (z := v) A dX5_isOn_18 rfl ?_
      refine a_icmp_ne (tgt := 24) A dX5_isOn_19 (by decide) (by omega) (by omega) (fun h19 => ?_) (fun h19 => ?_)
      · refine a_iinc (z := (i : Int)) (lv' := [.ref 84, vi (N : Int), vi v, vi ((i : Int) + 1)]) A dX5_isOn_24 rfl (by decide) rfl ?_
        refine a_goto (tgt := 2) A dX5_isOn_27 (by decide) ?_
        exact ih (i + 1) (by omega) (by omega) (lt_s hq h19)
      · refine a_iconst A dX5_isOn_22 ?_
        exact m_zreturn A T0 dX5_isOn_23 (by first | exact Or.inl rfl | exact Or.inr rfl | omega) (hp1 ⟨i, by omega, h19⟩)
set_option maxRecDepth 100000 in
set_option maxHeartbeats 4000000 in
theorem c_X5_isOn (G : GG) (l : Launch) (N : Nat) (v : Int) (M : MM) (hN : N ≤ 5) (hv0 : I32 v) (hr : ∀ k, k < N → 0 ≤ M 105 k ∧ M 105 k < 40) (hv : ∀ k, k < N → I32 (M 87 (M 105 k).toNat)) : CMi G l yX5_isOn cX5_isOn 4 (some .boolean) 1 [.ref 84, vi (N : Int), vi v] M (fun z M' => M' = M ∧ ((z = 1 ∧ ∃ k, k < N ∧ M 87 (M 105 k).toNat = v) ∨ (z = 0 ∧ ¬ ∃ k, k < N ∧ M 87 (M 105 k).toNat = v))) := by
  refine CT.intro (by decide) (Nat.le_of_ble_eq_true rfl) (fun E hE A T0 => ?_)
  subst hE
  refine a_iconst A dX5_isOn_0 ?_
  refine a_istore_n (lv' := [.ref 84, vi (N : Int), vi v, vi 0]) A dX5_isOn_1 (by decide) rfl ?_
  exact ison_loop5 A T0 N v M hN hv0 hr hv (fun q => ⟨rfl, Or.inl ⟨rfl, q⟩⟩) (fun q => ⟨rfl, Or.inr ⟨rfl, q⟩⟩) (N + 1) 0 (by omega) (by omega) (fun k hk => by omega)
