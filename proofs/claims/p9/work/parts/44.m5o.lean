/-- the next lane at post v, from j on, r lanes being left -/
def adv (M : MM) (v : Int) : Nat → Nat → Nat
  | 0, j => j
  | r + 1, j => if M 87 j = v ∨ M 88 j = v then j else adv M v r (j + 1)
def nj (M : MM) (v : Nat) : Nat := adv M v ((M 86 0).toNat - (M 102 v + 1).toNat) (M 102 v + 1).toNat
def ncR : Nat → Nat → MM → Int × MM
  | 0, _, M => (0, M)
  | c + 1, v, M => if (nj M v : Int) < M 86 0 then (1, up2 M 102 v (nj M v)) else ncR c (v + 1) (up2 M 102 v (-1))
theorem up2_up2 (M : MM) (c k : Nat) (x y : Int) : up2 (up2 M c k x) c k y = up2 M c k y := by
  funext c' k'
  unfold up2
  by_cases h : c' = c
  · subst h
    by_cases h2 : k' = k
    · simp [h2]
    · simp [h2]
  · simp [h]
theorem adv_le (M : MM) (v : Int) : ∀ (r j : Nat), j ≤ adv M v r j ∧ adv M v r j ≤ j + r := by
  intro r
  induction r with
  | zero => intro j; exact ⟨Nat.le_refl _, Nat.le_refl _⟩
  | succ r ih =>
    intro j
    unfold adv
    split
    · omega
    · have := ih (j + 1); omega
set_option maxRecDepth 100000 in
set_option maxHeartbeats 4000000 in
theorem nc_w5 {G : GG} {E : EE} (A : AmM G E cX5_nextChoice 2 yX5_nextChoice.cls 1) (M : MM) (v : Nat) (hw : WM M) (hv : 1 ≤ v ∧ v ≤ 4) : ∀ (n j : Nat), (M 86 0).toNat - j < n → (j : Int) ≤ M 86 0 → AM G E 2 82 [.ref 84, vi (v : Int)] [] (up2 M 102 v ((adv M v ((M 86 0).toNat - j) j : Nat) : Int)) → AM G E 2 24 [.ref 84, vi (v : Int)] [] (up2 M 102 v (j : Int)) := by
  intro n
  induction n with
  | zero => intro j hn hj hk; exfalso; omega
  | succ n ih =>
    intro j hn hj hk
    have hP := hw.1
    have hL := hw.2.1
    have hl0 : (j : Int) < M 86 0 → LW M j := hw.2.2 j
    unfold LW at hl0
    refine a_aload_n (z := 84) A dX5_nextChoice_24 rfl ?_
    refine gf_X5_62 (r := 102) A dX5_nextChoice_25 rfl (by decide) rfl ?_
    refine a_iload_n (z := (v : Int)) A dX5_nextChoice_28 rfl ?_
    refine a_iaload (i := (v : Int)) (x := (j : Int)) A dX5_nextChoice_29 rfl (by decide) (by decide) (by omega) (up2_self _ _ _ _) ?_
    refine a_aload_n (z := 84) A dX5_nextChoice_30 rfl ?_
    refine gf_X5_13 (r := 86) A dX5_nextChoice_31 rfl (by decide) rfl ?_
    refine a_iconst A dX5_nextChoice_34 ?_
    refine a_iaload (i := 0) (x := M 86 0) A dX5_nextChoice_35 rfl (by decide) (by decide) (by omega) rfl ?_
    refine a_icmp_ge (tgt := 82) A dX5_nextChoice_36 (by decide) (by omega) (by omega) (fun h36 => ?_) (fun h36 => ?_)
    · have e : adv M v ((M 86 0).toNat - j) j = j := by
        first | (rw [show (M 86 0).toNat - j = 0 by omega]; rfl) | (rw [show (M 86 0).toNat - j = ((M 86 0).toNat - (j + 1)) + 1 by omega]; unfold adv; rw [if_pos (by omega)])
      rw [e] at hk
      exact hk
    · refine a_aload_n (z := 84) A dX5_nextChoice_39 rfl ?_
      refine gf_X5_16 (r := 87) A dX5_nextChoice_40 rfl (by decide) rfl ?_
      refine a_aload_n (z := 84) A dX5_nextChoice_43 rfl ?_
      refine gf_X5_62 (r := 102) A dX5_nextChoice_44 rfl (by decide) rfl ?_
      refine a_iload_n (z := (v : Int)) A dX5_nextChoice_47 rfl ?_
      refine a_iaload (i := (v : Int)) (x := (j : Int)) A dX5_nextChoice_48 rfl (by decide) (by decide) (by omega) (up2_self _ _ _ _) ?_
      refine a_iaload (i := (j : Int)) (x := M 87 j) A dX5_nextChoice_49 rfl (by decide) (by decide) (by omega) rfl ?_
      refine a_iload_n (z := (v : Int)) A dX5_nextChoice_50 rfl ?_
      refine a_icmp_eq (tgt := 82) A dX5_nextChoice_51 (by decide) (by omega) (by omega) (fun h51 => ?_) (fun h51 => ?_)
      · have e : adv M v ((M 86 0).toNat - j) j = j := by
          first | (rw [show (M 86 0).toNat - j = 0 by omega]; rfl) | (rw [show (M 86 0).toNat - j = ((M 86 0).toNat - (j + 1)) + 1 by omega]; unfold adv; rw [if_pos (by omega)])
        rw [e] at hk
        exact hk
      · refine a_aload_n (z := 84) A dX5_nextChoice_54 rfl ?_
        refine gf_X5_19 (r := 88) A dX5_nextChoice_55 rfl (by decide) rfl ?_
        refine a_aload_n (z := 84) A dX5_nextChoice_58 rfl ?_
        refine gf_X5_62 (r := 102) A dX5_nextChoice_59 rfl (by decide) rfl ?_
        refine a_iload_n (z := (v : Int)) A dX5_nextChoice_62 rfl ?_
        refine a_iaload (i := (v : Int)) (x := (j : Int)) A dX5_nextChoice_63 rfl (by decide) (by decide) (by omega) (up2_self _ _ _ _) ?_
        refine a_iaload (i := (j : Int)) (x := M 88 j) A dX5_nextChoice_64 rfl (by decide) (by decide) (by omega) rfl ?_
        refine a_iload_n (z := (v : Int)) A dX5_nextChoice_65 rfl ?_
        refine a_icmp_eq (tgt := 82) A dX5_nextChoice_66 (by decide) (by omega) (by omega) (fun h66 => ?_) (fun h66 => ?_)
        · have e : adv M v ((M 86 0).toNat - j) j = j := by
            first | (rw [show (M 86 0).toNat - j = 0 by omega]; rfl) | (rw [show (M 86 0).toNat - j = ((M 86 0).toNat - (j + 1)) + 1 by omega]; unfold adv; rw [if_pos (by omega)])
          rw [e] at hk
          exact hk
        · refine a_aload_n (z := 84) A dX5_nextChoice_69 rfl ?_
          refine gf_X5_62 (r := 102) A dX5_nextChoice_70 rfl (by decide) rfl ?_
          refine a_iload_n (z := (v : Int)) A dX5_nextChoice_73 rfl ?_
          refine a_dup2 A dX5_nextChoice_74 rfl rfl ?_
          refine a_iaload (i := (v : Int)) (x := (j : Int)) A dX5_nextChoice_75 rfl (by decide) (by decide) (by omega) (up2_self _ _ _ _) ?_
          refine a_iconst A dX5_nextChoice_76 ?_
          refine a_iadd (x := (j : Int)) (y := 1) A dX5_nextChoice_77 ?_
          refine a_iastore (i := (v : Int)) (j := v) A dX5_nextChoice_78 rfl (by decide) (by decide) (by omega) rfl ?_
          refine a_goto (tgt := 24) A dX5_nextChoice_79 (by decide) ?_
          have e : adv M v ((M 86 0).toNat - j) j = adv M v ((M 86 0).toNat - (j + 1)) (j + 1) := by
            rw [show (M 86 0).toNat - j = ((M 86 0).toNat - (j + 1)) + 1 by omega]
            conv => lhs; unfold adv
            rw [if_neg (by omega)]
          rw [e] at hk
          rw [up2_up2]
          exact ih (j + 1) (by omega) (by omega) hk
set_option maxRecDepth 100000 in
set_option maxHeartbeats 4000000 in
theorem nc_o5 {G : GG} {E : EE} {P : Int → MM → Prop} (A : AmM G E cX5_nextChoice 2 yX5_nextChoice.cls 1) (T0 : RT E G yX5_nextChoice 108 0 0 (some .boolean) (fun r rf' M' => rf' = rF ∧ ∃ z, r = some (vi z) ∧ P z M')) : ∀ (c v : Nat) (M : MM), WM M → 1 ≤ v → (v : Int) + c = M 85 0 - 1 → (∀ u : Nat, v ≤ u → (u : Int) < M 85 0 - 1 → -1 ≤ M 102 u ∧ M 102 u < M 86 0) → P (ncR c v M).1 (ncR c v M).2 → AM G E 2 2 [.ref 84, vi (v : Int)] [] M := by
  intro c
  induction c with
  | zero =>
    intro v M hw h1 hv hc hp
    have hP := hw.1
    refine a_iload_n (z := (v : Int)) A dX5_nextChoice_2 rfl ?_
    refine a_aload_n (z := 84) A dX5_nextChoice_3 rfl ?_
    refine gf_X5_7 (r := 85) A dX5_nextChoice_4 rfl (by decide) rfl ?_
    refine a_iconst A dX5_nextChoice_7 ?_
    refine a_iaload (i := 0) (x := M 85 0) A dX5_nextChoice_8 rfl (by decide) (by decide) (by omega) rfl ?_
    refine a_iconst A dX5_nextChoice_9 ?_
    refine a_isub (x := (M 85 0)) (y := 1) A dX5_nextChoice_10 ?_
    refine a_icmp_ge (tgt := 112) A dX5_nextChoice_11 (by decide) (by omega) (by omega) (fun h11 => ?_) (fun h11 => ?_)
    · refine a_iconst A dX5_nextChoice_112 ?_
      exact m_zreturn A T0 dX5_nextChoice_113 (by first | exact Or.inl rfl | exact Or.inr rfl | omega) (by exact hp)
    · exfalso; omega
  | succ c ih =>
    intro v M hw h1 hv hc hp
    have hP := hw.1
    have hL := hw.2.1
    have hcv := hc v (Nat.le_refl _) (by omega)
    obtain ⟨j0, hj0⟩ : ∃ j0 : Nat, M 102 v + 1 = (j0 : Int) := ⟨(M 102 v + 1).toNat, by omega⟩
    have hnj : nj M v = adv M v ((M 86 0).toNat - j0) j0 := by unfold nj; rw [hj0]; rfl
    have hle := adv_le M v ((M 86 0).toNat - j0) j0
    refine a_iload_n (z := (v : Int)) A dX5_nextChoice_2 rfl ?_
    refine a_aload_n (z := 84) A dX5_nextChoice_3 rfl ?_
    refine gf_X5_7 (r := 85) A dX5_nextChoice_4 rfl (by decide) rfl ?_
    refine a_iconst A dX5_nextChoice_7 ?_
    refine a_iaload (i := 0) (x := M 85 0) A dX5_nextChoice_8 rfl (by decide) (by decide) (by omega) rfl ?_
    refine a_iconst A dX5_nextChoice_9 ?_
    refine a_isub (x := (M 85 0)) (y := 1) A dX5_nextChoice_10 ?_
    refine a_icmp_ge (tgt := 112) A dX5_nextChoice_11 (by decide) (by omega) (by omega) (fun h11 => ?_) (fun h11 => ?_)
    · exfalso; omega
    · refine a_aload_n (z := 84) A dX5_nextChoice_14 rfl ?_
      refine gf_X5_62 (r := 102) A dX5_nextChoice_15 rfl (by decide) rfl ?_
      refine a_iload_n (z := (v : Int)) A dX5_nextChoice_18 rfl ?_
      refine a_dup2 A dX5_nextChoice_19 rfl rfl ?_
      refine a_iaload (i := (v : Int)) (x := M 102 v) A dX5_nextChoice_20 rfl (by decide) (by decide) (by omega) rfl ?_
      refine a_iconst A dX5_nextChoice_21 ?_
      refine a_iadd (x := (M 102 v)) (y := 1) A dX5_nextChoice_22 ?_
      refine a_iastore (i := (v : Int)) (j := v) A dX5_nextChoice_23 rfl (by decide) (by decide) (by omega) rfl ?_
      rw [hj0]
      refine nc_w5 A M v hw ⟨h1, by omega⟩ ((M 86 0).toNat - j0 + 1) j0 (by omega) (by omega) ?_
      rw [← hnj]
      refine a_aload_n (z := 84) A dX5_nextChoice_82 rfl ?_
      refine gf_X5_62 (r := 102) A dX5_nextChoice_83 rfl (by decide) rfl ?_
      refine a_iload_n (z := (v : Int)) A dX5_nextChoice_86 rfl ?_
      refine a_iaload (i := (v : Int)) (x := ((nj M v : Nat) : Int)) A dX5_nextChoice_87 rfl (by decide) (by decide) (by omega) (up2_self _ _ _ _) ?_
      refine a_aload_n (z := 84) A dX5_nextChoice_88 rfl ?_
      refine gf_X5_13 (r := 86) A dX5_nextChoice_89 rfl (by decide) rfl ?_
      refine a_iconst A dX5_nextChoice_92 ?_
      refine a_iaload (i := 0) (x := M 86 0) A dX5_nextChoice_93 rfl (by decide) (by decide) (by omega) rfl ?_
      refine a_icmp_ge (tgt := 99) A dX5_nextChoice_94 (by decide) (by omega) (by omega) (fun h94 => ?_) (fun h94 => ?_)
      · refine a_aload_n (z := 84) A dX5_nextChoice_99 rfl ?_
        refine gf_X5_62 (r := 102) A dX5_nextChoice_100 rfl (by decide) rfl ?_
        refine a_iload_n (z := (v : Int)) A dX5_nextChoice_103 rfl ?_
        refine a_iconst A dX5_nextChoice_104 ?_
        refine a_iastore (i := (v : Int)) (j := v) A dX5_nextChoice_105 rfl (by decide) (by decide) (by omega) rfl ?_
        refine a_iinc (z := (v : Int)) (lv' := [.ref 84, vi ((v : Int) + 1)]) A dX5_nextChoice_106 rfl (by decide) rfl ?_
        refine a_goto (tgt := 2) A dX5_nextChoice_109 (by decide) ?_
        rw [up2_up2]
        unfold ncR at hp
        rw [if_neg (by omega)] at hp
        exact ih (v + 1) (up2 M 102 v (-1)) hw (by omega) (show ((v + 1 : Nat) : Int) + c = M 85 0 - 1 by omega) (fun u h2 h3 => by rw [up2_in, if_neg (by omega)]; exact hc u (by omega) h3) hp
      · refine a_iconst A dX5_nextChoice_97 ?_
        exact m_zreturn A T0 dX5_nextChoice_98 (by first | exact Or.inl rfl | exact Or.inr rfl | omega) (by unfold ncR at hp; rw [if_pos (by omega)] at hp; exact hp)
set_option maxRecDepth 100000 in
set_option maxHeartbeats 4000000 in
theorem c_X5_nextChoice (G : GG) (l : Launch) (M : MM) (hw : WM M) (hc : ∀ u : Nat, 1 ≤ u → (u : Int) < M 85 0 - 1 → -1 ≤ M 102 u ∧ M 102 u < M 86 0) : CMi G l yX5_nextChoice cX5_nextChoice 2 (some .boolean) 1 [.ref 84] M (fun z M' => (z = 0 ∨ z = 1) ∧ (z, M') = ncR ((M 85 0).toNat - 2) 1 M) := by
  refine CT.intro (by decide) (Nat.le_of_ble_eq_true rfl) (fun E hE A T0 => ?_)
  subst hE
  refine a_iconst A dX5_nextChoice_0 ?_
  refine a_istore_n (lv' := [.ref 84, vi 1]) A dX5_nextChoice_1 (by decide) rfl ?_
  have hP := hw.1
  have hz : ∀ (c v : Nat) (M : MM), (ncR c v M).1 = 0 ∨ (ncR c v M).1 = 1 := by
    intro c
    induction c with
    | zero => intro v M; exact Or.inl rfl
    | succ c ih => intro v M; unfold ncR; split; exact Or.inr rfl; exact ih _ _
  exact nc_o5 A T0 ((M 85 0).toNat - 2) 1 M hw (by omega) (by omega) hc ⟨hz _ _ _, rfl⟩
