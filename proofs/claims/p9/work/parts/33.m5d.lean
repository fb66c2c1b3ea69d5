theorem sumZ_bd {f : Nat → Int} {c : Int} {n : Nat} (hc : 0 ≤ c) (h : ∀ i, i < n → 0 ≤ f i ∧ f i ≤ c) : 0 ≤ sumZ f n ∧ sumZ f n ≤ n * c := by
  induction n with
  | zero => simp [sumZ]
  | succ n ih =>
    have h1 := ih (fun i hi => h i (by omega))
    have h2 := h n (by omega)
    have h3 : ((n + 1 : Nat) : Int) * c = n * c + c := by push_cast; rw [Int.add_mul, Int.one_mul]
    rw [h3]
    simp only [sumZ]
    omega
theorem tdiv_bd {a b : Int} (ha : 0 ≤ a) (hb : 1 ≤ b) : 0 ≤ a.tdiv b ∧ a.tdiv b ≤ a := by
  rw [Int.tdiv_eq_ediv_of_nonneg ha]
  exact ⟨Int.ediv_nonneg ha (by omega), Int.ediv_le_self _ ha⟩
theorem arr_bd {M : MM} (hL : 0 ≤ M 86 0 ∧ M 86 0 ≤ 10) (hW : ∀ i : Nat, (i : Int) < M 86 0 → LW M i) (v : Int) : 0 ≤ sumZ (arrF M v) (M 86 0).toNat ∧ sumZ (arrF M v) (M 86 0).toNat ≤ 571536000000 := by
  have h := sumZ_bd (f := arrF M v) (c := 57153600000) (n := (M 86 0).toNat) (by omega) (fun i hi => by
    have hl := hW i (by omega)
    unfold LW at hl
    unfold arrF
    split
    · have h1 := mul_pos9 (a := M 94 i) (b := M 91 i) (by omega) (by omega)
      have h2 := tdiv_bd (a := 6350400) (b := M 94 i * M 91 i) (by omega) h1.1
      have h3 := mul_bd (A := 6350400) (B := 1000) h2 (b := M 93 i) (by omega)
      have h4 := mul_bd (A := 6350400 * 1000) (B := 9) h3 (b := M 90 i) (by omega)
      omega
    · omega)
  omega
theorem lev_bd {M : MM} (hL : 0 ≤ M 86 0 ∧ M 86 0 ≤ 10) (hW : ∀ i : Nat, (i : Int) < M 86 0 → LW M i) (v : Int) : 0 ≤ sumZ (levF M v) (M 86 0).toNat ∧ sumZ (levF M v) (M 86 0).toNat ≤ 571536000000 := by
  have h := sumZ_bd (f := levF M v) (c := 57153600000) (n := (M 86 0).toNat) (by omega) (fun i hi => by
    have hl := hW i (by omega)
    unfold LW at hl
    unfold levF
    split
    · have h2 := tdiv_bd (a := 6350400) (b := M 94 i) (by omega) (by omega)
      have h3 := mul_bd (A := 6350400) (B := 1000) h2 (b := M 93 i) (by omega)
      omega
    · omega)
  omega
def RG (M : MM) : Prop := (∀ i : Nat, (i : Int) < M 86 0 → M 93 i ≤ M 89 i * M 94 i) ∧ ∀ v : Nat, 1 ≤ v → (v : Int) < M 85 0 - 1 → sumZ (levF M v) (M 86 0).toNat ≤ sumZ (arrF M v) (M 86 0).toNat
set_option maxRecDepth 100000 in
set_option maxHeartbeats 4000000 in
theorem right_loop5b {G : GG} {E : EE} {P : Int → MM → Prop} (A : AmM G E cX5_right 2 yX5_right.cls 2) (T0 : RT E G yX5_right 108 0 0 (some .boolean) (fun r rf' M' => rf' = rF ∧ ∃ z, r = some (vi z) ∧ P z M')) (M : MM) (hL : 0 ≤ M 86 0 ∧ M 86 0 ≤ 10) (hP : 2 ≤ M 85 0 ∧ M 85 0 ≤ 5) (hW : ∀ i : Nat, (i : Int) < M 86 0 → LW M i) (h1 : ∀ i : Nat, (i : Int) < M 86 0 → M 93 i ≤ M 89 i * M 94 i) (hp1 : RG M → P 1 M) (hp0 : ¬ RG M → P 0 M) : ∀ (n : Nat) (v : Nat), 5 - v < n → 1 ≤ v → (v : Int) ≤ M 85 0 - 1 → (∀ u : Nat, 1 ≤ u → u < v → sumZ (levF M u) (M 86 0).toNat ≤ sumZ (arrF M u) (M 86 0).toNat) → AM G E 2 49 [.ref 84, vi (v : Int)] [] M := by
  intro n
  induction n with
  | zero => intro v hn hv1 hv hq; exfalso; omega
  | succ n ih =>
    intro v hn hv1 hv hq
    have ba := arr_bd hL hW v
    have bl := lev_bd hL hW v
    refine a_iload_n (z := (v : Int)) A dX5_right_49 rfl ?_
    refine a_aload_n (z := 84) A dX5_right_50 rfl ?_
    refine gf_X5_7 (r := 85) A dX5_right_51 rfl (by decide) rfl ?_
    refine a_iconst A dX5_right_54 ?_
    refine a_iaload (i := 0) (x := M 85 0) A dX5_right_55 rfl (by decide) (by decide) (by omega) rfl ?_
    refine a_iconst A dX5_right_56 ?_
    refine a_isub (x := (M 85 0)) (y := 1) A dX5_right_57 ?_
    refine a_icmp_ge (tgt := 83) A dX5_right_58 (by decide) (by omega) (by omega) (fun h58 => ?_) (fun h58 => ?_)
    · refine a_iconst A dX5_right_83 ?_
      exact m_zreturn A T0 dX5_right_84 (by first | exact Or.inl rfl | exact Or.inr rfl | omega) (hp1 ⟨h1, fun u h2 h3 => hq u h2 (by omega)⟩)
    · refine a_aload_n (z := 84) A dX5_right_61 rfl ?_
      refine a_iload_n (z := (v : Int)) A dX5_right_62 rfl ?_
      refine m_invVl A (c_X5_arrives G _ (v : Int) M (by omega) hL hP hW) (by decide) mi_X5_arrives mv_X5_arrives cs_X5_186 cf5 dX5_right_63 rfl (by decide) rfl rfl (Nat.le_of_ble_eq_true rfl) (fun z63 M63 h63 => ?_)
      obtain ⟨e63, rfl⟩ := h63
      have e63 := e63.symm
      subst e63
      refine a_aload_n (z := 84) A dX5_right_66 rfl ?_
      refine a_iload_n (z := (v : Int)) A dX5_right_67 rfl ?_
      refine m_invVl A (c_X5_leaves G _ (v : Int) M (by omega) hL hP hW) (by decide) mi_X5_leaves mv_X5_leaves cs_X5_189 cf5 dX5_right_68 rfl (by decide) rfl rfl (Nat.le_of_ble_eq_true rfl) (fun z68 M68 h68 => ?_)
      obtain ⟨e68, rfl⟩ := h68
      have e68 := e68.symm
      subst e68
      refine a_lcmp_ge (tgt := 77) A dX5_right_71 dX5_right_72 (by decide) (by omega) (by omega) (fun h71 => ?_) (fun h71 => ?_)
      · refine a_iinc (z := (v : Int)) (lv' := [.ref 84, vi ((v : Int) + 1)]) A dX5_right_77 rfl (by decide) rfl ?_
        refine a_goto (tgt := 49) A dX5_right_80 (by decide) ?_
        exact ih (v + 1) (by omega) (by omega) (by omega) (fun u h2 h3 => by rcases Nat.lt_or_ge u v with q | q; · exact hq u h2 q
                                                                             · rw [show u = v by omega]; omega)
      · refine a_iconst A dX5_right_75 ?_
        exact m_zreturn A T0 dX5_right_76 (by first | exact Or.inl rfl | exact Or.inr rfl | omega) (hp0 (fun q => by have := q.2 v hv1 (by omega); omega))
set_option maxRecDepth 100000 in
set_option maxHeartbeats 4000000 in
theorem right_loop5a {G : GG} {E : EE} {P : Int → MM → Prop} (A : AmM G E cX5_right 2 yX5_right.cls 2) (T0 : RT E G yX5_right 108 0 0 (some .boolean) (fun r rf' M' => rf' = rF ∧ ∃ z, r = some (vi z) ∧ P z M')) (M : MM) (hL : 0 ≤ M 86 0 ∧ M 86 0 ≤ 10) (hP : 2 ≤ M 85 0 ∧ M 85 0 ≤ 5) (hW : ∀ i : Nat, (i : Int) < M 86 0 → LW M i) (hp1 : RG M → P 1 M) (hp0 : ¬ RG M → P 0 M) : ∀ (n : Nat) (i : Nat), (M 86 0).toNat - i < n → (i : Int) ≤ M 86 0 → (∀ j : Nat, j < i → M 93 j ≤ M 89 j * M 94 j) → AM G E 2 7 [.ref 84, vi (i : Int)] [] M := by
  intro n
  induction n with
  | zero => intro i hn hi hq; exfalso; omega
  | succ n ih =>
    intro i hn hi hq
    have hl0 : (i : Int) < M 86 0 → LW M i := hW i
    unfold LW at hl0
    have hm0 : (i : Int) < M 86 0 → 0 ≤ M 89 i * M 94 i ∧ M 89 i * M 94 i ≤ 100 * 9 := fun q => mul_bd (by omega) (by omega)
    refine a_iload_n (z := (i : Int)) A dX5_right_7 rfl ?_
    refine a_aload_n (z := 84) A dX5_right_8 rfl ?_
    refine gf_X5_13 (r := 86) A dX5_right_9 rfl (by decide) rfl ?_
    refine a_iconst A dX5_right_12 ?_
    refine a_iaload (i := 0) (x := M 86 0) A dX5_right_13 rfl (by decide) (by decide) (by omega) rfl ?_
    refine a_icmp_ge (tgt := 47) A dX5_right_14 (by decide) (by omega) (by omega) (fun h14 => ?_) (fun h14 => ?_)
    · refine a_iconst A dX5_right_47 ?_
      refine a_istore_n (lv' := [.ref 84, vi 1]) A dX5_right_48 (by decide) rfl ?_
      exact right_loop5b A T0 M hL hP hW (fun j h2 => hq j (by omega)) hp1 hp0 6 1 (by omega) (by omega) (by omega) (fun u h2 h3 => by omega)
    · refine a_aload_n (z := 84) A dX5_right_17 rfl ?_
      refine gf_X5_34 (r := 93) A dX5_right_18 rfl (by decide) rfl ?_
      refine a_iload_n (z := (i : Int)) A dX5_right_21 rfl ?_
      refine a_iaload (i := (i : Int)) (x := M 93 i) A dX5_right_22 rfl (by decide) (by decide) (by omega) rfl ?_
      refine a_aload_n (z := 84) A dX5_right_23 rfl ?_
      refine gf_X5_22 (r := 89) A dX5_right_24 rfl (by decide) rfl ?_
      refine a_iload_n (z := (i : Int)) A dX5_right_27 rfl ?_
      refine a_iaload (i := (i : Int)) (x := M 89 i) A dX5_right_28 rfl (by decide) (by decide) (by omega) rfl ?_
      refine a_aload_n (z := 84) A dX5_right_29 rfl ?_
      refine gf_X5_37 (r := 94) A dX5_right_30 rfl (by decide) rfl ?_
      refine a_iload_n (z := (i : Int)) A dX5_right_33 rfl ?_
      refine a_iaload (i := (i : Int)) (x := M 94 i) A dX5_right_34 rfl (by decide) (by decide) (by omega) rfl ?_
      refine a_imul (x := (M 89 i)) (y := (M 94 i)) A dX5_right_35 ?_
      refine a_icmp_le (tgt := 41) A dX5_right_36 (by decide) (by omega) (by omega) (fun h36 => ?_) (fun h36 => ?_)
      · refine a_iinc (z := (i : Int)) (lv' := [.ref 84, vi ((i : Int) + 1)]) A dX5_right_41 rfl (by decide) rfl ?_
        refine a_goto (tgt := 7) A dX5_right_44 (by decide) ?_
        exact ih (i + 1) (by omega) (by omega) (fun j h2 => by rcases Nat.lt_or_ge j i with q | q; · exact hq j q
                                                               · rw [show j = i by omega]; omega)
      · refine a_iconst A dX5_right_39 ?_
        exact m_zreturn A T0 dX5_right_40 (by first | exact Or.inl rfl | exact Or.inr rfl | omega) (hp0 (fun q => by have := q.1 i (by omega); omega))
set_option maxRecDepth 100000 in
set_option maxHeartbeats 4000000 in
theorem c_X5_right (G : GG) (l : Launch) (M : MM) (hL : 0 ≤ M 86 0 ∧ M 86 0 ≤ 10) (hP : 2 ≤ M 85 0 ∧ M 85 0 ≤ 5) (hW : ∀ i : Nat, (i : Int) < M 86 0 → LW M i) : CMi G l yX5_right cX5_right 2 (some .boolean) 2 [.ref 84] M (fun z M' => M' = up2 M 84 0 0 ∧ ((z = 1 ∧ RG M) ∨ (z = 0 ∧ ¬ RG M))) := by
  refine CT.intro (by decide) (Nat.le_of_ble_eq_true rfl) (fun E hE A T0 => ?_)
  subst hE
  refine a_aload_n (z := 84) A dX5_right_0 rfl ?_
  refine a_iconst A dX5_right_1 ?_
  refine pf_X5_81 A dX5_right_2 rfl (by decide) ?_
  refine a_iconst A dX5_right_5 ?_
  refine a_istore_n (lv' := [.ref 84, vi 0]) A dX5_right_6 (by decide) rfl ?_
  exact right_loop5a A T0 (up2 M 84 0 0) hL hP hW (fun q => ⟨rfl, Or.inl ⟨rfl, q⟩⟩) (fun q => ⟨rfl, Or.inr ⟨rfl, q⟩⟩) ((M 86 0).toNat + 1) 0 (show (M 86 0).toNat - 0 < _ by omega) hL.1 (fun j h2 => by omega)
set_option maxRecDepth 100000 in
set_option maxHeartbeats 4000000 in
theorem c_X5_left (G : GG) (l : Launch) (v b : Int) (M : MM) (hv : I32 v) (hb : I32 b) (hL : 0 ≤ M 86 0 ∧ M 86 0 ≤ 10) (hP : 2 ≤ M 85 0 ∧ M 85 0 ≤ 5) (hW : ∀ i : Nat, (i : Int) < M 86 0 → LW M i) : CMl G l yX5_left cX5_left 5 (some .long) 4 [.ref 84, vi v, vi b] M (fun z M' => ((v < 0 ∨ M 85 0 ≤ v) ∧ z = 0 ∧ M' = up2 M 84 0 0) ∨ ((0 ≤ v ∧ v < M 85 0) ∧ ∃ s : Int, ((v = 0 ∧ s = sumZ (levF M 0) (M 86 0).toNat) ∨ (v ≠ 0 ∧ v = M 85 0 - 1 ∧ s = sumZ (arrF M v) (M 86 0).toNat) ∨ (v ≠ 0 ∧ v ≠ M 85 0 - 1 ∧ s = sumZ (arrF M v) (M 86 0).toNat - sumZ (levF M v) (M 86 0).toNat)) ∧ M' = up2 (up2 (up2 M 84 0 0) 84 15 (nU s 6350400)) 84 16 (nD s 6350400) ∧ ((b ≠ 0 ∧ z = nD s 6350400) ∨ (b = 0 ∧ z = nU s 6350400)))) := by
  refine CT.intro (by decide) (Nat.le_of_ble_eq_true rfl) (fun E hE A T0 => ?_)
  subst hE
  have ba := arr_bd hL hW v
  have bl := lev_bd hL hW v
  have bl0 := lev_bd hL hW 0
  refine a_aload_n (z := 84) A dX5_left_0 rfl ?_
  refine a_iconst A dX5_left_1 ?_
  refine pf_X5_81 A dX5_left_2 rfl (by decide) ?_
  refine a_aload_n (z := 84) A dX5_left_5 rfl ?_
  refine a_iload_n (z := v) A dX5_left_6 rfl ?_
  refine m_invVi A (c_X5_isPost G _ v (up2 M 84 0 0) (by omega) hP) (by decide) mi_X5_isPost mv_X5_isPost cs_X5_93 cf5 dX5_left_7 rfl (by decide) rfl rfl (Nat.le_of_ble_eq_true rfl) (fun z7 M7 h7 => ?_)
  obtain ⟨e7, hc7⟩ := h7
  have e7 := e7.symm
  subst e7
  have hc7 : (z7 = 1 ∧ 0 ≤ v ∧ v < M 85 0) ∨ (z7 = 0 ∧ (v < 0 ∨ M 85 0 ≤ v)) := hc7
  refine a_if_ne (tgt := 15) A dX5_left_10 (by decide) (by omega) (fun h10 => ?_) (fun h10 => ?_)
  · refine a_iload_n (z := v) A dX5_left_15 rfl ?_
    refine a_if_ne (tgt := 27) A dX5_left_16 (by decide) (by omega) (fun h16 => ?_) (fun h16 => ?_)
    · refine a_iload_n (z := v) A dX5_left_27 rfl ?_
      refine a_aload_n (z := 84) A dX5_left_28 rfl ?_
      refine gf_X5_7 (r := 85) A dX5_left_29 rfl (by decide) rfl ?_
      refine a_iconst A dX5_left_32 ?_
      refine a_iaload (i := 0) (x := M 85 0) A dX5_left_33 rfl (by decide) (by decide) (by omega) rfl ?_
      refine a_iconst A dX5_left_34 ?_
      refine a_isub (x := (M 85 0)) (y := 1) A dX5_left_35 ?_
      refine a_icmp_ne (tgt := 47) A dX5_left_36 (by decide) (by omega) (by omega) (fun h36 => ?_) (fun h36 => ?_)
      · refine a_aload_n (z := 84) A dX5_left_47 rfl ?_
        refine a_iload_n (z := v) A dX5_left_48 rfl ?_
        refine m_invVl A (c_X5_arrives G _ v (up2 M 84 0 0) (by omega) hL hP hW) (by decide) mi_X5_arrives mv_X5_arrives cs_X5_186 cf5 dX5_left_49 rfl (by decide) rfl rfl (Nat.le_of_ble_eq_true rfl) (fun z49 M49 h49 => ?_)
        obtain ⟨e49, rfl⟩ := h49
        have e49 := e49.symm
        subst e49
        refine a_aload_n (z := 84) A dX5_left_52 rfl ?_
        refine a_iload_n (z := v) A dX5_left_53 rfl ?_
        refine m_invVl A (c_X5_leaves G _ v (up2 M 84 0 0) (by omega) hL hP hW) (by decide) mi_X5_leaves mv_X5_leaves cs_X5_189 cf5 dX5_left_54 rfl (by decide) rfl rfl (Nat.le_of_ble_eq_true rfl) (fun z54 M54 h54 => ?_)
        obtain ⟨e54, rfl⟩ := h54
        have e54 := e54.symm
        subst e54
        refine a_lsub (x := (sumZ (arrF M v) (M 86 0).toNat)) (y := (sumZ (levF M v) (M 86 0).toNat)) A dX5_left_57 ?_
        refine a_lstore_n (lv' := [.ref 84, vi v, vi b, vl ((sumZ (arrF M v) (M 86 0).toNat) - (sumZ (levF M v) (M 86 0).toNat)), jk]) A dX5_left_58 (by decide) rfl ?_
        refine a_aload_n (z := 84) A dX5_left_59 rfl ?_
        refine a_lload_n (z := ((sumZ (arrF M v) (M 86 0).toNat) - (sumZ (levF M v) (M 86 0).toNat))) A dX5_left_60 rfl ?_
        refine a_ldc2 A lk_X5_184 dX5_left_61 ?_
        refine m_invVv A (c_X5_put G _ ((sumZ (arrF M v) (M 86 0).toNat) - (sumZ (levF M v) (M 86 0).toNat)) 6350400 (up2 M 84 0 0) (by omega) (by omega)) (by decide) mi_X5_put mv_X5_put cs_X5_100 cf5 dX5_left_64 rfl (by decide) rfl rfl (Nat.le_of_ble_eq_true rfl) (fun M64 h64 => ?_)
        have h64 := h64.symm
        subst h64
        refine a_iload_n (z := b) A dX5_left_67 rfl ?_
        refine a_if_eq (tgt := 78) A dX5_left_68 (by decide) (by omega) (fun h68 => ?_) (fun h68 => ?_)
        · refine a_aload_n (z := 84) A dX5_left_78 rfl ?_
          refine gf_X5_104 (x := (nU ((sumZ (arrF M v) (M 86 0).toNat) - (sumZ (levF M v) (M 86 0).toNat)) 6350400)) A dX5_left_79 rfl (by decide) rfl ?_
          exact m_lreturn A T0 dX5_left_82 (by first | exact Or.inl ⟨by omega, rfl, rfl⟩ | exact Or.inr ⟨by omega, _, Or.inl ⟨by omega, rfl⟩, rfl, by omega⟩ | exact Or.inr ⟨by omega, _, Or.inr (Or.inl ⟨by omega, by omega, rfl⟩), rfl, by omega⟩ | exact Or.inr ⟨by omega, _, Or.inr (Or.inr ⟨by omega, by omega, rfl⟩), rfl, by omega⟩)
        · refine a_aload_n (z := 84) A dX5_left_71 rfl ?_
          refine gf_X5_108 (x := (nD ((sumZ (arrF M v) (M 86 0).toNat) - (sumZ (levF M v) (M 86 0).toNat)) 6350400)) A dX5_left_72 rfl (by decide) rfl ?_
          refine a_goto (tgt := 82) A dX5_left_75 (by decide) ?_
          exact m_lreturn A T0 dX5_left_82 (by first | exact Or.inl ⟨by omega, rfl, rfl⟩ | exact Or.inr ⟨by omega, _, Or.inl ⟨by omega, rfl⟩, rfl, by omega⟩ | exact Or.inr ⟨by omega, _, Or.inr (Or.inl ⟨by omega, by omega, rfl⟩), rfl, by omega⟩ | exact Or.inr ⟨by omega, _, Or.inr (Or.inr ⟨by omega, by omega, rfl⟩), rfl, by omega⟩)
      · refine a_aload_n (z := 84) A dX5_left_39 rfl ?_
        refine a_iload_n (z := v) A dX5_left_40 rfl ?_
        refine m_invVl A (c_X5_arrives G _ v (up2 M 84 0 0) (by omega) hL hP hW) (by decide) mi_X5_arrives mv_X5_arrives cs_X5_186 cf5 dX5_left_41 rfl (by decide) rfl rfl (Nat.le_of_ble_eq_true rfl) (fun z41 M41 h41 => ?_)
        obtain ⟨e41, rfl⟩ := h41
        have e41 := e41.symm
        subst e41
        refine a_goto (tgt := 58) A dX5_left_44 (by decide) ?_
        refine a_lstore_n (lv' := [.ref 84, vi v, vi b, vl (sumZ (arrF M v) (M 86 0).toNat), jk]) A dX5_left_58 (by decide) rfl ?_
        refine a_aload_n (z := 84) A dX5_left_59 rfl ?_
        refine a_lload_n (z := (sumZ (arrF M v) (M 86 0).toNat)) A dX5_left_60 rfl ?_
        refine a_ldc2 A lk_X5_184 dX5_left_61 ?_
        refine m_invVv A (c_X5_put G _ (sumZ (arrF M v) (M 86 0).toNat) 6350400 (up2 M 84 0 0) (by omega) (by omega)) (by decide) mi_X5_put mv_X5_put cs_X5_100 cf5 dX5_left_64 rfl (by decide) rfl rfl (Nat.le_of_ble_eq_true rfl) (fun M64 h64 => ?_)
        have h64 := h64.symm
        subst h64
        refine a_iload_n (z := b) A dX5_left_67 rfl ?_
        refine a_if_eq (tgt := 78) A dX5_left_68 (by decide) (by omega) (fun h68 => ?_) (fun h68 => ?_)
        · refine a_aload_n (z := 84) A dX5_left_78 rfl ?_
          refine gf_X5_104 (x := (nU (sumZ (arrF M v) (M 86 0).toNat) 6350400)) A dX5_left_79 rfl (by decide) rfl ?_
          exact m_lreturn A T0 dX5_left_82 (by first | exact Or.inl ⟨by omega, rfl, rfl⟩ | exact Or.inr ⟨by omega, _, Or.inl ⟨by omega, rfl⟩, rfl, by omega⟩ | exact Or.inr ⟨by omega, _, Or.inr (Or.inl ⟨by omega, by omega, rfl⟩), rfl, by omega⟩ | exact Or.inr ⟨by omega, _, Or.inr (Or.inr ⟨by omega, by omega, rfl⟩), rfl, by omega⟩)
        · refine a_aload_n (z := 84) A dX5_left_71 rfl ?_
          refine gf_X5_108 (x := (nD (sumZ (arrF M v) (M 86 0).toNat) 6350400)) A dX5_left_72 rfl (by decide) rfl ?_
          refine a_goto (tgt := 82) A dX5_left_75 (by decide) ?_
          exact m_lreturn A T0 dX5_left_82 (by first | exact Or.inl ⟨by omega, rfl, rfl⟩ | exact Or.inr ⟨by omega, _, Or.inl ⟨by omega, rfl⟩, rfl, by omega⟩ | exact Or.inr ⟨by omega, _, Or.inr (Or.inl ⟨by omega, by omega, rfl⟩), rfl, by omega⟩ | exact Or.inr ⟨by omega, _, Or.inr (Or.inr ⟨by omega, by omega, rfl⟩), rfl, by omega⟩)
    · refine a_aload_n (z := 84) A dX5_left_19 rfl ?_
      refine a_iconst A dX5_left_20 ?_
      refine m_invVl A (c_X5_leaves G _ 0 (up2 M 84 0 0) (by omega) hL hP hW) (by decide) mi_X5_leaves mv_X5_leaves cs_X5_189 cf5 dX5_left_21 rfl (by decide) rfl rfl (Nat.le_of_ble_eq_true rfl) (fun z21 M21 h21 => ?_)
      obtain ⟨e21, rfl⟩ := h21
      have e21 := e21.symm
      subst e21
      refine a_goto (tgt := 58) A dX5_left_24 (by decide) ?_
      refine a_lstore_n (lv' := [.ref 84, vi v, vi b, vl (sumZ (levF M 0) (M 86 0).toNat), jk]) A dX5_left_58 (by decide) rfl ?_
      refine a_aload_n (z := 84) A dX5_left_59 rfl ?_
      refine a_lload_n (z := (sumZ (levF M 0) (M 86 0).toNat)) A dX5_left_60 rfl ?_
      refine a_ldc2 A lk_X5_184 dX5_left_61 ?_
      refine m_invVv A (c_X5_put G _ (sumZ (levF M 0) (M 86 0).toNat) 6350400 (up2 M 84 0 0) (by omega) (by omega)) (by decide) mi_X5_put mv_X5_put cs_X5_100 cf5 dX5_left_64 rfl (by decide) rfl rfl (Nat.le_of_ble_eq_true rfl) (fun M64 h64 => ?_)
      have h64 := h64.symm
      subst h64
      refine a_iload_n (z := b) A dX5_left_67 rfl ?_
      refine a_if_eq (tgt := 78) A dX5_left_68 (by decide) (by omega) (fun h68 => ?_) (fun h68 => ?_)
      · refine a_aload_n (z := 84) A dX5_left_78 rfl ?_
        refine gf_X5_104 (x := (nU (sumZ (levF M 0) (M 86 0).toNat) 6350400)) A dX5_left_79 rfl (by decide) rfl ?_
        exact m_lreturn A T0 dX5_left_82 (by first | exact Or.inl ⟨by omega, rfl, rfl⟩ | exact Or.inr ⟨by omega, _, Or.inl ⟨by omega, rfl⟩, rfl, by omega⟩ | exact Or.inr ⟨by omega, _, Or.inr (Or.inl ⟨by omega, by omega, rfl⟩), rfl, by omega⟩ | exact Or.inr ⟨by omega, _, Or.inr (Or.inr ⟨by omega, by omega, rfl⟩), rfl, by omega⟩)
      · refine a_aload_n (z := 84) A dX5_left_71 rfl ?_
        refine gf_X5_108 (x := (nD (sumZ (levF M 0) (M 86 0).toNat) 6350400)) A dX5_left_72 rfl (by decide) rfl ?_
        refine a_goto (tgt := 82) A dX5_left_75 (by decide) ?_
        exact m_lreturn A T0 dX5_left_82 (by first | exact Or.inl ⟨by omega, rfl, rfl⟩ | exact Or.inr ⟨by omega, _, Or.inl ⟨by omega, rfl⟩, rfl, by omega⟩ | exact Or.inr ⟨by omega, _, Or.inr (Or.inl ⟨by omega, by omega, rfl⟩), rfl, by omega⟩ | exact Or.inr ⟨by omega, _, Or.inr (Or.inr ⟨by omega, by omega, rfl⟩), rfl, by omega⟩)
  · refine a_lconst0 A dX5_left_13 ?_
    exact m_lreturn A T0 dX5_left_14 (by first | exact Or.inl ⟨by omega, rfl, rfl⟩ | exact Or.inr ⟨by omega, _, Or.inl ⟨by omega, rfl⟩, rfl, by omega⟩ | exact Or.inr ⟨by omega, _, Or.inr (Or.inl ⟨by omega, by omega, rfl⟩), rfl, by omega⟩ | exact Or.inr ⟨by omega, _, Or.inr (Or.inr ⟨by omega, by omega, rfl⟩), rfl, by omega⟩)
/-- m places from n * a on into those from n * b on, in cell c -/
def mvK (M : MM) (c n a b m : Nat) : MM := fun c' => if c' = c then (fun j => if n * b ≤ j ∧ j < n * b + m then M c' (n * a + (j - n * b)) else M c' j) else M c'
theorem mvK_0 (M : MM) (c n a b : Nat) : mvK M c n a b 0 = M := by
  funext c' j
  unfold mvK
  split
  · simp only []
    rw [if_neg (by omega)]
  · rfl
theorem mvK_ne (M : MM) {c c' n a b m : Nat} (h : c' ≠ c) : mvK M c n a b m c' = M c' := by simp [mvK, h]
theorem mvK_src (M : MM) {c n a b m k : Nat} (hab : n * a + n ≤ n * b ∨ n * b + n ≤ n * a) (hk : k < n) (hm : m ≤ n) : mvK M c n a b m c (n * a + k) = M c (n * a + k) := by
  unfold mvK
  rw [if_pos rfl]
  exact if_neg (by omega)
theorem mvK_succ (M : MM) {c n a b m : Nat} : up2 (mvK M c n a b m) c (n * b + m) (M c (n * a + m)) = mvK M c n a b (m + 1) := by
  funext c' j
  by_cases hc : c' = c
  · subst hc
    simp only [up2, mvK, if_true]
    by_cases hj : j = n * b + m
    · subst hj
      rw [if_pos rfl, if_pos (by omega)]
      congr 1
      omega
    · rw [if_neg hj]
      by_cases h : n * b ≤ j ∧ j < n * b + m
      · rw [if_pos h, if_pos (by omega)]
      · rw [if_neg h, if_neg (by omega)]
  · simp [up2, mvK, hc]
set_option maxRecDepth 100000 in
set_option maxHeartbeats 4000000 in
theorem move_loop5 {G : GG} {E : EE} {P : MM → Prop} (A : AmM G E cX5_move 5 yX5_move.cls 1) (T0 : RT E G yX5_move 108 0 0 none (fun r rf' M' => rf' = rF ∧ r = none ∧ P M')) (M : MM) (c N a b len : Nat) (hl_c : ly c = (6, len)) (ha_c : c < 108) (hlen : len ≤ 100) (hab : N * a + N ≤ N * b ∨ N * b + N ≤ N * a) (ha : N * a + N ≤ len) (hb : N * b + N ≤ len) (hp : P (mvK M c N a b N)) : ∀ (n : Nat) (m : Nat), N - m < n → m ≤ N → AM G E 5 3 [.ref c, vi (N : Int), vi (a : Int), vi (b : Int), vi (m : Int)] [] (mvK M c N a b m) := by
  intro n
  induction n with
  | zero => intro m hn hm; exfalso; omega
  | succ n ih =>
    intro m hn hm
    have ea : (N : Int) * (a : Int) = ((N * a : Nat) : Int) := by push_cast; rfl
    have eb : (N : Int) * (b : Int) = ((N * b : Nat) : Int) := by push_cast; rfl
    refine a_iload (z := (m : Int)) A dX5_move_3 rfl ?_
    refine a_iload_n (z := (N : Int)) A dX5_move_5 rfl ?_
    refine a_icmp_ge (tgt := 31) A dX5_move_6 (by decide) (by omega) (by omega) (fun h6 => ?_) (fun h6 => ?_)
    · exact m_return A T0 dX5_move_31 (by rw [show N = m by omega] at hp ⊢; exact hp)
    · refine a_aload_n (z := c) A dX5_move_9 rfl ?_
      refine a_iload_n (z := (N : Int)) A dX5_move_10 rfl ?_
      refine a_iload_n (z := (b : Int)) A dX5_move_11 rfl ?_
      refine a_imul (x := (N : Int)) (y := (b : Int)) A dX5_move_12 ?_
      refine a_iload (z := (m : Int)) A dX5_move_13 rfl ?_
      refine a_iadd (x := ((N : Int) * (b : Int))) (y := (m : Int)) A dX5_move_15 ?_
      refine a_aload_n (z := c) A dX5_move_16 rfl ?_
      refine a_iload_n (z := (N : Int)) A dX5_move_17 rfl ?_
      refine a_iload_n (z := (a : Int)) A dX5_move_18 rfl ?_
      refine a_imul (x := (N : Int)) (y := (a : Int)) A dX5_move_19 ?_
      refine a_iload (z := (m : Int)) A dX5_move_20 rfl ?_
      refine a_iadd (x := ((N : Int) * (a : Int))) (y := (m : Int)) A dX5_move_22 ?_
      refine a_iaload (i := (((N : Int) * (a : Int)) + (m : Int))) (x := (mvK M c N a b m) c (N * a + m)) A dX5_move_23 hl_c ha_c hlen (by omega) rfl ?_
      refine a_iastore (i := (((N : Int) * (b : Int)) + (m : Int))) (j := (N * b + m)) A dX5_move_24 hl_c ha_c hlen (by omega) rfl ?_
      refine a_iinc (z := (m : Int)) (lv' := [.ref c, vi (N : Int), vi (a : Int), vi (b : Int), vi ((m : Int) + 1)]) A dX5_move_25 rfl (by decide) rfl ?_
      refine a_goto (tgt := 3) A dX5_move_28 (by decide) ?_
      rw [mvK_src M hab (by omega) hm, mvK_succ]
      exact ih (m + 1) (by omega) (by omega)
set_option maxRecDepth 100000 in
set_option maxHeartbeats 4000000 in
theorem c_X5_move (G : GG) (l : Launch) (c N a b len : Nat) (M : MM) (hl_c : ly c = (6, len)) (ha_c : c < 108) (hlen : len ≤ 100) (hab : N * a + N ≤ N * b ∨ N * b + N ≤ N * a) (ha : N * a + N ≤ len) (hb : N * b + N ≤ len) : CMv G l yX5_move cX5_move 5 none 1 [.ref c, vi (N : Int), vi (a : Int), vi (b : Int)] M (fun M' => M' = mvK M c N a b N) := by
  refine CT.intro (by decide) (Nat.le_of_ble_eq_true rfl) (fun E hE A T0 => ?_)
  subst hE
  refine a_iconst A dX5_move_0 ?_
  refine a_istore (lv' := [.ref c, vi (N : Int), vi (a : Int), vi (b : Int), vi 0]) A dX5_move_1 (by decide) rfl ?_
  have := move_loop5 A T0 M c N a b len hl_c ha_c hlen hab ha hb rfl (N + 1) 0 (by omega) (by omega)
  rw [mvK_0] at this
  exact this
