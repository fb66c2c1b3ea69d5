set_option maxRecDepth 100000 in
set_option maxHeartbeats 4000000 in
theorem c_X5_in (G : GG) (l : Launch) (v lo hi : Int) (M : MM) (hv : I32 v) (hlo : I32 lo) (hhi : I32 hi) : CMi G l yX5_in cX5_in 3 (some .boolean) 1 [vi v, vi lo, vi hi] M (fun z M' => M' = M ∧ ((z = 1 ∧ lo ≤ v ∧ v ≤ hi) ∨ (z = 0 ∧ (v < lo ∨ hi < v)))) := by
  refine CT.intro (by decide) (Nat.le_of_ble_eq_true rfl) (fun E hE A T0 => ?_)
  subst hE
  refine a_iload_n (z := v) A dX5_in_0 rfl ?_
  refine a_iload_n (z := lo) A dX5_in_1 rfl ?_
  refine a_icmp_lt (tgt := 14) A dX5_in_2 (by decide) (by assumption) (by assumption) (fun h2 => ?_) (fun h2 => ?_)
  · refine a_iconst A dX5_in_14 ?_
    exact m_zreturn A T0 dX5_in_15 (by first | exact Or.inl rfl | exact Or.inr rfl | omega) (by exact ⟨rfl, by omega⟩)
  · refine a_iload_n (z := v) A dX5_in_5 rfl ?_
    refine a_iload_n (z := hi) A dX5_in_6 rfl ?_
    refine a_icmp_gt (tgt := 14) A dX5_in_7 (by decide) (by assumption) (by assumption) (fun h7 => ?_) (fun h7 => ?_)
    · refine a_iconst A dX5_in_14 ?_
      exact m_zreturn A T0 dX5_in_15 (by first | exact Or.inl rfl | exact Or.inr rfl | omega) (by exact ⟨rfl, by omega⟩)
    · refine a_iconst A dX5_in_10 ?_
      refine a_goto (tgt := 15) A dX5_in_11 (by decide) ?_
      exact m_zreturn A T0 dX5_in_15 (by first | exact Or.inl rfl | exact Or.inr rfl | omega) (by exact ⟨rfl, by omega⟩)
set_option maxRecDepth 100000 in
set_option maxHeartbeats 4000000 in
theorem c_X5_isLane (G : GG) (l : Launch) (k : Int) (M : MM) (hk : I32 k) (hL : 0 ≤ M 86 0 ∧ M 86 0 ≤ 10) : CMi G l yX5_isLane cX5_isLane 2 (some .boolean) 2 [.ref 84, vi k] M (fun z M' => M' = M ∧ ((z = 1 ∧ 0 ≤ k ∧ k < M 86 0) ∨ (z = 0 ∧ (k < 0 ∨ M 86 0 ≤ k)))) := by
  refine CT.intro (by decide) (Nat.le_of_ble_eq_true rfl) (fun E hE A T0 => ?_)
  subst hE
  refine a_iload_n (z := k) A dX5_isLane_0 rfl ?_
  refine a_iconst A dX5_isLane_1 ?_
  refine a_aload_n (z := 84) A dX5_isLane_2 rfl ?_
  refine gf_X5_13 (r := 86) A dX5_isLane_3 rfl (by decide) rfl ?_
  refine a_iconst A dX5_isLane_6 ?_
  refine a_iaload (i := 0) (x := M 86 0) A dX5_isLane_7 rfl (by decide) (by decide) (by omega) rfl ?_
  refine a_iconst A dX5_isLane_8 ?_
  refine a_isub (x := (M 86 0)) (y := 1) A dX5_isLane_9 ?_
  refine m_invSi A (c_X5_in G _ k 0 ((M 86 0) - 1) M (by omega) (by omega) (by omega)) (by decide) mi_X5_in ms_X5_in cs_X5_89 dX5_isLane_10 rfl rfl (Nat.le_of_ble_eq_true rfl) (fun z10 M10 h10 => ?_)
  obtain ⟨e10, hc10⟩ := h10
  have e10 := e10.symm
  subst e10
  exact m_zreturn A T0 dX5_isLane_13 (by first | exact Or.inl rfl | exact Or.inr rfl | omega) (by exact ⟨rfl, by omega⟩)
set_option maxRecDepth 100000 in
set_option maxHeartbeats 4000000 in
theorem c_X5_isPost (G : GG) (l : Launch) (k : Int) (M : MM) (hk : I32 k) (hP : 2 ≤ M 85 0 ∧ M 85 0 ≤ 5) : CMi G l yX5_isPost cX5_isPost 2 (some .boolean) 2 [.ref 84, vi k] M (fun z M' => M' = M ∧ ((z = 1 ∧ 0 ≤ k ∧ k < M 85 0) ∨ (z = 0 ∧ (k < 0 ∨ M 85 0 ≤ k)))) := by
  refine CT.intro (by decide) (Nat.le_of_ble_eq_true rfl) (fun E hE A T0 => ?_)
  subst hE
  refine a_iload_n (z := k) A dX5_isPost_0 rfl ?_
  refine a_iconst A dX5_isPost_1 ?_
  refine a_aload_n (z := 84) A dX5_isPost_2 rfl ?_
  refine gf_X5_7 (r := 85) A dX5_isPost_3 rfl (by decide) rfl ?_
  refine a_iconst A dX5_isPost_6 ?_
  refine a_iaload (i := 0) (x := M 85 0) A dX5_isPost_7 rfl (by decide) (by decide) (by omega) rfl ?_
  refine a_iconst A dX5_isPost_8 ?_
  refine a_isub (x := (M 85 0)) (y := 1) A dX5_isPost_9 ?_
  refine m_invSi A (c_X5_in G _ k 0 ((M 85 0) - 1) M (by omega) (by omega) (by omega)) (by decide) mi_X5_in ms_X5_in cs_X5_89 dX5_isPost_10 rfl rfl (Nat.le_of_ble_eq_true rfl) (fun z10 M10 h10 => ?_)
  obtain ⟨e10, hc10⟩ := h10
  have e10 := e10.symm
  subst e10
  exact m_zreturn A T0 dX5_isPost_13 (by first | exact Or.inl rfl | exact Or.inr rfl | omega) (by exact ⟨rfl, by omega⟩)
set_option maxRecDepth 100000 in
set_option maxHeartbeats 4000000 in
theorem c_X5_posts (G : GG) (l : Launch) (n : Int) (M : MM) (hn : I32 n) : CMi G l yX5_posts cX5_posts 2 (some .boolean) 2 [.ref 84, vi n] M (fun z M' => (z = 1 ∧ 2 ≤ n ∧ n ≤ 5 ∧ M' = up2 (up2 (up2 (up2 M 84 0 0) 85 0 n) 86 0 0) 95 0 0) ∨ (z = 0 ∧ (n < 2 ∨ 5 < n) ∧ M' = up2 M 84 0 0)) := by
  refine CT.intro (by decide) (Nat.le_of_ble_eq_true rfl) (fun E hE A T0 => ?_)
  subst hE
  refine a_aload_n (z := 84) A dX5_posts_0 rfl ?_
  refine a_iconst A dX5_posts_1 ?_
  refine pf_X5_81 A dX5_posts_2 rfl (by decide) ?_
  refine a_iload_n (z := n) A dX5_posts_5 rfl ?_
  refine a_iconst A dX5_posts_6 ?_
  refine a_iconst A dX5_posts_7 ?_
  refine m_invSi A (c_X5_in G _ n 2 5 (up2 M 84 0 0) (by omega) (by omega) (by omega)) (by decide) mi_X5_in ms_X5_in cs_X5_89 dX5_posts_8 rfl rfl (Nat.le_of_ble_eq_true rfl) (fun z8 M8 h8 => ?_)
  obtain ⟨e8, hc8⟩ := h8
  have e8 := e8.symm
  subst e8
  refine a_if_ne (tgt := 16) A dX5_posts_11 (by decide) (by omega) (fun h11 => ?_) (fun h11 => ?_)
  · refine a_aload_n (z := 84) A dX5_posts_16 rfl ?_
    refine gf_X5_7 (r := 85) A dX5_posts_17 rfl (by decide) rfl ?_
    refine a_iconst A dX5_posts_20 ?_
    refine a_iload_n (z := n) A dX5_posts_21 rfl ?_
    refine a_iastore (i := 0) (j := 0) A dX5_posts_22 rfl (by decide) (by decide) (by omega) rfl ?_
    refine a_aload_n (z := 84) A dX5_posts_23 rfl ?_
    refine gf_X5_13 (r := 86) A dX5_posts_24 rfl (by decide) rfl ?_
    refine a_iconst A dX5_posts_27 ?_
    refine a_iconst A dX5_posts_28 ?_
    refine a_iastore (i := 0) (j := 0) A dX5_posts_29 rfl (by decide) (by decide) (by omega) rfl ?_
    refine a_aload_n (z := 84) A dX5_posts_30 rfl ?_
    refine gf_X5_40 (r := 95) A dX5_posts_31 rfl (by decide) rfl ?_
    refine a_iconst A dX5_posts_34 ?_
    refine a_iconst A dX5_posts_35 ?_
    refine a_iastore (i := 0) (j := 0) A dX5_posts_36 rfl (by decide) (by decide) (by omega) rfl ?_
    refine a_iconst A dX5_posts_37 ?_
    exact m_zreturn A T0 dX5_posts_38 (by first | exact Or.inl rfl | exact Or.inr rfl | omega) (by first | exact Or.inl ⟨rfl, by omega, by omega, rfl⟩ | exact Or.inr ⟨rfl, by omega, rfl⟩)
  · refine a_iconst A dX5_posts_14 ?_
    exact m_zreturn A T0 dX5_posts_15 (by first | exact Or.inl rfl | exact Or.inr rfl | omega) (by first | exact Or.inl ⟨rfl, by omega, by omega, rfl⟩ | exact Or.inr ⟨rfl, by omega, rfl⟩)
set_option maxRecDepth 100000 in
set_option maxHeartbeats 4000000 in
theorem c_X5_lane (G : GG) (l : Launch) (fr t r p q : Int) (M : MM) (h1 : I32 fr) (h2 : I32 t) (h3 : I32 r) (h4 : I32 p) (h5 : I32 q) (hL : 0 ≤ M 86 0 ∧ M 86 0 ≤ 10) (hP : 2 ≤ M 85 0 ∧ M 85 0 ≤ 5) : CMi G l yX5_lane cX5_lane 7 (some .int) 3 [.ref 84, vi fr, vi t, vi r, vi p, vi q] M (fun z M' => (z = M 86 0 ∧ (M 86 0 < 10 ∧ 0 ≤ fr ∧ fr < M 85 0 - 1 ∧ 0 < t ∧ t < M 85 0 ∧ fr ≠ t ∧ 0 ≤ r ∧ r ≤ 100 ∧ 1 ≤ p ∧ p ≤ 9 ∧ 1 ≤ q ∧ q ≤ 9) ∧ M' = up2 (up2 (up2 (up2 (up2 (up2 (up2 (up2 (up2 (up2 M 84 0 0) 86 0 (M 86 0 + 1)) 87 (M 86 0).toNat fr) 88 (M 86 0).toNat t) 89 (M 86 0).toNat r) 90 (M 86 0).toNat p) 91 (M 86 0).toNat q) 92 (M 86 0).toNat 0) 93 (M 86 0).toNat 0) 94 (M 86 0).toNat 1) ∨ (z = -1 ∧ ¬ (M 86 0 < 10 ∧ 0 ≤ fr ∧ fr < M 85 0 - 1 ∧ 0 < t ∧ t < M 85 0 ∧ fr ≠ t ∧ 0 ≤ r ∧ r ≤ 100 ∧ 1 ≤ p ∧ p ≤ 9 ∧ 1 ≤ q ∧ q ≤ 9) ∧ M' = up2 M 84 0 0)) := by
  refine CT.intro (by decide) (Nat.le_of_ble_eq_true rfl) (fun E hE A T0 => ?_)
  subst hE
  refine a_aload_n (z := 84) A dX5_lane_0 rfl ?_
  refine a_iconst A dX5_lane_1 ?_
  refine pf_X5_81 A dX5_lane_2 rfl (by decide) ?_
  refine a_aload_n (z := 84) A dX5_lane_5 rfl ?_
  refine gf_X5_13 (r := 86) A dX5_lane_6 rfl (by decide) rfl ?_
  refine a_iconst A dX5_lane_9 ?_
  refine a_iaload (i := 0) (x := M 86 0) A dX5_lane_10 rfl (by decide) (by decide) (by omega) rfl ?_
  refine a_bipush A dX5_lane_11 (by decide) ?_
  refine a_icmp_eq (tgt := 85) A dX5_lane_13 (by decide) (by omega) (by omega) (fun h13 => ?_) (fun h13 => ?_)
  · refine a_iconst A dX5_lane_85 ?_
    exact m_ireturn A T0 dX5_lane_86 (by first | exact Or.inr ⟨rfl, by omega, rfl⟩ | exact Or.inl ⟨rfl, by omega, rfl⟩)
  · refine a_aload_n (z := 84) A dX5_lane_16 rfl ?_
    refine a_iload_n (z := fr) A dX5_lane_17 rfl ?_
    refine m_invVi A (c_X5_isPost G _ fr (up2 M 84 0 0) (by omega) hP) (by decide) mi_X5_isPost mv_X5_isPost cs_X5_93 cf5 dX5_lane_18 rfl (by decide) rfl rfl (Nat.le_of_ble_eq_true rfl) (fun z18 M18 h18 => ?_)
    obtain ⟨e18, hc18⟩ := h18
    have e18 := e18.symm
    subst e18
    have hc18 : (z18 = 1 ∧ 0 ≤ fr ∧ fr < M 85 0) ∨ (z18 = 0 ∧ (fr < 0 ∨ M 85 0 ≤ fr)) := hc18
    refine a_if_eq (tgt := 85) A dX5_lane_21 (by decide) (by omega) (fun h21 => ?_) (fun h21 => ?_)
    · refine a_iconst A dX5_lane_85 ?_
      exact m_ireturn A T0 dX5_lane_86 (by first | exact Or.inr ⟨rfl, by omega, rfl⟩ | exact Or.inl ⟨rfl, by omega, rfl⟩)
    · refine a_aload_n (z := 84) A dX5_lane_24 rfl ?_
      refine a_iload_n (z := t) A dX5_lane_25 rfl ?_
      refine m_invVi A (c_X5_isPost G _ t (up2 M 84 0 0) (by omega) hP) (by decide) mi_X5_isPost mv_X5_isPost cs_X5_93 cf5 dX5_lane_26 rfl (by decide) rfl rfl (Nat.le_of_ble_eq_true rfl) (fun z26 M26 h26 => ?_)
      obtain ⟨e26, hc26⟩ := h26
      have e26 := e26.symm
      subst e26
      have hc26 : (z26 = 1 ∧ 0 ≤ t ∧ t < M 85 0) ∨ (z26 = 0 ∧ (t < 0 ∨ M 85 0 ≤ t)) := hc26
      refine a_if_eq (tgt := 85) A dX5_lane_29 (by decide) (by omega) (fun h29 => ?_) (fun h29 => ?_)
      · refine a_iconst A dX5_lane_85 ?_
        exact m_ireturn A T0 dX5_lane_86 (by first | exact Or.inr ⟨rfl, by omega, rfl⟩ | exact Or.inl ⟨rfl, by omega, rfl⟩)
      · refine a_iload_n (z := fr) A dX5_lane_32 rfl ?_
        refine a_iload_n (z := t) A dX5_lane_33 rfl ?_
        refine a_icmp_eq (tgt := 85) A dX5_lane_34 (by decide) (by omega) (by omega) (fun h34 => ?_) (fun h34 => ?_)
        · refine a_iconst A dX5_lane_85 ?_
          exact m_ireturn A T0 dX5_lane_86 (by first | exact Or.inr ⟨rfl, by omega, rfl⟩ | exact Or.inl ⟨rfl, by omega, rfl⟩)
        · refine a_iload_n (z := t) A dX5_lane_37 rfl ?_
          refine a_if_eq (tgt := 85) A dX5_lane_38 (by decide) (by omega) (fun h38 => ?_) (fun h38 => ?_)
          · refine a_iconst A dX5_lane_85 ?_
            exact m_ireturn A T0 dX5_lane_86 (by first | exact Or.inr ⟨rfl, by omega, rfl⟩ | exact Or.inl ⟨rfl, by omega, rfl⟩)
          · refine a_iload_n (z := fr) A dX5_lane_41 rfl ?_
            refine a_aload_n (z := 84) A dX5_lane_42 rfl ?_
            refine gf_X5_7 (r := 85) A dX5_lane_43 rfl (by decide) rfl ?_
            refine a_iconst A dX5_lane_46 ?_
            refine a_iaload (i := 0) (x := M 85 0) A dX5_lane_47 rfl (by decide) (by decide) (by omega) rfl ?_
            refine a_iconst A dX5_lane_48 ?_
            refine a_isub (x := (M 85 0)) (y := 1) A dX5_lane_49 ?_
            refine a_icmp_eq (tgt := 85) A dX5_lane_50 (by decide) (by omega) (by omega) (fun h50 => ?_) (fun h50 => ?_)
            · refine a_iconst A dX5_lane_85 ?_
              exact m_ireturn A T0 dX5_lane_86 (by first | exact Or.inr ⟨rfl, by omega, rfl⟩ | exact Or.inl ⟨rfl, by omega, rfl⟩)
            · refine a_iload_n (z := r) A dX5_lane_53 rfl ?_
              refine a_iconst A dX5_lane_54 ?_
              refine a_bipush A dX5_lane_55 (by decide) ?_
              refine m_invSi A (c_X5_in G _ r 0 100 (up2 M 84 0 0) (by omega) (by omega) (by omega)) (by decide) mi_X5_in ms_X5_in cs_X5_89 dX5_lane_57 rfl rfl (Nat.le_of_ble_eq_true rfl) (fun z57 M57 h57 => ?_)
              obtain ⟨e57, hc57⟩ := h57
              have e57 := e57.symm
              subst e57
              refine a_if_eq (tgt := 85) A dX5_lane_60 (by decide) (by omega) (fun h60 => ?_) (fun h60 => ?_)
              · refine a_iconst A dX5_lane_85 ?_
                exact m_ireturn A T0 dX5_lane_86 (by first | exact Or.inr ⟨rfl, by omega, rfl⟩ | exact Or.inl ⟨rfl, by omega, rfl⟩)
              · refine a_iload (z := p) A dX5_lane_63 rfl ?_
                refine a_iconst A dX5_lane_65 ?_
                refine a_bipush A dX5_lane_66 (by decide) ?_
                refine m_invSi A (c_X5_in G _ p 1 9 (up2 M 84 0 0) (by omega) (by omega) (by omega)) (by decide) mi_X5_in ms_X5_in cs_X5_89 dX5_lane_68 rfl rfl (Nat.le_of_ble_eq_true rfl) (fun z68 M68 h68 => ?_)
                obtain ⟨e68, hc68⟩ := h68
                have e68 := e68.symm
                subst e68
                refine a_if_eq (tgt := 85) A dX5_lane_71 (by decide) (by omega) (fun h71 => ?_) (fun h71 => ?_)
                · refine a_iconst A dX5_lane_85 ?_
                  exact m_ireturn A T0 dX5_lane_86 (by first | exact Or.inr ⟨rfl, by omega, rfl⟩ | exact Or.inl ⟨rfl, by omega, rfl⟩)
                · refine a_iload (z := q) A dX5_lane_74 rfl ?_
                  refine a_iconst A dX5_lane_76 ?_
                  refine a_bipush A dX5_lane_77 (by decide) ?_
                  refine m_invSi A (c_X5_in G _ q 1 9 (up2 M 84 0 0) (by omega) (by omega) (by omega)) (by decide) mi_X5_in ms_X5_in cs_X5_89 dX5_lane_79 rfl rfl (Nat.le_of_ble_eq_true rfl) (fun z79 M79 h79 => ?_)
                  obtain ⟨e79, hc79⟩ := h79
                  have e79 := e79.symm
                  subst e79
                  refine a_if_ne (tgt := 87) A dX5_lane_82 (by decide) (by omega) (fun h82 => ?_) (fun h82 => ?_)
                  · refine a_aload_n (z := 84) A dX5_lane_87 rfl ?_
                    refine gf_X5_13 (r := 86) A dX5_lane_88 rfl (by decide) rfl ?_
                    refine a_iconst A dX5_lane_91 ?_
                    refine a_iaload (i := 0) (x := M 86 0) A dX5_lane_92 rfl (by decide) (by decide) (by omega) rfl ?_
                    refine a_istore (lv' := [.ref 84, vi fr, vi t, vi r, vi p, vi q, vi (M 86 0)]) A dX5_lane_93 (by decide) rfl ?_
                    refine a_aload_n (z := 84) A dX5_lane_95 rfl ?_
                    refine gf_X5_13 (r := 86) A dX5_lane_96 rfl (by decide) rfl ?_
                    refine a_iconst A dX5_lane_99 ?_
                    refine a_dup2 A dX5_lane_100 rfl rfl ?_
                    refine a_iaload (i := 0) (x := M 86 0) A dX5_lane_101 rfl (by decide) (by decide) (by omega) rfl ?_
                    refine a_iconst A dX5_lane_102 ?_
                    refine a_iadd (x := (M 86 0)) (y := 1) A dX5_lane_103 ?_
                    refine a_iastore (i := 0) (j := 0) A dX5_lane_104 rfl (by decide) (by decide) (by omega) rfl ?_
                    refine a_aload_n (z := 84) A dX5_lane_105 rfl ?_
                    refine gf_X5_16 (r := 87) A dX5_lane_106 rfl (by decide) rfl ?_
                    refine a_iload (z := (M 86 0)) A dX5_lane_109 rfl ?_
                    refine a_iload_n (z := fr) A dX5_lane_111 rfl ?_
                    refine a_iastore (i := (M 86 0)) (j := (M 86 0).toNat) A dX5_lane_112 rfl (by decide) (by decide) (by omega) rfl ?_
                    refine a_aload_n (z := 84) A dX5_lane_113 rfl ?_
                    refine gf_X5_19 (r := 88) A dX5_lane_114 rfl (by decide) rfl ?_
                    refine a_iload (z := (M 86 0)) A dX5_lane_117 rfl ?_
                    refine a_iload_n (z := t) A dX5_lane_119 rfl ?_
                    refine a_iastore (i := (M 86 0)) (j := (M 86 0).toNat) A dX5_lane_120 rfl (by decide) (by decide) (by omega) rfl ?_
                    refine a_aload_n (z := 84) A dX5_lane_121 rfl ?_
                    refine gf_X5_22 (r := 89) A dX5_lane_122 rfl (by decide) rfl ?_
                    refine a_iload (z := (M 86 0)) A dX5_lane_125 rfl ?_
                    refine a_iload_n (z := r) A dX5_lane_127 rfl ?_
                    refine a_iastore (i := (M 86 0)) (j := (M 86 0).toNat) A dX5_lane_128 rfl (by decide) (by decide) (by omega) rfl ?_
                    refine a_aload_n (z := 84) A dX5_lane_129 rfl ?_
                    refine gf_X5_25 (r := 90) A dX5_lane_130 rfl (by decide) rfl ?_
                    refine a_iload (z := (M 86 0)) A dX5_lane_133 rfl ?_
                    refine a_iload (z := p) A dX5_lane_135 rfl ?_
                    refine a_iastore (i := (M 86 0)) (j := (M 86 0).toNat) A dX5_lane_137 rfl (by decide) (by decide) (by omega) rfl ?_
                    refine a_aload_n (z := 84) A dX5_lane_138 rfl ?_
                    refine gf_X5_28 (r := 91) A dX5_lane_139 rfl (by decide) rfl ?_
                    refine a_iload (z := (M 86 0)) A dX5_lane_142 rfl ?_
                    refine a_iload (z := q) A dX5_lane_144 rfl ?_
                    refine a_iastore (i := (M 86 0)) (j := (M 86 0).toNat) A dX5_lane_146 rfl (by decide) (by decide) (by omega) rfl ?_
                    refine a_aload_n (z := 84) A dX5_lane_147 rfl ?_
                    refine gf_X5_31 (r := 92) A dX5_lane_148 rfl (by decide) rfl ?_
                    refine a_iload (z := (M 86 0)) A dX5_lane_151 rfl ?_
                    refine a_iconst A dX5_lane_153 ?_
                    refine a_iastore (i := (M 86 0)) (j := (M 86 0).toNat) A dX5_lane_154 rfl (by decide) (by decide) (by omega) rfl ?_
                    refine a_aload_n (z := 84) A dX5_lane_155 rfl ?_
                    refine gf_X5_34 (r := 93) A dX5_lane_156 rfl (by decide) rfl ?_
                    refine a_iload (z := (M 86 0)) A dX5_lane_159 rfl ?_
                    refine a_iconst A dX5_lane_161 ?_
                    refine a_iastore (i := (M 86 0)) (j := (M 86 0).toNat) A dX5_lane_162 rfl (by decide) (by decide) (by omega) rfl ?_
                    refine a_aload_n (z := 84) A dX5_lane_163 rfl ?_
                    refine gf_X5_37 (r := 94) A dX5_lane_164 rfl (by decide) rfl ?_
                    refine a_iload (z := (M 86 0)) A dX5_lane_167 rfl ?_
                    refine a_iconst A dX5_lane_169 ?_
                    refine a_iastore (i := (M 86 0)) (j := (M 86 0).toNat) A dX5_lane_170 rfl (by decide) (by decide) (by omega) rfl ?_
                    refine a_iload (z := (M 86 0)) A dX5_lane_171 rfl ?_
                    exact m_ireturn A T0 dX5_lane_173 (by first | exact Or.inr ⟨rfl, by omega, rfl⟩ | exact Or.inl ⟨rfl, by omega, rfl⟩)
                  · refine a_iconst A dX5_lane_85 ?_
                    exact m_ireturn A T0 dX5_lane_86 (by first | exact Or.inr ⟨rfl, by omega, rfl⟩ | exact Or.inl ⟨rfl, by omega, rfl⟩)
set_option maxRecDepth 100000 in
set_option maxHeartbeats 4000000 in
theorem c_X5_room (G : GG) (l : Launch) (k r : Int) (M : MM) (hk : I32 k) (hr : I32 r) (hL : 0 ≤ M 86 0 ∧ M 86 0 ≤ 10) : CMi G l yX5_room cX5_room 3 (some .boolean) 3 [.ref 84, vi k, vi r] M (fun z M' => (z = 1 ∧ 0 ≤ k ∧ k < M 86 0 ∧ 0 ≤ r ∧ r ≤ 100 ∧ M' = up2 (up2 M 84 0 0) 89 k.toNat r) ∨ (z = 0 ∧ ¬ (0 ≤ k ∧ k < M 86 0 ∧ 0 ≤ r ∧ r ≤ 100) ∧ M' = up2 M 84 0 0)) := by
  refine CT.intro (by decide) (Nat.le_of_ble_eq_true rfl) (fun E hE A T0 => ?_)
  subst hE
  refine a_aload_n (z := 84) A dX5_room_0 rfl ?_
  refine a_iconst A dX5_room_1 ?_
  refine pf_X5_81 A dX5_room_2 rfl (by decide) ?_
  refine a_aload_n (z := 84) A dX5_room_5 rfl ?_
  refine a_iload_n (z := k) A dX5_room_6 rfl ?_
  refine m_invVi A (c_X5_isLane G _ k (up2 M 84 0 0) (by omega) hL) (by decide) mi_X5_isLane mv_X5_isLane cs_X5_97 cf5 dX5_room_7 rfl (by decide) rfl rfl (Nat.le_of_ble_eq_true rfl) (fun z7 M7 h7 => ?_)
  obtain ⟨e7, hc7⟩ := h7
  have e7 := e7.symm
  subst e7
  have hc7 : (z7 = 1 ∧ 0 ≤ k ∧ k < M 86 0) ∨ (z7 = 0 ∧ (k < 0 ∨ M 86 0 ≤ k)) := hc7
  refine a_if_eq (tgt := 23) A dX5_room_10 (by decide) (by omega) (fun h10 => ?_) (fun h10 => ?_)
  · refine a_iconst A dX5_room_23 ?_
    exact m_zreturn A T0 dX5_room_24 (by first | exact Or.inl rfl | exact Or.inr rfl | omega) (by first | exact Or.inr ⟨rfl, by omega, rfl⟩ | exact Or.inl ⟨rfl, by omega, by omega, by omega, by omega, rfl⟩)
  · refine a_iload_n (z := r) A dX5_room_13 rfl ?_
    refine a_iconst A dX5_room_14 ?_
    refine a_bipush A dX5_room_15 (by decide) ?_
    refine m_invSi A (c_X5_in G _ r 0 100 (up2 M 84 0 0) (by omega) (by omega) (by omega)) (by decide) mi_X5_in ms_X5_in cs_X5_89 dX5_room_17 rfl rfl (Nat.le_of_ble_eq_true rfl) (fun z17 M17 h17 => ?_)
    obtain ⟨e17, hc17⟩ := h17
    have e17 := e17.symm
    subst e17
    refine a_if_ne (tgt := 25) A dX5_room_20 (by decide) (by omega) (fun h20 => ?_) (fun h20 => ?_)
    · refine a_aload_n (z := 84) A dX5_room_25 rfl ?_
      refine gf_X5_22 (r := 89) A dX5_room_26 rfl (by decide) rfl ?_
      refine a_iload_n (z := k) A dX5_room_29 rfl ?_
      refine a_iload_n (z := r) A dX5_room_30 rfl ?_
      refine a_iastore (i := k) (j := k.toNat) A dX5_room_31 rfl (by decide) (by decide) (by omega) rfl ?_
      refine a_iconst A dX5_room_32 ?_
      exact m_zreturn A T0 dX5_room_33 (by first | exact Or.inl rfl | exact Or.inr rfl | omega) (by first | exact Or.inr ⟨rfl, by omega, rfl⟩ | exact Or.inl ⟨rfl, by omega, by omega, by omega, by omega, rfl⟩)
    · refine a_iconst A dX5_room_23 ?_
      exact m_zreturn A T0 dX5_room_24 (by first | exact Or.inl rfl | exact Or.inr rfl | omega) (by first | exact Or.inr ⟨rfl, by omega, rfl⟩ | exact Or.inl ⟨rfl, by omega, by omega, by omega, by omega, rfl⟩)
set_option maxRecDepth 100000 in
set_option maxHeartbeats 4000000 in
theorem c_X5_share (G : GG) (l : Launch) (k p q b : Int) (M : MM) (hk : I32 k) (hp : I32 p) (hq : I32 q) (hb : I32 b) (hL : 0 ≤ M 86 0 ∧ M 86 0 ≤ 10) : CMi G l yX5_share cX5_share 5 (some .boolean) 3 [.ref 84, vi k, vi p, vi q, vi b] M (fun z M' => (z = 1 ∧ (0 ≤ k ∧ k < M 86 0 ∧ 1 ≤ p ∧ p ≤ 9 ∧ 1 ≤ q ∧ q ≤ 9 ∧ 0 ≤ b ∧ b ≤ 8) ∧ M' = up2 (up2 (up2 (up2 M 84 0 0) 90 k.toNat p) 91 k.toNat q) 92 k.toNat b) ∨ (z = 0 ∧ ¬ (0 ≤ k ∧ k < M 86 0 ∧ 1 ≤ p ∧ p ≤ 9 ∧ 1 ≤ q ∧ q ≤ 9 ∧ 0 ≤ b ∧ b ≤ 8) ∧ M' = up2 M 84 0 0)) := by
  refine CT.intro (by decide) (Nat.le_of_ble_eq_true rfl) (fun E hE A T0 => ?_)
  subst hE
  refine a_aload_n (z := 84) A dX5_share_0 rfl ?_
  refine a_iconst A dX5_share_1 ?_
  refine pf_X5_81 A dX5_share_2 rfl (by decide) ?_
  refine a_aload_n (z := 84) A dX5_share_5 rfl ?_
  refine a_iload_n (z := k) A dX5_share_6 rfl ?_
  refine m_invVi A (c_X5_isLane G _ k (up2 M 84 0 0) (by omega) hL) (by decide) mi_X5_isLane mv_X5_isLane cs_X5_97 cf5 dX5_share_7 rfl (by decide) rfl rfl (Nat.le_of_ble_eq_true rfl) (fun z7 M7 h7 => ?_)
  obtain ⟨e7, hc7⟩ := h7
  have e7 := e7.symm
  subst e7
  have hc7 : (z7 = 1 ∧ 0 ≤ k ∧ k < M 86 0) ∨ (z7 = 0 ∧ (k < 0 ∨ M 86 0 ≤ k)) := hc7
  refine a_if_eq (tgt := 44) A dX5_share_10 (by decide) (by omega) (fun h10 => ?_) (fun h10 => ?_)
  · refine a_iconst A dX5_share_44 ?_
    exact m_zreturn A T0 dX5_share_45 (by first | exact Or.inl rfl | exact Or.inr rfl | omega) (by first | exact Or.inr ⟨rfl, by omega, rfl⟩ | exact Or.inl ⟨rfl, by omega, rfl⟩)
  · refine a_iload_n (z := p) A dX5_share_13 rfl ?_
    refine a_iconst A dX5_share_14 ?_
    refine a_bipush A dX5_share_15 (by decide) ?_
    refine m_invSi A (c_X5_in G _ p 1 9 (up2 M 84 0 0) (by omega) (by omega) (by omega)) (by decide) mi_X5_in ms_X5_in cs_X5_89 dX5_share_17 rfl rfl (Nat.le_of_ble_eq_true rfl) (fun z17 M17 h17 => ?_)
    obtain ⟨e17, hc17⟩ := h17
    have e17 := e17.symm
    subst e17
    refine a_if_eq (tgt := 44) A dX5_share_20 (by decide) (by omega) (fun h20 => ?_) (fun h20 => ?_)
    · refine a_iconst A dX5_share_44 ?_
      exact m_zreturn A T0 dX5_share_45 (by first | exact Or.inl rfl | exact Or.inr rfl | omega) (by first | exact Or.inr ⟨rfl, by omega, rfl⟩ | exact Or.inl ⟨rfl, by omega, rfl⟩)
    · refine a_iload_n (z := q) A dX5_share_23 rfl ?_
      refine a_iconst A dX5_share_24 ?_
      refine a_bipush A dX5_share_25 (by decide) ?_
      refine m_invSi A (c_X5_in G _ q 1 9 (up2 M 84 0 0) (by omega) (by omega) (by omega)) (by decide) mi_X5_in ms_X5_in cs_X5_89 dX5_share_27 rfl rfl (Nat.le_of_ble_eq_true rfl) (fun z27 M27 h27 => ?_)
      obtain ⟨e27, hc27⟩ := h27
      have e27 := e27.symm
      subst e27
      refine a_if_eq (tgt := 44) A dX5_share_30 (by decide) (by omega) (fun h30 => ?_) (fun h30 => ?_)
      · refine a_iconst A dX5_share_44 ?_
        exact m_zreturn A T0 dX5_share_45 (by first | exact Or.inl rfl | exact Or.inr rfl | omega) (by first | exact Or.inr ⟨rfl, by omega, rfl⟩ | exact Or.inl ⟨rfl, by omega, rfl⟩)
      · refine a_iload (z := b) A dX5_share_33 rfl ?_
        refine a_iconst A dX5_share_35 ?_
        refine a_bipush A dX5_share_36 (by decide) ?_
        refine m_invSi A (c_X5_in G _ b 0 8 (up2 M 84 0 0) (by omega) (by omega) (by omega)) (by decide) mi_X5_in ms_X5_in cs_X5_89 dX5_share_38 rfl rfl (Nat.le_of_ble_eq_true rfl) (fun z38 M38 h38 => ?_)
        obtain ⟨e38, hc38⟩ := h38
        have e38 := e38.symm
        subst e38
        refine a_if_ne (tgt := 46) A dX5_share_41 (by decide) (by omega) (fun h41 => ?_) (fun h41 => ?_)
        · refine a_aload_n (z := 84) A dX5_share_46 rfl ?_
          refine gf_X5_25 (r := 90) A dX5_share_47 rfl (by decide) rfl ?_
          refine a_iload_n (z := k) A dX5_share_50 rfl ?_
          refine a_iload_n (z := p) A dX5_share_51 rfl ?_
          refine a_iastore (i := k) (j := k.toNat) A dX5_share_52 rfl (by decide) (by decide) (by omega) rfl ?_
          refine a_aload_n (z := 84) A dX5_share_53 rfl ?_
          refine gf_X5_28 (r := 91) A dX5_share_54 rfl (by decide) rfl ?_
          refine a_iload_n (z := k) A dX5_share_57 rfl ?_
          refine a_iload_n (z := q) A dX5_share_58 rfl ?_
          refine a_iastore (i := k) (j := k.toNat) A dX5_share_59 rfl (by decide) (by decide) (by omega) rfl ?_
          refine a_aload_n (z := 84) A dX5_share_60 rfl ?_
          refine gf_X5_31 (r := 92) A dX5_share_61 rfl (by decide) rfl ?_
          refine a_iload_n (z := k) A dX5_share_64 rfl ?_
          refine a_iload (z := b) A dX5_share_65 rfl ?_
          refine a_iastore (i := k) (j := k.toNat) A dX5_share_67 rfl (by decide) (by decide) (by omega) rfl ?_
          refine a_iconst A dX5_share_68 ?_
          exact m_zreturn A T0 dX5_share_69 (by first | exact Or.inl rfl | exact Or.inr rfl | omega) (by first | exact Or.inr ⟨rfl, by omega, rfl⟩ | exact Or.inl ⟨rfl, by omega, rfl⟩)
        · refine a_iconst A dX5_share_44 ?_
          exact m_zreturn A T0 dX5_share_45 (by first | exact Or.inl rfl | exact Or.inr rfl | omega) (by first | exact Or.inr ⟨rfl, by omega, rfl⟩ | exact Or.inl ⟨rfl, by omega, rfl⟩)
set_option maxRecDepth 100000 in
set_option maxHeartbeats 4000000 in
theorem c_X5_send (G : GG) (l : Launch) (k u v : Int) (M : MM) (hk : I32 k) (hu : I32 u) (hv : I32 v) (hL : 0 ≤ M 86 0 ∧ M 86 0 ≤ 10) : CMi G l yX5_send cX5_send 4 (some .boolean) 3 [.ref 84, vi k, vi u, vi v] M (fun z M' => (z = 1 ∧ (0 ≤ k ∧ k < M 86 0 ∧ 0 ≤ u ∧ u ≤ 1000 ∧ 1 ≤ v ∧ v ≤ 9) ∧ M' = up2 (up2 (up2 M 84 0 0) 93 k.toNat u) 94 k.toNat v) ∨ (z = 0 ∧ ¬ (0 ≤ k ∧ k < M 86 0 ∧ 0 ≤ u ∧ u ≤ 1000 ∧ 1 ≤ v ∧ v ≤ 9) ∧ M' = up2 M 84 0 0)) := by
  refine CT.intro (by decide) (Nat.le_of_ble_eq_true rfl) (fun E hE A T0 => ?_)
  subst hE
  refine a_aload_n (z := 84) A dX5_send_0 rfl ?_
  refine a_iconst A dX5_send_1 ?_
  refine pf_X5_81 A dX5_send_2 rfl (by decide) ?_
  refine a_aload_n (z := 84) A dX5_send_5 rfl ?_
  refine a_iload_n (z := k) A dX5_send_6 rfl ?_
  refine m_invVi A (c_X5_isLane G _ k (up2 M 84 0 0) (by omega) hL) (by decide) mi_X5_isLane mv_X5_isLane cs_X5_97 cf5 dX5_send_7 rfl (by decide) rfl rfl (Nat.le_of_ble_eq_true rfl) (fun z7 M7 h7 => ?_)
  obtain ⟨e7, hc7⟩ := h7
  have e7 := e7.symm
  subst e7
  have hc7 : (z7 = 1 ∧ 0 ≤ k ∧ k < M 86 0) ∨ (z7 = 0 ∧ (k < 0 ∨ M 86 0 ≤ k)) := hc7
  refine a_if_eq (tgt := 34) A dX5_send_10 (by decide) (by omega) (fun h10 => ?_) (fun h10 => ?_)
  · refine a_iconst A dX5_send_34 ?_
    exact m_zreturn A T0 dX5_send_35 (by first | exact Or.inl rfl | exact Or.inr rfl | omega) (by first | exact Or.inr ⟨rfl, by omega, rfl⟩ | exact Or.inl ⟨rfl, by omega, rfl⟩)
  · refine a_iload_n (z := u) A dX5_send_13 rfl ?_
    refine a_iconst A dX5_send_14 ?_
    refine a_sipush A dX5_send_15 (by decide) ?_
    refine m_invSi A (c_X5_in G _ u 0 1000 (up2 M 84 0 0) (by omega) (by omega) (by omega)) (by decide) mi_X5_in ms_X5_in cs_X5_89 dX5_send_18 rfl rfl (Nat.le_of_ble_eq_true rfl) (fun z18 M18 h18 => ?_)
    obtain ⟨e18, hc18⟩ := h18
    have e18 := e18.symm
    subst e18
    refine a_if_eq (tgt := 34) A dX5_send_21 (by decide) (by omega) (fun h21 => ?_) (fun h21 => ?_)
    · refine a_iconst A dX5_send_34 ?_
      exact m_zreturn A T0 dX5_send_35 (by first | exact Or.inl rfl | exact Or.inr rfl | omega) (by first | exact Or.inr ⟨rfl, by omega, rfl⟩ | exact Or.inl ⟨rfl, by omega, rfl⟩)
    · refine a_iload_n (z := v) A dX5_send_24 rfl ?_
      refine a_iconst A dX5_send_25 ?_
      refine a_bipush A dX5_send_26 (by decide) ?_
      refine m_invSi A (c_X5_in G _ v 1 9 (up2 M 84 0 0) (by omega) (by omega) (by omega)) (by decide) mi_X5_in ms_X5_in cs_X5_89 dX5_send_28 rfl rfl (Nat.le_of_ble_eq_true rfl) (fun z28 M28 h28 => ?_)
      obtain ⟨e28, hc28⟩ := h28
      have e28 := e28.symm
      subst e28
      refine a_if_ne (tgt := 36) A dX5_send_31 (by decide) (by omega) (fun h31 => ?_) (fun h31 => ?_)
      · refine a_aload_n (z := 84) A dX5_send_36 rfl ?_
        refine gf_X5_34 (r := 93) A dX5_send_37 rfl (by decide) rfl ?_
        refine a_iload_n (z := k) A dX5_send_40 rfl ?_
        refine a_iload_n (z := u) A dX5_send_41 rfl ?_
        refine a_iastore (i := k) (j := k.toNat) A dX5_send_42 rfl (by decide) (by decide) (by omega) rfl ?_
        refine a_aload_n (z := 84) A dX5_send_43 rfl ?_
        refine gf_X5_37 (r := 94) A dX5_send_44 rfl (by decide) rfl ?_
        refine a_iload_n (z := k) A dX5_send_47 rfl ?_
        refine a_iload_n (z := v) A dX5_send_48 rfl ?_
        refine a_iastore (i := k) (j := k.toNat) A dX5_send_49 rfl (by decide) (by decide) (by omega) rfl ?_
        refine a_iconst A dX5_send_50 ?_
        exact m_zreturn A T0 dX5_send_51 (by first | exact Or.inl rfl | exact Or.inr rfl | omega) (by first | exact Or.inr ⟨rfl, by omega, rfl⟩ | exact Or.inl ⟨rfl, by omega, rfl⟩)
      · refine a_iconst A dX5_send_34 ?_
        exact m_zreturn A T0 dX5_send_35 (by first | exact Or.inl rfl | exact Or.inr rfl | omega) (by first | exact Or.inr ⟨rfl, by omega, rfl⟩ | exact Or.inl ⟨rfl, by omega, rfl⟩)
set_option maxRecDepth 100000 in
set_option maxHeartbeats 4000000 in
theorem c_X5_row (G : GG) (l : Launch) (k : Int) (M : MM) (hk : I32 k) (hh : 0 ≤ M 95 0 ∧ M 95 0 ≤ 5) : CMi G l yX5_row cX5_row 2 (some .int) 3 [.ref 84, vi k] M (fun z M' => M' = up2 M 84 0 0 ∧ ((z = M 96 k.toNat ∧ 0 ≤ k ∧ k < M 95 0) ∨ (z = -1 ∧ (k < 0 ∨ M 95 0 ≤ k)))) := by
  refine CT.intro (by decide) (Nat.le_of_ble_eq_true rfl) (fun E hE A T0 => ?_)
  subst hE
  refine a_aload_n (z := 84) A dX5_row_0 rfl ?_
  refine a_iconst A dX5_row_1 ?_
  refine pf_X5_81 A dX5_row_2 rfl (by decide) ?_
  refine a_iload_n (z := k) A dX5_row_5 rfl ?_
  refine a_iconst A dX5_row_6 ?_
  refine a_aload_n (z := 84) A dX5_row_7 rfl ?_
  refine gf_X5_40 (r := 95) A dX5_row_8 rfl (by decide) rfl ?_
  refine a_iconst A dX5_row_11 ?_
  refine a_iaload (i := 0) (x := M 95 0) A dX5_row_12 rfl (by decide) (by decide) (by omega) rfl ?_
  refine a_iconst A dX5_row_13 ?_
  refine a_isub (x := (M 95 0)) (y := 1) A dX5_row_14 ?_
  refine m_invSi A (c_X5_in G _ k 0 ((M 95 0) - 1) (up2 M 84 0 0) (by omega) (by omega) (by omega)) (by decide) mi_X5_in ms_X5_in cs_X5_89 dX5_row_15 rfl rfl (Nat.le_of_ble_eq_true rfl) (fun z15 M15 h15 => ?_)
  obtain ⟨e15, hc15⟩ := h15
  have e15 := e15.symm
  subst e15
  refine a_if_eq (tgt := 30) A dX5_row_18 (by decide) (by omega) (fun h18 => ?_) (fun h18 => ?_)
  · refine a_iconst A dX5_row_30 ?_
    exact m_ireturn A T0 dX5_row_31 (by exact ⟨rfl, by omega⟩)
  · refine a_aload_n (z := 84) A dX5_row_21 rfl ?_
    refine gf_X5_43 (r := 96) A dX5_row_22 rfl (by decide) rfl ?_
    refine a_iload_n (z := k) A dX5_row_25 rfl ?_
    refine a_iaload (i := k) (x := M 96 k.toNat) A dX5_row_26 rfl (by decide) (by decide) (by omega) rfl ?_
    refine a_goto (tgt := 31) A dX5_row_27 (by decide) ?_
    exact m_ireturn A T0 dX5_row_31 (by exact ⟨rfl, by omega⟩)
set_option maxRecDepth 100000 in
set_option maxHeartbeats 4000000 in
theorem c_X5_gain (G : GG) (l : Launch) (b : Int) (M : MM) (hb : I32 b) (hh : 0 ≤ M 95 0 ∧ M 95 0 ≤ 5) : CMl G l yX5_gain cX5_gain 2 (some .long) 3 [.ref 84, vi b] M (fun z M' => M' = up2 M 84 0 0 ∧ ((z = 0 ∧ M 95 0 = 0) ∨ (M 95 0 ≠ 0 ∧ b ≠ 0 ∧ z = M 98 0) ∨ (M 95 0 ≠ 0 ∧ b = 0 ∧ z = M 97 0))) := by
  refine CT.intro (by decide) (Nat.le_of_ble_eq_true rfl) (fun E hE A T0 => ?_)
  subst hE
  refine a_aload_n (z := 84) A dX5_gain_0 rfl ?_
  refine a_iconst A dX5_gain_1 ?_
  refine pf_X5_81 A dX5_gain_2 rfl (by decide) ?_
  refine a_aload_n (z := 84) A dX5_gain_5 rfl ?_
  refine gf_X5_40 (r := 95) A dX5_gain_6 rfl (by decide) rfl ?_
  refine a_iconst A dX5_gain_9 ?_
  refine a_iaload (i := 0) (x := M 95 0) A dX5_gain_10 rfl (by decide) (by decide) (by omega) rfl ?_
  refine a_if_ne (tgt := 18) A dX5_gain_11 (by decide) (by omega) (fun h11 => ?_) (fun h11 => ?_)
  · refine a_iload_n (z := b) A dX5_gain_18 rfl ?_
    refine a_if_eq (tgt := 31) A dX5_gain_19 (by decide) (by omega) (fun h19 => ?_) (fun h19 => ?_)
    · refine a_aload_n (z := 84) A dX5_gain_31 rfl ?_
      refine gf_X5_46 (r := 97) A dX5_gain_32 rfl (by decide) rfl ?_
      refine a_iconst A dX5_gain_35 ?_
      refine a_laload (i := 0) (x := M 97 0) A dX5_gain_36 rfl (by decide) (by decide) (by omega) rfl ?_
      exact m_lreturn A T0 dX5_gain_37 (by exact ⟨rfl, by omega⟩)
    · refine a_aload_n (z := 84) A dX5_gain_22 rfl ?_
      refine gf_X5_50 (r := 98) A dX5_gain_23 rfl (by decide) rfl ?_
      refine a_iconst A dX5_gain_26 ?_
      refine a_laload (i := 0) (x := M 98 0) A dX5_gain_27 rfl (by decide) (by decide) (by omega) rfl ?_
      refine a_goto (tgt := 37) A dX5_gain_28 (by decide) ?_
      exact m_lreturn A T0 dX5_gain_37 (by exact ⟨rfl, by omega⟩)
  · refine a_lconst0 A dX5_gain_14 ?_
    refine a_goto (tgt := 37) A dX5_gain_15 (by decide) ?_
    exact m_lreturn A T0 dX5_gain_37 (by exact ⟨rfl, by omega⟩)
