/-- what a question for MOST leaves as it was: all that is told, and the row at hand -/
def FO (M0 M : MM) : Prop := (∀ c, c ≠ 84 → (c < 99 ∨ 104 < c) → M c = M0 c) ∧ ∀ j, j ≠ 0 → j ≠ 15 → j ≠ 16 → j ≠ 23 → j ≠ 24 → M 84 j = M0 84 j
theorem FO.rf0 (M : MM) : FO M (up2 M 84 0 0) := ⟨fun c h _ => up2_ne _ _ _ _ h, fun j h _ _ _ _ => by rw [up2_in, if_neg h]⟩
theorem FO.ss {M0 M : MM} (h : FO M0 M) (w : Int) (i : Nat) : FO M0 (ssK M w i) := ⟨fun c h1 h2 => by unfold ssK; rw [if_neg (by omega), if_neg (by omega), if_neg (by omega)]; exact h.1 c h1 h2, fun j a b c d e => h.2 j a b c d e⟩
theorem FO.fm {M0 M M1 : MM} (h : FO M0 M) (h1 : FM M M1) : FO M0 M1 := ⟨fun c a b => by rw [h1.1 c a (by omega) (by omega) (by omega)]; exact h.1 c a b, fun j a b c d e => by rw [h1.2 j b c d e]; exact h.2 j a b c d e⟩
theorem FO.r101 {M0 M : MM} (h : FO M0 M) (k : Nat) (x : Int) : FO M0 (up2 M 101 k x) := ⟨fun c a b => by rw [up2_ne _ _ _ _ (by omega)]; exact h.1 c a b, fun j a b c d e => by rw [up2_ne _ _ _ _ (by decide)]; exact h.2 j a b c d e⟩
theorem FO.put {M0 M : MM} (h : FO M0 M) (x y : Int) : FO M0 (up2 (up2 M 84 15 x) 84 16 y) := ⟨fun c a b => by rw [up2_ne _ _ _ _ a, up2_ne _ _ _ _ a]; exact h.1 c a b, fun j a b c d e => by rw [up2_in, if_neg c, up2_in, if_neg b]; exact h.2 j a b c d e⟩
theorem FO.wm {M0 M : MM} (h : FO M0 M) (hw : WM M0) : WM M := by
  unfold WM LW at hw ⊢
  rw [h.1 85 (by decide) (by decide), h.1 86 (by decide) (by decide), h.1 87 (by decide) (by decide), h.1 88 (by decide) (by decide), h.1 89 (by decide) (by decide), h.1 90 (by decide) (by decide), h.1 91 (by decide) (by decide), h.1 92 (by decide) (by decide), h.1 93 (by decide) (by decide), h.1 94 (by decide) (by decide)]
  exact hw
theorem ssK_shk {M : MM} (hw : WM M) {w : Int} (hw0 : 0 ≤ w ∧ w ≤ 2) : SHK (ssK M w (M 86 0).toNat) := by
  intro k hk
  have hL := hw.2.1
  have hk2 : (k : Int) < M 86 0 := hk
  have hl := hw.2.2 k hk2
  unfold LW at hl
  have hlt : k < (M 86 0).toNat := by omega
  have e99 : ssK M w (M 86 0).toNat 99 k = sup M w k := by show (if k < (M 86 0).toNat then sup M w k else M 99 k) = _; rw [if_pos hlt]
  have e100 : ssK M w (M 86 0).toNat 100 k = M 91 k := by show (if k < (M 86 0).toNat then M 91 k else M 100 k) = _; rw [if_pos hlt]
  have e101 : ssK M w (M 86 0).toNat 101 k = M 89 k := by show (if k < (M 86 0).toNat then M 89 k else M 101 k) = _; rw [if_pos hlt]
  rw [e99, e100, e101]
  have hs : 0 ≤ sup M w k ∧ sup M w k ≤ 17 := by unfold sup; repeat' split <;> omega
  omega
theorem FM.shk {M0 M : MM} (h : FM M0 M) (hs : SHK M0) : SHK M := by
  unfold SHK at hs ⊢
  rw [h.1 86 (by decide) (by decide) (by decide) (by decide), h.1 99 (by decide) (by decide) (by decide) (by decide), h.1 100 (by decide) (by decide) (by decide) (by decide), h.1 101 (by decide) (by decide) (by decide) (by decide)]
  exact hs
theorem SHK.room {M : MM} (h : SHK M) (k : Nat) {x : Int} (hx : 0 ≤ x ∧ x ≤ 100) : SHK (up2 M 101 k x) := by
  intro j hj
  have := h j hj
  refine ⟨this.1, this.2.1, this.2.2.1, this.2.2.2.1, ?_⟩
  rw [up2_in]
  split
  · exact hx
  · exact this.2.2.2.2
set_option maxRecDepth 100000 in
set_option maxHeartbeats 4000000 in
theorem c_X5_most (G : GG) (l : Launch) (w b : Int) (M : MM) (hw0 : I32 w) (hb : I32 b) (hw : WM M) : CMl G l yX5_most cX5_most 3 (some .long) 5 [.ref 84, vi w, vi b] M (fun z M' => FO M M' ∧ ((w < 0 ∨ 2 < w) → z = -1)) := by
  refine CT.intro (by decide) (Nat.le_of_ble_eq_true rfl) (fun E hE A T0 => ?_)
  subst hE
  refine a_aload_n (z := 84) A dX5_most_0 rfl ?_
  refine a_iconst A dX5_most_1 ?_
  refine pf_X5_81 A dX5_most_2 rfl (by decide) ?_
  refine a_iload_n (z := w) A dX5_most_5 rfl ?_
  refine a_iconst A dX5_most_6 ?_
  refine a_iconst A dX5_most_7 ?_
  refine m_invSi A (c_X5_in G _ w 0 2 (up2 M 84 0 0) (by omega) (by omega) (by omega)) (by decide) mi_X5_in ms_X5_in cs_X5_89 dX5_most_8 rfl rfl (Nat.le_of_ble_eq_true rfl) (fun z8 M8 h8 => ?_)
  obtain ⟨e8, hc8⟩ := h8
  have e8 := e8.symm
  subst e8
  refine a_if_ne (tgt := 18) A dX5_most_11 (by decide) (by omega) (fun h11 => ?_) (fun h11 => ?_)
  · refine a_aload_n (z := 84) A dX5_most_18 rfl ?_
    refine a_iload_n (z := w) A dX5_most_19 rfl ?_
    refine m_invVv A (c_X5_setShares G _ w (up2 M 84 0 0) (by omega) hw) (by decide) mi_X5_setShares mv_X5_setShares cs_X5_137 cf5 dX5_most_20 rfl (by decide) rfl rfl (Nat.le_of_ble_eq_true rfl) (fun M20 h20 => ?_)
    have h20 := h20.symm
    subst h20
    refine a_aload_n (z := 84) A dX5_most_23 rfl ?_
    refine m_invVv A (c_X5_findMost G _ (ssK (up2 M 84 0 0) w (M 86 0).toNat) (((FO.rf0 M).ss w _).wm hw) (ssK_shk (M := up2 M 84 0 0) hw (by omega))) (by decide) mi_X5_findMost mv_X5_findMost cs_X5_141 cf5 dX5_most_24 rfl (by decide) rfl rfl (Nat.le_of_ble_eq_true rfl) (fun M24 h24 => ?_)
    refine a_iload_n (z := b) A dX5_most_27 rfl ?_
    refine a_if_eq (tgt := 38) A dX5_most_28 (by decide) (by omega) (fun h28 => ?_) (fun h28 => ?_)
    · refine a_aload_n (z := 84) A dX5_most_38 rfl ?_
      refine gf_X5_122 (x := M24 84 23) A dX5_most_39 rfl (by decide) rfl ?_
      exact m_lreturn A T0 dX5_most_42 ⟨((FO.rf0 M).ss w _).fm h24.1, fun q => by omega⟩
    · refine a_aload_n (z := 84) A dX5_most_31 rfl ?_
      refine gf_X5_125 (x := M24 84 24) A dX5_most_32 rfl (by decide) rfl ?_
      refine a_goto (tgt := 42) A dX5_most_35 (by decide) ?_
      exact m_lreturn A T0 dX5_most_42 ⟨((FO.rf0 M).ss w _).fm h24.1, fun q => by omega⟩
  · refine a_ldc2 A lk_X5_135 dX5_most_14 ?_
    exact m_lreturn A T0 dX5_most_17 ⟨FO.rf0 M, fun _ => rfl⟩
set_option maxRecDepth 100000 in
set_option maxHeartbeats 4000000 in
theorem c_X5_more (G : GG) (l : Launch) (k r b : Int) (M : MM) (hk : I32 k) (hr : I32 r) (hb : I32 b) (hw : WM M) : CMl G l yX5_more cX5_more 10 (some .long) 5 [.ref 84, vi k, vi r, vi b] M (fun z M' => FO M M' ∧ (¬ (0 ≤ k ∧ k < M 86 0 ∧ 0 ≤ r ∧ r ≤ 100) → z = 0)) := by
  refine CT.intro (by decide) (Nat.le_of_ble_eq_true rfl) (fun E hE A T0 => ?_)
  subst hE
  refine a_aload_n (z := 84) A dX5_more_0 rfl ?_
  refine a_iconst A dX5_more_1 ?_
  refine pf_X5_81 A dX5_more_2 rfl (by decide) ?_
  refine a_aload_n (z := 84) A dX5_more_5 rfl ?_
  refine a_iload_n (z := k) A dX5_more_6 rfl ?_
  refine m_invVi A (c_X5_isLane G _ k (up2 M 84 0 0) (by omega) hw.2.1) (by decide) mi_X5_isLane mv_X5_isLane cs_X5_97 cf5 dX5_more_7 rfl (by decide) rfl rfl (Nat.le_of_ble_eq_true rfl) (fun z7 M7 h7 => ?_)
  obtain ⟨e7, hc7⟩ := h7
  have e7 := e7.symm
  subst e7
  have hc7 : (z7 = 1 ∧ 0 ≤ k ∧ k < M 86 0) ∨ (z7 = 0 ∧ (k < 0 ∨ M 86 0 ≤ k)) := hc7
  refine a_if_eq (tgt := 23) A dX5_more_10 (by decide) (by omega) (fun h10 => ?_) (fun h10 => ?_)
  · refine a_lconst0 A dX5_more_23 ?_
    exact m_lreturn A T0 dX5_more_24 ⟨FO.rf0 M, fun _ => rfl⟩
  · refine a_iload_n (z := r) A dX5_more_13 rfl ?_
    refine a_iconst A dX5_more_14 ?_
    refine a_bipush A dX5_more_15 (by decide) ?_
    refine m_invSi A (c_X5_in G _ r 0 100 (up2 M 84 0 0) (by omega) (by omega) (by omega)) (by decide) mi_X5_in ms_X5_in cs_X5_89 dX5_more_17 rfl rfl (Nat.le_of_ble_eq_true rfl) (fun z17 M17 h17 => ?_)
    obtain ⟨e17, hc17⟩ := h17
    have e17 := e17.symm
    subst e17
    refine a_if_ne (tgt := 25) A dX5_more_20 (by decide) (by omega) (fun h20 => ?_) (fun h20 => ?_)
    · refine a_aload_n (z := 84) A dX5_more_25 rfl ?_
      refine a_iconst A dX5_more_26 ?_
      refine m_invVv A (c_X5_setShares G _ 0 (up2 M 84 0 0) (by omega) hw) (by decide) mi_X5_setShares mv_X5_setShares cs_X5_137 cf5 dX5_more_27 rfl (by decide) rfl rfl (Nat.le_of_ble_eq_true rfl) (fun M27 h27 => ?_)
      have h27 := h27.symm
      subst h27
      refine a_aload_n (z := 84) A dX5_more_30 rfl ?_
      refine m_invVv A (c_X5_findMost G _ (ssK (up2 M 84 0 0) 0 (M 86 0).toNat) (((FO.rf0 M).ss 0 _).wm hw) (ssK_shk (M := up2 M 84 0 0) hw (by omega))) (by decide) mi_X5_findMost mv_X5_findMost cs_X5_141 cf5 dX5_more_31 rfl (by decide) rfl rfl (Nat.le_of_ble_eq_true rfl) (fun M31 h31 => ?_)
      have hL := hw.2.1
      have hf1 := ((FO.rf0 M).ss 0 (M 86 0).toNat).fm h31.1
      have hs1 := h31.1.shk (ssK_shk (M := up2 M 84 0 0) hw (w := 0) (by omega))
      have mb1 := h31.2
      unfold MB at mb1
      refine a_aload_n (z := 84) A dX5_more_34 rfl ?_
      refine gf_X5_122 (x := M31 84 23) A dX5_more_35 rfl (by decide) rfl ?_
      refine a_lstore (lv' := [.ref 84, vi k, vi r, vi b, vl (M31 84 23), jk, jk, jk, jk, jk]) A dX5_more_38 (by decide) rfl ?_
      refine a_aload_n (z := 84) A dX5_more_40 rfl ?_
      refine gf_X5_125 (x := M31 84 24) A dX5_more_41 rfl (by decide) rfl ?_
      refine a_lstore (lv' := [.ref 84, vi k, vi r, vi b, vl (M31 84 23), jk, vl (M31 84 24), jk, jk, jk]) A dX5_more_44 (by decide) rfl ?_
      refine a_aload_n (z := 84) A dX5_more_46 rfl ?_
      refine gf_X5_59 (r := 101) A dX5_more_47 rfl (by decide) rfl ?_
      refine a_iload_n (z := k) A dX5_more_50 rfl ?_
      refine a_iload_n (z := r) A dX5_more_51 rfl ?_
      refine a_iastore (i := k) (j := k.toNat) A dX5_more_52 rfl (by decide) (by decide) (by omega) rfl ?_
      have hf2 := hf1.r101 k.toNat r
      have hw2 := hf2.wm hw
      have hs2 : SHK (up2 M31 101 k.toNat r) := hs1.room k.toNat (by omega)
      refine a_aload_n (z := 84) A dX5_more_53 rfl ?_
      refine m_invVv A (c_X5_findMost G _ (up2 M31 101 k.toNat r) hw2 hs2) (by decide) mi_X5_findMost mv_X5_findMost cs_X5_141 cf5 dX5_more_54 rfl (by decide) rfl rfl (Nat.le_of_ble_eq_true rfl) (fun M54 h54 => ?_)
      have hf3 := hf2.fm h54.1
      have mb2 := h54.2
      unfold MB at mb2
      have hg := gcd_pos (a := M31 84 24) (b := M54 84 24) mb2.2.1.1
      have t1 := tdiv_bd (a := M31 84 24) (b := (Int.gcd (M31 84 24) (M54 84 24) : Int)) (by omega) (by omega)
      have t2 := tdiv_bd (a := M54 84 24) (b := (Int.gcd (M31 84 24) (M54 84 24) : Int)) (by omega) (by omega)
      have t3 : 1 ≤ (M54 84 24).tdiv (Int.gcd (M31 84 24) (M54 84 24) : Int) := (nD_bd (a := M31 84 24) (b := M54 84 24) mb2.2.1.1).1
      have p1 := mul_bd (a := M54 84 23) (b := (M31 84 24).tdiv (Int.gcd (M31 84 24) (M54 84 24) : Int)) (A := 210472920000) (B := 12380760) (by omega) (by omega)
      have p2 := mul_bd (a := M31 84 23) (b := (M54 84 24).tdiv (Int.gcd (M31 84 24) (M54 84 24) : Int)) (A := 210472920000) (B := 12380760) (by omega) (by omega)
      have p3 := mul_bd (a := (M54 84 24).tdiv (Int.gcd (M31 84 24) (M54 84 24) : Int)) (b := M31 84 24) (A := 12380760) (B := 12380760) (by omega) (by omega)
      have p4 := Int.mul_pos (a := (M54 84 24).tdiv (Int.gcd (M31 84 24) (M54 84 24) : Int)) (b := M31 84 24) (by omega) (by omega)
      refine a_lload (z := (M31 84 24)) A dX5_more_57 rfl ?_
      refine a_aload_n (z := 84) A dX5_more_59 rfl ?_
      refine gf_X5_125 (x := M54 84 24) A dX5_more_60 rfl (by decide) rfl ?_
      refine m_invSl A (c_X5_gcd G _ (M31 84 24) (M54 84 24) M54 (by omega) (by omega)) (by decide) mi_X5_gcd ms_X5_gcd cs_X5_111 dX5_more_63 rfl rfl (Nat.le_of_ble_eq_true rfl) (fun z63 M63 h63 => ?_)
      obtain ⟨e63, rfl⟩ := h63
      have e63 := e63.symm
      subst e63
      refine a_lstore (lv' := [.ref 84, vi k, vi r, vi b, vl (M31 84 23), jk, vl (M31 84 24), jk, vl (Int.gcd (M31 84 24) (M54 84 24) : Int), jk]) A dX5_more_66 (by decide) rfl ?_
      refine a_aload_n (z := 84) A dX5_more_68 rfl ?_
      refine a_aload_n (z := 84) A dX5_more_69 rfl ?_
      refine gf_X5_122 (x := M54 84 23) A dX5_more_70 rfl (by decide) rfl ?_
      refine a_lload (z := (M31 84 24)) A dX5_more_73 rfl ?_
      refine a_lload (z := (Int.gcd (M31 84 24) (M54 84 24) : Int)) A dX5_more_75 rfl ?_
      refine a_ldiv A dX5_more_77 (by omega) (by omega) (by omega) ?_
      refine a_lmul (x := (M54 84 23)) (y := ((M31 84 24).tdiv (Int.gcd (M31 84 24) (M54 84 24) : Int))) A dX5_more_78 ?_
      refine a_lload (z := (M31 84 23)) A dX5_more_79 rfl ?_
      refine a_aload_n (z := 84) A dX5_more_81 rfl ?_
      refine gf_X5_125 (x := M54 84 24) A dX5_more_82 rfl (by decide) rfl ?_
      refine a_lload (z := (Int.gcd (M31 84 24) (M54 84 24) : Int)) A dX5_more_85 rfl ?_
      refine a_ldiv A dX5_more_87 (by omega) (by omega) (by omega) ?_
      refine a_lmul (x := (M31 84 23)) (y := ((M54 84 24).tdiv (Int.gcd (M31 84 24) (M54 84 24) : Int))) A dX5_more_88 ?_
      refine a_lsub (x := ((M54 84 23) * ((M31 84 24).tdiv (Int.gcd (M31 84 24) (M54 84 24) : Int)))) (y := ((M31 84 23) * ((M54 84 24).tdiv (Int.gcd (M31 84 24) (M54 84 24) : Int)))) A dX5_more_89 ?_
      refine a_aload_n (z := 84) A dX5_more_90 rfl ?_
      refine gf_X5_125 (x := M54 84 24) A dX5_more_91 rfl (by decide) rfl ?_
      refine a_lload (z := (Int.gcd (M31 84 24) (M54 84 24) : Int)) A dX5_more_94 rfl ?_
      refine a_ldiv A dX5_more_96 (by omega) (by omega) (by omega) ?_
      refine a_lload (z := (M31 84 24)) A dX5_more_97 rfl ?_
      refine a_lmul (x := ((M54 84 24).tdiv (Int.gcd (M31 84 24) (M54 84 24) : Int))) (y := (M31 84 24)) A dX5_more_99 ?_
      refine m_invVv A (c_X5_put G _ (((M54 84 23) * ((M31 84 24).tdiv (Int.gcd (M31 84 24) (M54 84 24) : Int))) - ((M31 84 23) * ((M54 84 24).tdiv (Int.gcd (M31 84 24) (M54 84 24) : Int)))) (((M54 84 24).tdiv (Int.gcd (M31 84 24) (M54 84 24) : Int)) * (M31 84 24)) M54 ⟨by omega, by omega⟩ ⟨by omega, by omega⟩) (by decide) mi_X5_put mv_X5_put cs_X5_100 cf5 dX5_more_100 rfl (by decide) rfl rfl (Nat.le_of_ble_eq_true rfl) (fun M100 h100 => ?_)
      have h100 := h100.symm
      subst h100
      refine a_iload_n (z := b) A dX5_more_103 rfl ?_
      refine a_if_eq (tgt := 114) A dX5_more_104 (by decide) (by omega) (fun h104 => ?_) (fun h104 => ?_)
      · refine a_aload_n (z := 84) A dX5_more_114 rfl ?_
        refine gf_X5_104 (x := (nU (((M54 84 23) * ((M31 84 24).tdiv (Int.gcd (M31 84 24) (M54 84 24) : Int))) - ((M31 84 23) * ((M54 84 24).tdiv (Int.gcd (M31 84 24) (M54 84 24) : Int)))) (((M54 84 24).tdiv (Int.gcd (M31 84 24) (M54 84 24) : Int)) * (M31 84 24)))) A dX5_more_115 rfl (by decide) rfl ?_
        exact m_lreturn A T0 dX5_more_118 ⟨hf3.put _ _, fun q => by omega⟩
      · refine a_aload_n (z := 84) A dX5_more_107 rfl ?_
        refine gf_X5_108 (x := (nD (((M54 84 23) * ((M31 84 24).tdiv (Int.gcd (M31 84 24) (M54 84 24) : Int))) - ((M31 84 23) * ((M54 84 24).tdiv (Int.gcd (M31 84 24) (M54 84 24) : Int)))) (((M54 84 24).tdiv (Int.gcd (M31 84 24) (M54 84 24) : Int)) * (M31 84 24)))) A dX5_more_108 rfl (by decide) rfl ?_
        refine a_goto (tgt := 118) A dX5_more_111 (by decide) ?_
        exact m_lreturn A T0 dX5_more_118 ⟨hf3.put _ _, fun q => by omega⟩
    · refine a_lconst0 A dX5_more_23 ?_
      exact m_lreturn A T0 dX5_more_24 ⟨FO.rf0 M, fun _ => rfl⟩
