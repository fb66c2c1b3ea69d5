/-! more answers alike -/
def pr_moreL (D1 D2 : MM) (k r b : Int) (M : MM) (z : Int) (M' : MM) : Prop := FO M M' ∧ ((¬ (0 ≤ k ∧ k < M 86 0 ∧ 0 ≤ r ∧ r ≤ 100) ∧ z = 0) ∨ ((0 ≤ k ∧ k < M 86 0 ∧ 0 ≤ r ∧ r ≤ 100) ∧ ∃ X1 X2 : MM, FM (ssK (up2 M 84 0 0) 0 (M 86 0).toNat) X1 ∧ MB X1 ∧ zRe D1 (ssK (up2 M 84 0 0) 0 (M 86 0).toNat) ((ssK (up2 M 84 0 0) 0 (M 86 0).toNat) 85 0 - 1).toNat X1 ∧ MB X2 ∧ zRe D2 (up2 X1 101 k.toNat r) (up2 X1 101 k.toNat r 85 0 - 1).toNat X2 ∧ ((b ≠ 0 ∧ z = nD (X2 84 23 * (X1 84 24).tdiv (Int.gcd (X1 84 24) (X2 84 24) : Int) - X1 84 23 * (X2 84 24).tdiv (Int.gcd (X1 84 24) (X2 84 24) : Int)) ((X2 84 24).tdiv (Int.gcd (X1 84 24) (X2 84 24) : Int) * X1 84 24)) ∨ (b = 0 ∧ z = nU (X2 84 23 * (X1 84 24).tdiv (Int.gcd (X1 84 24) (X2 84 24) : Int) - X1 84 23 * (X2 84 24).tdiv (Int.gcd (X1 84 24) (X2 84 24) : Int)) ((X2 84 24).tdiv (Int.gcd (X1 84 24) (X2 84 24) : Int) * X1 84 24)))))
set_option maxRecDepth 100000 in
set_option maxHeartbeats 4000000 in
theorem c_X5_moreL (G : GG) (l : Launch) (k r b : Int) (M D1 D2 : MM) (hk : I32 k) (hr : I32 r) (hb : I32 b) (hw : WM M) (hr1 : zRD D1 (ssK (up2 M 84 0 0) 0 (M 86 0).toNat)) (hr2 : (0 ≤ k ∧ k < M 86 0 ∧ 0 ≤ r ∧ r ≤ 100) → ∀ X, FM (ssK (up2 M 84 0 0) 0 (M 86 0).toNat) X → zRD D2 (up2 X 101 k.toNat r)) : CMl G l yX5_more cX5_more 10 (some .long) 5 [.ref 84, vi k, vi r, vi b] M (fun z M' => pr_moreL D1 D2 k r b M z M') := by
  refine CT.intro (by decide) (Nat.le_of_ble_eq_true rfl) (fun E hE A T0 => ?_)
  subst hE
  refine a_aload_n (z := 84) A dX5_more_0 rfl ?_
  refine a_iconst A dX5_more_1 ?_
  refine pf_X5_81 A dX5_more_2 rfl (by decide) ?_
  refine a_aload_n (z := 84) A dX5_more_5 rfl ?_
  refine a_iload_n (z := k) A dX5_more_6 rfl ?_
  refine m_invVi A (c_X5_isLane G _ k (up2 M 84 0 0) (by omega) hw.2.1) (by decide) mi_X5_isLane mv_X5_isLane cs_X5_97 cf5 dX5_more_7 rfl (by decide) rfl rfl (Nat.le_of_ble_eq_true rfl) (fun z7 M7 h7 => ?_)
  obtain ⟨e7, hc7⟩ := h7
  have e7 := e7.symm
  subst e7
  have hc7 : (z7 = 1 ∧ 0 ≤ k ∧ k < M 86 0) ∨ (z7 = 0 ∧ (k < 0 ∨ M 86 0 ≤ k)) := hc7
  refine a_if_eq (tgt := 23) A dX5_more_10 (by decide) (by omega) (fun h10 => ?_) (fun h10 => ?_)
  · refine a_lconst0 A dX5_more_23 ?_
    exact m_lreturn A T0 dX5_more_24 ⟨FO.rf0 M, Or.inl ⟨by omega, rfl⟩⟩
  · refine a_iload_n (z := r) A dX5_more_13 rfl ?_
    refine a_iconst A dX5_more_14 ?_
    refine a_bipush A dX5_more_15 (by decide) ?_
    refine m_invSi A (c_X5_in G _ r 0 100 (up2 M 84 0 0) (by omega) (by omega) (by omega)) (by decide) mi_X5_in ms_X5_in cs_X5_89 dX5_more_17 rfl rfl (Nat.le_of_ble_eq_true rfl) (fun z17 M17 h17 => ?_)
    obtain ⟨e17, hc17⟩ := h17
    have e17 := e17.symm
    subst e17
    refine a_if_ne (tgt := 25) A dX5_more_20 (by decide) (by omega) (fun h20 => ?_) (fun h20 => ?_)
    · refine a_aload_n (z := 84) A dX5_more_25 rfl ?_
      refine a_iconst A dX5_more_26 ?_
      refine m_invVv A (c_X5_setShares G _ 0 (up2 M 84 0 0) (by omega) hw) (by decide) mi_X5_setShares mv_X5_setShares cs_X5_137 cf5 dX5_more_27 rfl (by decide) rfl rfl (Nat.le_of_ble_eq_true rfl) (fun M27 h27 => ?_)
      have h27 := h27.symm
      subst h27
      refine a_aload_n (z := 84) A dX5_more_30 rfl ?_
      refine m_invVv A (c_X5_findMostL G _ D1 (ssK (up2 M 84 0 0) 0 (M 86 0).toNat) (((FO.rf0 M).ss 0 _).wm hw) (ssK_shk (M := up2 M 84 0 0) hw (by omega)) hr1) (by decide) mi_X5_findMost mv_X5_findMost cs_X5_141 cf5 dX5_more_31 rfl (by decide) rfl rfl (Nat.le_of_ble_eq_true rfl) (fun M31 h31 => ?_)
      have hL := hw.2.1
      have hf1 := ((FO.rf0 M).ss 0 (M 86 0).toNat).fm h31.1
      have hs1 := h31.1.shk (ssK_shk (M := up2 M 84 0 0) hw (w := 0) (by omega))
      have mb1 := h31.2.1
      unfold MB at mb1
      refine a_aload_n (z := 84) A dX5_more_34 rfl ?_
      refine gf_X5_122 (x := M31 84 23) A dX5_more_35 rfl (by decide) rfl ?_
      refine a_lstore (lv' := [.ref 84, vi k, vi r, vi b, vl (M31 84 23), jk, jk, jk, jk, jk]) A dX5_more_38 (by decide) rfl ?_
      refine a_aload_n (z := 84) A dX5_more_40 rfl ?_
      refine gf_X5_125 (x := M31 84 24) A dX5_more_41 rfl (by decide) rfl ?_
      refine a_lstore (lv' := [.ref 84, vi k, vi r, vi b, vl (M31 84 23), jk, vl (M31 84 24), jk, jk, jk]) A dX5_more_44 (by decide) rfl ?_
      refine a_aload_n (z := 84) A dX5_more_46 rfl ?_
      refine gf_X5_59 (r := 101) A dX5_more_47 rfl (by decide) rfl ?_
      refine a_iload_n (z := k) A dX5_more_50 rfl ?_
      refine a_iload_n (z := r) A dX5_more_51 rfl ?_
      refine a_iastore (i := k) (j := k.toNat) A dX5_more_52 rfl (by decide) (by decide) (by omega) rfl ?_
      have hf2 := hf1.r101 k.toNat r
      have hw2 := hf2.wm hw
      have hs2 : SHK (up2 M31 101 k.toNat r) := hs1.room k.toNat (by omega)
      refine a_aload_n (z := 84) A dX5_more_53 rfl ?_
      refine m_invVv A (c_X5_findMostL G _ D2 (up2 M31 101 k.toNat r) hw2 hs2 (hr2 (by omega) M31 h31.1)) (by decide) mi_X5_findMost mv_X5_findMost cs_X5_141 cf5 dX5_more_54 rfl (by decide) rfl rfl (Nat.le_of_ble_eq_true rfl) (fun M54 h54 => ?_)
      have hf3 := hf2.fm h54.1
      have mb2 := h54.2.1
      unfold MB at mb2
      have hg := gcd_pos (a := M31 84 24) (b := M54 84 24) mb2.2.1.1
      have t1 := tdiv_bd (a := M31 84 24) (b := (Int.gcd (M31 84 24) (M54 84 24) : Int)) (by omega) (by omega)
      have t2 := tdiv_bd (a := M54 84 24) (b := (Int.gcd (M31 84 24) (M54 84 24) : Int)) (by omega) (by omega)
      have t3 : 1 ≤ (M54 84 24).tdiv (Int.gcd (M31 84 24) (M54 84 24) : Int) := (nD_bd (a := M31 84 24) (b := M54 84 24) mb2.2.1.1).1
      have p1 := mul_bd (a := M54 84 23) (b := (M31 84 24).tdiv (Int.gcd (M31 84 24) (M54 84 24) : Int)) (A := 210472920000) (B := 12380760) (by omega) (by omega)
      have p2 := mul_bd (a := M31 84 23) (b := (M54 84 24).tdiv (Int.gcd (M31 84 24) (M54 84 24) : Int)) (A := 210472920000) (B := 12380760) (by omega) (by omega)
      have p3 := mul_bd (a := (M54 84 24).tdiv (Int.gcd (M31 84 24) (M54 84 24) : Int)) (b := M31 84 24) (A := 12380760) (B := 12380760) (by omega) (by omega)
      have p4 := Int.mul_pos (a := (M54 84 24).tdiv (Int.gcd (M31 84 24) (M54 84 24) : Int)) (b := M31 84 24) (by omega) (by omega)
      refine a_lload (z := (M31 84 24)) A dX5_more_57 rfl ?_
      refine a_aload_n (z := 84) A dX5_more_59 rfl ?_
      refine gf_X5_125 (x := M54 84 24) A dX5_more_60 rfl (by decide) rfl ?_
      refine m_invSl A (c_X5_gcd G _ (M31 84 24) (M54 84 24) M54 (by omega) (by omega)) (by decide) mi_X5_gcd ms_X5_gcd cs_X5_111 dX5_more_63 rfl rfl (Nat.le_of_ble_eq_true rfl) (fun z63 M63 h63 => ?_)
      obtain ⟨e63, rfl⟩ := h63
      have e63 := e63.symm
      subst e63
      refine a_lstore (lv' := [.ref 84, vi k, vi r, vi b, vl (M31 84 23), jk, vl (M31 84 24), jk, vl (Int.gcd (M31 84 24) (M54 84 24) : Int), jk]) A dX5_more_66 (by decide) rfl ?_
      refine a_aload_n (z := 84) A dX5_more_68 rfl ?_
      refine a_aload_n (z := 84) A dX5_more_69 rfl ?_
      refine gf_X5_122 (x := M54 84 23) A dX5_more_70 rfl (by decide) rfl ?_
      refine a_lload (z := (M31 84 24)) A dX5_more_73 rfl ?_
      refine a_lload (z := (Int.gcd (M31 84 24) (M54 84 24) : Int)) A dX5_more_75 rfl ?_
      refine a_ldiv A dX5_more_77 (by omega) (by omega) (by omega) ?_
      refine a_lmul (x := (M54 84 23)) (y := ((M31 84 24).tdiv (Int.gcd (M31 84 24) (M54 84 24) : Int))) A dX5_more_78 ?_
      refine a_lload (z := (M31 84 23)) A dX5_more_79 rfl ?_
      refine a_aload_n (z := 84) A dX5_more_81 rfl ?_
      refine gf_X5_125 (x := M54 84 24) A dX5_more_82 rfl (by decide) rfl ?_
      refine a_lload (z := (Int.gcd (M31 84 24) (M54 84 24) : Int)) A dX5_more_85 rfl ?_
      refine a_ldiv A dX5_more_87 (by omega) (by omega) (by omega) ?_
      refine a_lmul (x := (M31 84 23)) (y := ((M54 84 24).tdiv (Int.gcd (M31 84 24) (M54 84 24) : Int))) A dX5_more_88 ?_
      refine a_lsub (x := ((M54 84 23) * ((M31 84 24).tdiv (Int.gcd (M31 84 24) (M54 84 24) : Int)))) (y := ((M31 84 23) * ((M54 84 24).tdiv (Int.gcd (M31 84 24) (M54 84 24) : Int)))) A dX5_more_89 ?_
      refine a_aload_n (z := 84) A dX5_more_90 rfl ?_
      refine gf_X5_125 (x := M54 84 24) A dX5_more_91 rfl (by decide) rfl ?_
      refine a_lload (z := (Int.gcd (M31 84 24) (M54 84 24) : Int)) A dX5_more_94 rfl ?_
      refine a_ldiv A dX5_more_96 (by omega) (by omega) (by omega) ?_
      refine a_lload (z := (M31 84 24)) A dX5_more_97 rfl ?_
      refine a_lmul (x := ((M54 84 24).tdiv (Int.gcd (M31 84 24) (M54 84 24) : Int))) (y := (M31 84 24)) A dX5_more_99 ?_
      refine m_invVv A (c_X5_put G _ (((M54 84 23) * ((M31 84 24).tdiv (Int.gcd (M31 84 24) (M54 84 24) : Int))) - ((M31 84 23) * ((M54 84 24).tdiv (Int.gcd (M31 84 24) (M54 84 24) : Int)))) (((M54 84 24).tdiv (Int.gcd (M31 84 24) (M54 84 24) : Int)) * (M31 84 24)) M54 ⟨by omega, by omega⟩ ⟨by omega, by omega⟩) (by decide) mi_X5_put mv_X5_put cs_X5_100 cf5 dX5_more_100 rfl (by decide) rfl rfl (Nat.le_of_ble_eq_true rfl) (fun M100 h100 => ?_)
      have h100 := h100.symm
      subst h100
      refine a_iload_n (z := b) A dX5_more_103 rfl ?_
      refine a_if_eq (tgt := 114) A dX5_more_104 (by decide) (by omega) (fun h104 => ?_) (fun h104 => ?_)
      · refine a_aload_n (z := 84) A dX5_more_114 rfl ?_
        refine gf_X5_104 (x := (nU (((M54 84 23) * ((M31 84 24).tdiv (Int.gcd (M31 84 24) (M54 84 24) : Int))) - ((M31 84 23) * ((M54 84 24).tdiv (Int.gcd (M31 84 24) (M54 84 24) : Int)))) (((M54 84 24).tdiv (Int.gcd (M31 84 24) (M54 84 24) : Int)) * (M31 84 24)))) A dX5_more_115 rfl (by decide) rfl ?_
        exact m_lreturn A T0 dX5_more_118 ⟨hf3.put _ _, Or.inr ⟨by omega, M31, M54, h31.1, h31.2.1, h31.2.2, h54.2.1, h54.2.2, by first | exact Or.inl ⟨by omega, rfl⟩ | exact Or.inr ⟨by omega, rfl⟩⟩⟩
      · refine a_aload_n (z := 84) A dX5_more_107 rfl ?_
        refine gf_X5_108 (x := (nD (((M54 84 23) * ((M31 84 24).tdiv (Int.gcd (M31 84 24) (M54 84 24) : Int))) - ((M31 84 23) * ((M54 84 24).tdiv (Int.gcd (M31 84 24) (M54 84 24) : Int)))) (((M54 84 24).tdiv (Int.gcd (M31 84 24) (M54 84 24) : Int)) * (M31 84 24)))) A dX5_more_108 rfl (by decide) rfl ?_
        refine a_goto (tgt := 118) A dX5_more_111 (by decide) ?_
        exact m_lreturn A T0 dX5_more_118 ⟨hf3.put _ _, Or.inr ⟨by omega, M31, M54, h31.1, h31.2.1, h31.2.2, h54.2.1, h54.2.2, by first | exact Or.inl ⟨by omega, rfl⟩ | exact Or.inr ⟨by omega, rfl⟩⟩⟩
    · refine a_lconst0 A dX5_more_23 ?_
      exact m_lreturn A T0 dX5_more_24 ⟨FO.rf0 M, Or.inl ⟨by omega, rfl⟩⟩
theorem zRe.cells {D D' B X : MM} {la : Nat} (hs : ∀ x, zSn D x = zSn D' x) (h : zRe D B la X) : zRe D' B la X := by
  obtain ⟨⟨x, h1, h2, h3⟩, h4⟩ := h
  refine ⟨⟨x, h1, by rw [← hs]; exact h2, by rw [← hs]; exact h3⟩, fun c y ρ q1 q2 q3 => ?_⟩
  have := h4 c y ρ q1 q2 q3
  unfold zBd at this ⊢
  rw [← hs]
  exact this
theorem zLo_r2 {M M1 : MM} {k r : Int} (h : zSM M) (hf : zFr M M1) (hk : 0 ≤ k ∧ k < M1 86 0 ∧ 0 ≤ r ∧ r ≤ 100) : ∀ X, FM (ssK (up2 M1 84 0 0) 0 (M1 86 0).toNat) X → zRD (up2 (zLo M 0) 24 k.toNat r) (up2 X 101 k.toNat r) := by
  intro X hX
  have h1 := (zLo_rd h hf (w := 0) (by decide)).to (X := X) (fun c hc => hX.1 c (by omega) (by omega) (by omega) (by omega))
  refine ⟨by rw [up2_ne _ _ _ _ (by decide), up2_ne _ _ _ _ (by decide)]; exact h1.1, fun j hj => ?_⟩
  have hj2 : (j : Int) < X 86 0 := hj
  obtain ⟨r1, r2, r3, r4, r5⟩ := h1.2 j hj2
  refine ⟨r1, r2, ?_, r4, r5⟩
  rw [up2_in, up2_in]
  by_cases c : j = k.toNat
  · rw [if_pos c, if_pos c]
  · rw [if_neg c, if_neg c]; exact r3
theorem zv_more {M M1 M2 : MM} {z z2 k r b : Int} (h : zSM M) (h1 : pc_more k r b M z M1) (h2 : pr_moreL (zLo M 0) (up2 (zLo M 0) 24 k.toNat r) k r b M1 z2 M2) : z = z2 ∧ zSM M2 := by
  have hf := zf_more h1
  have e11 := h.qn.2.1
  have e86 : M1 86 0 = M 86 0 := by rw [hf 86 (by decide)]
  refine ⟨?_, zs_more (b := b) (z2 := z2) h h1 ⟨h2.1, fun q => ?_⟩⟩
  · rcases h1 with ⟨a1, a2, -⟩ | ⟨a1, s, u, s2, u2, L, L2, Mx, hle, hfg, hle2, a2, -⟩
    · rcases h2.2 with ⟨b1, b2⟩ | ⟨b1, -⟩
      · rw [a2, b2]
      · omega
    · rcases h2.2 with ⟨b1, b2⟩ | ⟨b1, X1, X2, f1, m1, x1, m2, x2, b2⟩
      · omega
      · have hwm : WM M1 := (h.rb hf).1
        have hwB : WM (ssK (up2 M1 84 0 0) 0 (M1 86 0).toNat) := ((FO.rf0 M1).ss 0 _).wm hwm
        have hsB := ssK_shk (M := up2 M1 84 0 0) hwm (w := 0) (by decide)
        have e := zq_same (zLo_n h.cw (by decide)) (zLo_rd h hf (by decide)) hwB hsB hle x1
        have hcell : ∀ c, 22 ≤ c → c ≤ 26 → up2 Mx 24 k.toNat r c = up2 (zLo M 0) 24 k.toNat r c := fun c c1 c2 => by
          funext j
          by_cases q : c = 24
          · subst q
            rw [up2_in, up2_in, hfg.1 24 (by decide) (by decide) (by decide) (by decide)]
          · rw [up2_ne _ _ _ _ q, up2_ne _ _ _ _ q, hfg.1 c (by omega) (by omega) (by omega) (by omega)]
        have h5 : up2 Mx 24 k.toNat r 21 5 = up2 (zLo M 0) 24 k.toNat r 21 5 := by rw [up2_ne _ _ _ _ (by decide), up2_ne _ _ _ _ (by decide)]; exact hfg.2.1 5 (by decide)
        have hch := zq_chr (k := k) (r := r) h.cw hfg (by omega) (by omega)
        have hN2 : zNe (up2 Mx 24 k.toNat r) := ⟨hch.1, hch.2.1⟩
        have hsn : ∀ x, zSn (up2 (zLo M 0) 24 k.toNat r) x = zSn (up2 Mx 24 k.toNat r) x := fun x => zSn_same (fun c c1 c2 => (hcell c c1 c2).symm) h5.symm (fun q hq => (hN2.2 q hq).1) (fun _ _ => rfl)
        have hrd : zRD (up2 Mx 24 k.toNat r) (up2 X1 101 k.toNat r) := by
          have := zLo_r2 h hf b1 X1 f1
          unfold zRD at this ⊢
          rw [h5, hcell 22 (by decide) (by decide), hcell 23 (by decide) (by decide), hcell 24 (by decide) (by decide), hcell 25 (by decide) (by decide), hcell 26 (by decide) (by decide)]
          exact this
        have hwX : WM (up2 X1 101 k.toNat r) := ((((FO.rf0 M1).ss 0 (M1 86 0).toNat).fm f1).r101 k.toNat r).wm hwm
        have hsX : SHK (up2 X1 101 k.toNat r) := (f1.shk hsB).room k.toNat (by omega)
        have e2 := zq_same hN2 hrd hwX hsX hle2 (x2.cells hsn)
        unfold MB at m1 m2
        have hg := gcd_pos (a := X1 84 24) (b := X2 84 24) m2.2.1.1
        obtain ⟨p, hp⟩ := Int.gcd_dvd_left (X1 84 24) (X2 84 24)
        obtain ⟨q, hq⟩ := Int.gcd_dvd_right (X1 84 24) (X2 84 24)
        generalize hG : (Int.gcd (X1 84 24) (X2 84 24) : Int) = g at hg hp hq b2
        have t1 : (X1 84 24).tdiv g = p := by
          have : (X1 84 24).tdiv g = (g * p).tdiv g := by rw [← hp]
          rw [this]; exact Int.mul_tdiv_cancel_left p (by omega)
        have t2 : (X2 84 24).tdiv g = q := by
          have : (X2 84 24).tdiv g = (g * q).tdiv g := by rw [← hq]
          rw [this]; exact Int.mul_tdiv_cancel_left q (by omega)
        rw [t1, t2] at b2
        rw [← e.1, ← e.2, ← e2.1, ← e2.2] at a2
        have hqp : 0 < q := by
          by_cases c : 0 < q
          · exact c
          · exfalso
            have := Int.mul_nonneg (a := g) (b := -q) (by omega) (by omega)
            rw [Int.mul_neg] at this
            omega
        have hV : 0 < q * X1 84 24 := Int.mul_pos hqp (by omega)
        have hs := nUD_s (a := X2 84 23 * p - X1 84 23 * q) (b := q * X1 84 24) (k := g) hV (by omega)
        have w1 : (X2 84 23 * p - X1 84 23 * q) * g = X2 84 23 * X1 84 24 - X1 84 23 * X2 84 24 := by
          rw [hp, hq]; grind
        have w2 : q * X1 84 24 * g = X2 84 24 * X1 84 24 := by
          rw [hq]; grind
        rw [w1, w2] at hs
        rw [hs.1, hs.2] at a2
        omega
  · rcases h2.2 with ⟨b1, b2⟩ | ⟨b1, -⟩
    · exact b2
    · exact absurd b1 q
