/-- the best row comes to hand -/
def kpM (M : MM) : MM := up2 (up2 (up2 (up2 (cp2 (up2 M 95 0 (M 84 27)) 106 96 (M 84 27).toNat) 84 15 (nU (M 84 28) (M 84 29))) 84 16 (nD (M 84 28) (M 84 29))) 97 0 (nU (M 84 28) (M 84 29))) 98 0 (nD (M 84 28) (M 84 29))
set_option maxRecDepth 100000 in
set_option maxHeartbeats 4000000 in
theorem kp_loop5 {G : GG} {E : EE}  (A : AmM G E cX5_keep 2 yX5_keep.cls 3)  (M : MM) (hbm : 0 ≤ M 84 27 ∧ M 84 27 ≤ 5) (kk : AM G E 2 47 [.ref 84, vi (M 84 27)] [] (cp2 M 106 96 (M 84 27).toNat)) : ∀ (n : Nat) (i : Nat), (M 84 27).toNat - i < n → (i : Int) ≤ M 84 27 → AM G E 2 21 [.ref 84, vi (i : Int)] [] (cp2 M 106 96 i) := by
  intro n
  induction n with
  | zero => intro i hn hi; exfalso; omega
  | succ n ih =>
    intro i hn hi
    refine a_iload_n (z := (i : Int)) A dX5_keep_21 rfl ?_
    refine a_aload_n (z := 84) A dX5_keep_22 rfl ?_
    refine gf_X5_151 (x := M 84 27) A dX5_keep_23 rfl (by decide) rfl ?_
    refine a_icmp_ge (tgt := 47) A dX5_keep_26 (by decide) (by omega) (by omega) (fun h26 => ?_) (fun h26 => ?_)
    · rw [show (M 84 27) = (i : Int) by omega] at kk
      exact kk
    · refine a_aload_n (z := 84) A dX5_keep_29 rfl ?_
      refine gf_X5_43 (r := 96) A dX5_keep_30 rfl (by decide) rfl ?_
      refine a_iload_n (z := (i : Int)) A dX5_keep_33 rfl ?_
      refine a_aload_n (z := 84) A dX5_keep_34 rfl ?_
      refine gf_X5_74 (r := 106) A dX5_keep_35 rfl (by decide) rfl ?_
      refine a_iload_n (z := (i : Int)) A dX5_keep_38 rfl ?_
      refine a_iaload (i := (i : Int)) (x := M 106 i) A dX5_keep_39 rfl (by decide) (by decide) (by omega) rfl ?_
      refine a_iastore (i := (i : Int)) (j := i) A dX5_keep_40 rfl (by decide) (by decide) (by omega) rfl ?_
      refine a_iinc (z := (i : Int)) (lv' := [.ref 84, vi ((i : Int) + 1)]) A dX5_keep_41 rfl (by decide) rfl ?_
      refine a_goto (tgt := 21) A dX5_keep_44 (by decide) ?_
      rw [cp2_succ M (by decide)]
      exact ih (i + 1) (by omega) (by omega)
set_option maxRecDepth 100000 in
set_option maxHeartbeats 4000000 in
theorem c_X5_keep (G : GG) (l : Launch) (M : MM) (hbo : BOK M) : CMi G l yX5_keep cX5_keep 2 (some .int) 3 [.ref 84] M (fun z M' => (M 84 27 = 0 ∧ z = -1 ∧ M' = up2 M 95 0 (M 84 27)) ∨ (M 84 27 ≠ 0 ∧ z = M 84 27 ∧ M' = kpM M)) := by
  refine CT.intro (by decide) (Nat.le_of_ble_eq_true rfl) (fun E hE A T0 => ?_)
  subst hE
  obtain ⟨hbm, hbe, hbu, hbd, hbp⟩ := hbo
  refine a_aload_n (z := 84) A dX5_keep_0 rfl ?_
  refine gf_X5_40 (r := 95) A dX5_keep_1 rfl (by decide) rfl ?_
  refine a_iconst A dX5_keep_4 ?_
  refine a_aload_n (z := 84) A dX5_keep_5 rfl ?_
  refine gf_X5_151 (x := M 84 27) A dX5_keep_6 rfl (by decide) rfl ?_
  refine a_iastore (i := 0) (j := 0) A dX5_keep_9 rfl (by decide) (by decide) (by omega) rfl ?_
  refine a_aload_n (z := 84) A dX5_keep_10 rfl ?_
  refine gf_X5_151 (x := M 84 27) A dX5_keep_11 rfl (by decide) rfl ?_
  refine a_if_ne (tgt := 19) A dX5_keep_14 (by decide) (by omega) (fun h14 => ?_) (fun h14 => ?_)
  · refine a_iconst A dX5_keep_19 ?_
    refine a_istore_n (lv' := [.ref 84, vi 0]) A dX5_keep_20 (by decide) rfl ?_
    have hp0 := hbp h14
    have hk := kp_loop5 A (up2 M 95 0 (M 84 27)) hbm ?_ ((M 84 27).toNat + 1) 0 (show (M 84 27).toNat - 0 < _ by omega) hbm.1
    · rw [cp2_0] at hk; exact hk
    show AM G E 2 47 [.ref 84, vi (M 84 27)] [] (cp2 (up2 M 95 0 (M 84 27)) 106 96 (M 84 27).toNat)
    refine a_aload_n (z := 84) A dX5_keep_47 rfl ?_
    refine a_aload_n (z := 84) A dX5_keep_48 rfl ?_
    refine gf_X5_157 (x := M 84 28) A dX5_keep_49 rfl (by decide) rfl ?_
    refine a_aload_n (z := 84) A dX5_keep_52 rfl ?_
    refine gf_X5_154 (x := M 84 29) A dX5_keep_53 rfl (by decide) rfl ?_
    refine m_invVv A (c_X5_put G _ (M 84 28) (M 84 29) (cp2 (up2 M 95 0 (M 84 27)) 106 96 (M 84 27).toNat) (by omega) (by omega)) (by decide) mi_X5_put mv_X5_put cs_X5_100 cf5 dX5_keep_56 rfl (by decide) rfl rfl (Nat.le_of_ble_eq_true rfl) (fun M56 h56 => ?_)
    have h56 := h56.symm
    subst h56
    refine a_aload_n (z := 84) A dX5_keep_59 rfl ?_
    refine gf_X5_46 (r := 97) A dX5_keep_60 rfl (by decide) rfl ?_
    refine a_iconst A dX5_keep_63 ?_
    refine a_aload_n (z := 84) A dX5_keep_64 rfl ?_
    refine gf_X5_104 (x := (nU (M 84 28) (M 84 29))) A dX5_keep_65 rfl (by decide) rfl ?_
    refine a_lastore (i := 0) (j := 0) A dX5_keep_68 rfl (by decide) (by decide) (by omega) rfl ?_
    refine a_aload_n (z := 84) A dX5_keep_69 rfl ?_
    refine gf_X5_50 (r := 98) A dX5_keep_70 rfl (by decide) rfl ?_
    refine a_iconst A dX5_keep_73 ?_
    refine a_aload_n (z := 84) A dX5_keep_74 rfl ?_
    refine gf_X5_108 (x := (nD (M 84 28) (M 84 29))) A dX5_keep_75 rfl (by decide) rfl ?_
    refine a_lastore (i := 0) (j := 0) A dX5_keep_78 rfl (by decide) (by decide) (by omega) rfl ?_
    refine a_aload_n (z := 84) A dX5_keep_79 rfl ?_
    refine gf_X5_151 (x := M 84 27) A dX5_keep_80 rfl (by decide) rfl ?_
    exact m_ireturn A T0 dX5_keep_83 (by exact Or.inr ⟨h14, rfl, rfl⟩)
  · refine a_iconst A dX5_keep_17 ?_
    exact m_ireturn A T0 dX5_keep_18 (by exact Or.inl ⟨h14, rfl, rfl⟩)
theorem GI.bok {M0 M : MM} {n : Nat} (h : GI M0 n M) : BOK M := h.2.2
/-- all rows from b to e are weighed -/
noncomputable def goR (b e g : Int) (M : MM) : MM := gor b e g (M 86 0).toNat 5 0 (up2 M 105 0 (-1))
theorem goR_keep {b e g : Int} {M0 M : MM} (hw : WM M0) (h : GI M0 0 M) : GI M0 0 (goR b e g M) := by
  have e86 := h.1.at (c := 86) (by decide) (by decide) (by decide) 0
  have h0 := hw.2.1
  exact (gor_keep (b := b) (e := e) (g := g) (L := (M 86 0).toNat) hw (by rw [e86]; omega) 5 0 _ (by omega) (h.up 0 (Nat.le_refl _) (-1))).1
theorem BOK.zero {M : MM} (h : M 84 27 = 0) (h1 : 0 ≤ M 84 28 ∧ M 84 28 ≤ 59049) (h2 : 0 ≤ M 84 29 ∧ M 84 29 ≤ 59049) : BOK M := ⟨by omega, fun k hk => by omega, h1, h2, fun q => absurd h q⟩
/-- the sums of the best row, as any call finds them -/
def BB (M : MM) : Prop := (0 ≤ M 84 28 ∧ M 84 28 ≤ 59049) ∧ (0 ≤ M 84 29 ∧ M 84 29 ≤ 59049)
noncomputable def wyM (M : MM) (f t : Int) : MM := if (0 ≤ f ∧ f < M 85 0) ∧ (0 ≤ t ∧ t < M 85 0) ∧ f ≠ t then goR f t 0 (up2 (up2 M 84 0 0) 84 27 0) else up2 (up2 M 84 0 0) 84 27 0
set_option maxRecDepth 100000 in
set_option maxHeartbeats 4000000 in
theorem c_X5_way (G : GG) (l : Launch) (f t : Int) (M : MM) (hf : I32 f) (ht : I32 t) (hw : WM M) (hbb : BB M) : CMi G l yX5_way cX5_way 3 (some .int) 4 [.ref 84, vi f, vi t] M (fun z M' => (wyM M f t 84 27 = 0 ∧ z = -1 ∧ M' = up2 (wyM M f t) 95 0 (wyM M f t 84 27)) ∨ (wyM M f t 84 27 ≠ 0 ∧ z = wyM M f t 84 27 ∧ M' = kpM (wyM M f t))) := by
  refine CT.intro (by decide) (Nat.le_of_ble_eq_true rfl) (fun E hE A T0 => ?_)
  subst hE
  refine a_aload_n (z := 84) A dX5_way_0 rfl ?_
  refine a_iconst A dX5_way_1 ?_
  refine pf_X5_81 A dX5_way_2 rfl (by decide) ?_
  refine a_aload_n (z := 84) A dX5_way_5 rfl ?_
  refine a_iconst A dX5_way_6 ?_
  refine pf_X5_151 A dX5_way_7 rfl (by decide) ?_
  refine a_aload_n (z := 84) A dX5_way_10 rfl ?_
  refine a_iload_n (z := f) A dX5_way_11 rfl ?_
  refine m_invVi A (c_X5_isPost G _ f (up2 (up2 M 84 0 0) 84 27 0) (by omega) hw.1) (by decide) mi_X5_isPost mv_X5_isPost cs_X5_93 cf5 dX5_way_12 rfl (by decide) rfl rfl (Nat.le_of_ble_eq_true rfl) (fun z12 M12 h12 => ?_)
  obtain ⟨e12, hc12⟩ := h12
  have e12 := e12.symm
  subst e12
  have hc12 : (z12 = 1 ∧ 0 ≤ f ∧ f < M 85 0) ∨ (z12 = 0 ∧ (f < 0 ∨ M 85 0 ≤ f)) := hc12
  refine a_if_eq (tgt := 38) A dX5_way_15 (by decide) (by omega) (fun h15 => ?_) (fun h15 => ?_)
  · have hbk : BOK (up2 (up2 M 84 0 0) 84 27 0) := BOK.zero rfl hbb.1 hbb.2
    have hwy : wyM M f t = (up2 (up2 M 84 0 0) 84 27 0) := if_neg (by omega)
    refine a_aload_n (z := 84) A dX5_way_38 rfl ?_
    refine m_invVi A (c_X5_keep G _ (up2 (up2 M 84 0 0) 84 27 0) hbk) (by decide) mi_X5_keep mv_X5_keep cs_X5_177 cf5 dX5_way_39 rfl (by decide) rfl rfl (Nat.le_of_ble_eq_true rfl) (fun z39 M39 h39 => ?_)
    exact m_ireturn A T0 dX5_way_42 (by rw [hwy]; exact h39)
  · refine a_aload_n (z := 84) A dX5_way_18 rfl ?_
    refine a_iload_n (z := t) A dX5_way_19 rfl ?_
    refine m_invVi A (c_X5_isPost G _ t (up2 (up2 M 84 0 0) 84 27 0) (by omega) hw.1) (by decide) mi_X5_isPost mv_X5_isPost cs_X5_93 cf5 dX5_way_20 rfl (by decide) rfl rfl (Nat.le_of_ble_eq_true rfl) (fun z20 M20 h20 => ?_)
    obtain ⟨e20, hc20⟩ := h20
    have e20 := e20.symm
    subst e20
    have hc20 : (z20 = 1 ∧ 0 ≤ t ∧ t < M 85 0) ∨ (z20 = 0 ∧ (t < 0 ∨ M 85 0 ≤ t)) := hc20
    refine a_if_eq (tgt := 38) A dX5_way_23 (by decide) (by omega) (fun h23 => ?_) (fun h23 => ?_)
    · have hbk : BOK (up2 (up2 M 84 0 0) 84 27 0) := BOK.zero rfl hbb.1 hbb.2
      have hwy : wyM M f t = (up2 (up2 M 84 0 0) 84 27 0) := if_neg (by omega)
      refine a_aload_n (z := 84) A dX5_way_38 rfl ?_
      refine m_invVi A (c_X5_keep G _ (up2 (up2 M 84 0 0) 84 27 0) hbk) (by decide) mi_X5_keep mv_X5_keep cs_X5_177 cf5 dX5_way_39 rfl (by decide) rfl rfl (Nat.le_of_ble_eq_true rfl) (fun z39 M39 h39 => ?_)
      exact m_ireturn A T0 dX5_way_42 (by rw [hwy]; exact h39)
    · refine a_iload_n (z := f) A dX5_way_26 rfl ?_
      refine a_iload_n (z := t) A dX5_way_27 rfl ?_
      refine a_icmp_eq (tgt := 38) A dX5_way_28 (by decide) (by omega) (by omega) (fun h28 => ?_) (fun h28 => ?_)
      · have hbk : BOK (up2 (up2 M 84 0 0) 84 27 0) := BOK.zero rfl hbb.1 hbb.2
        have hwy : wyM M f t = (up2 (up2 M 84 0 0) 84 27 0) := if_neg (by omega)
        refine a_aload_n (z := 84) A dX5_way_38 rfl ?_
        refine m_invVi A (c_X5_keep G _ (up2 (up2 M 84 0 0) 84 27 0) hbk) (by decide) mi_X5_keep mv_X5_keep cs_X5_177 cf5 dX5_way_39 rfl (by decide) rfl rfl (Nat.le_of_ble_eq_true rfl) (fun z39 M39 h39 => ?_)
        exact m_ireturn A T0 dX5_way_42 (by rw [hwy]; exact h39)
      · refine a_aload_n (z := 84) A dX5_way_31 rfl ?_
        refine a_iload_n (z := f) A dX5_way_32 rfl ?_
        refine a_iload_n (z := t) A dX5_way_33 rfl ?_
        refine a_iconst A dX5_way_34 ?_
        refine m_invVv A (c_X5_goAll G _ f t 0 (up2 (up2 M 84 0 0) 84 27 0) (by omega) (by omega) (Or.inl rfl) hw (BOK.zero rfl hbb.1 hbb.2)) (by decide) mi_X5_goAll mv_X5_goAll cs_X5_173 cf5 dX5_way_35 rfl (by decide) rfl rfl (Nat.le_of_ble_eq_true rfl) (fun M35 h35 => ?_)
        have h35 := h35.symm
        subst h35
        have hbk : BOK (goR f t 0 (up2 (up2 M 84 0 0) 84 27 0)) := (goR_keep (M0 := (up2 (up2 M 84 0 0) 84 27 0)) hw ⟨FZ.rf _, fun k hk => by omega, BOK.zero rfl hbb.1 hbb.2⟩).bok
        have hwy : wyM M f t = (goR f t 0 (up2 (up2 M 84 0 0) 84 27 0)) := if_pos ⟨by omega, by omega, by omega⟩
        refine a_aload_n (z := 84) A dX5_way_38 rfl ?_
        refine m_invVi A (c_X5_keep G _ (goR f t 0 (up2 (up2 M 84 0 0) 84 27 0)) hbk) (by decide) mi_X5_keep mv_X5_keep cs_X5_177 cf5 dX5_way_39 rfl (by decide) rfl rfl (Nat.le_of_ble_eq_true rfl) (fun z39 M39 h39 => ?_)
        exact m_ireturn A T0 dX5_way_42 (by rw [hwy]; exact h39)
noncomputable def frg : Nat → Nat → MM → MM
  | 0, _, M => M
  | c + 1, v, M => frg c (v + 1) (goR (v : Int) (v : Int) 1 M)
noncomputable def frM (M : MM) : MM := frg ((M 85 0).toNat - 2) 1 (up2 (up2 (up2 M 84 27 0) 84 30 0) 84 31 0)
theorem frg_keep {M0 : MM} (hw : WM M0) : ∀ (c v : Nat) (M : MM), GI M0 0 M → GI M0 0 (frg c v M) := by
  intro c
  induction c with
  | zero => intro v M h; exact h
  | succ c ih => intro v M h; exact ih (v + 1) _ (goR_keep hw h)
set_option maxRecDepth 100000 in
set_option maxHeartbeats 4000000 in
theorem fr_loop5 {G : GG} {E : EE} {P : MM → Prop} (A : AmM G E cX5_findRings 2 yX5_findRings.cls 4) (T0 : RT E G yX5_findRings 108 0 0 none (fun r rf' M' => rf' = rF ∧ r = none ∧ P M')) (M0 : MM) (hw : WM M0) : ∀ (n : Nat) (v : Nat) (M : MM), 5 - v < n → GI M0 0 M → 1 ≤ v → (v : Int) ≤ M0 85 0 - 1 → P (frg ((M0 85 0).toNat - 1 - v) v M) → AM G E 2 17 [.ref 84, vi (v : Int)] [] M := by
  intro n
  induction n with
  | zero => intro v M hn hI hv1 hv hp; exfalso; omega
  | succ n ih =>
    intro v M hn hI hv1 hv hp
    have e85 := hI.1.at (c := 85) (by decide) (by decide) (by decide) 0
    have hp5 := hw.1
    refine a_iload_n (z := (v : Int)) A dX5_findRings_17 rfl ?_
    refine a_aload_n (z := 84) A dX5_findRings_18 rfl ?_
    refine gf_X5_7 (r := 85) A dX5_findRings_19 rfl (by decide) rfl ?_
    refine a_iconst A dX5_findRings_22 ?_
    refine a_iaload (i := 0) (x := M 85 0) A dX5_findRings_23 rfl (by decide) (by decide) (by omega) rfl ?_
    refine a_iconst A dX5_findRings_24 ?_
    refine a_isub (x := (M 85 0)) (y := 1) A dX5_findRings_25 ?_
    refine a_icmp_ge (tgt := 42) A dX5_findRings_26 (by decide) (by omega) (by omega) (fun h26 => ?_) (fun h26 => ?_)
    · exact m_return A T0 dX5_findRings_42 (by rw [show (M0 85 0).toNat - 1 - v = 0 by omega] at hp; exact hp)
    · refine a_aload_n (z := 84) A dX5_findRings_29 rfl ?_
      refine a_iload_n (z := (v : Int)) A dX5_findRings_30 rfl ?_
      refine a_iload_n (z := (v : Int)) A dX5_findRings_31 rfl ?_
      refine a_iconst A dX5_findRings_32 ?_
      refine m_invVv A (c_X5_goAll G _ (v : Int) (v : Int) 1 M (by omega) (by omega) (Or.inr rfl) (hI.1.wm hw) hI.bok) (by decide) mi_X5_goAll mv_X5_goAll cs_X5_173 cf5 dX5_findRings_33 rfl (by decide) rfl rfl (Nat.le_of_ble_eq_true rfl) (fun M33 h33 => ?_)
      have h33 := h33.symm
      subst h33
      refine a_iinc (z := (v : Int)) (lv' := [.ref 84, vi ((v : Int) + 1)]) A dX5_findRings_36 rfl (by decide) rfl ?_
      refine a_goto (tgt := 17) A dX5_findRings_39 (by decide) ?_
      rw [show (M0 85 0).toNat - 1 - v = ((M0 85 0).toNat - 1 - (v + 1)) + 1 by omega] at hp
      exact ih (v + 1) _ (by omega) (goR_keep hw hI) (by omega) (by omega) hp
set_option maxRecDepth 100000 in
set_option maxHeartbeats 4000000 in
theorem c_X5_findRings (G : GG) (l : Launch) (M : MM) (hw : WM M) (hbb : BB M) : CMv G l yX5_findRings cX5_findRings 2 none 4 [.ref 84] M (fun M' => M' = frM M) := by
  refine CT.intro (by decide) (Nat.le_of_ble_eq_true rfl) (fun E hE A T0 => ?_)
  subst hE
  refine a_aload_n (z := 84) A dX5_findRings_0 rfl ?_
  refine a_iconst A dX5_findRings_1 ?_
  refine pf_X5_151 A dX5_findRings_2 rfl (by decide) ?_
  refine a_aload_n (z := 84) A dX5_findRings_5 rfl ?_
  refine a_iconst A dX5_findRings_6 ?_
  refine pf_X5_163 A dX5_findRings_7 rfl (by decide) ?_
  refine a_aload_n (z := 84) A dX5_findRings_10 rfl ?_
  refine a_iconst A dX5_findRings_11 ?_
  refine pf_X5_166 A dX5_findRings_12 rfl (by decide) ?_
  refine a_iconst A dX5_findRings_15 ?_
  refine a_istore_n (lv' := [.ref 84, vi 1]) A dX5_findRings_16 (by decide) rfl ?_
  have hp5 := hw.1
  have h0 : GI (up2 (up2 (up2 M 84 27 0) 84 30 0) 84 31 0) 0 (up2 (up2 (up2 M 84 27 0) 84 30 0) 84 31 0) := ⟨FZ.rf _, fun k hk => by omega, BOK.zero rfl hbb.1 hbb.2⟩
  refine fr_loop5 A T0 (up2 (up2 (up2 M 84 27 0) 84 30 0) 84 31 0) hw 6 1 (up2 (up2 (up2 M 84 27 0) 84 30 0) 84 31 0) (by omega) h0 (by omega) (show ((1 : Nat) : Int) ≤ M 85 0 - 1 by omega) ?_
  show frg ((M 85 0).toNat - 1 - 1) 1 (up2 (up2 (up2 M 84 27 0) 84 30 0) 84 31 0) = frM M
  unfold frM
  rw [show (M 85 0).toNat - 1 - 1 = (M 85 0).toNat - 2 by omega]
theorem frM_keep {M : MM} (hw : WM M) (hbb : BB M) : GI (up2 (up2 (up2 M 84 27 0) 84 30 0) 84 31 0) 0 (frM M) := frg_keep (M0 := up2 (up2 (up2 M 84 27 0) 84 30 0) 84 31 0) hw _ _ _ ⟨FZ.rf _, fun k hk => by omega, BOK.zero rfl hbb.1 hbb.2⟩
set_option maxRecDepth 100000 in
set_option maxHeartbeats 4000000 in
theorem c_X5_ring (G : GG) (l : Launch) (M : MM) (hw : WM M) (hbb : BB M) : CMi G l yX5_ring cX5_ring 1 (some .int) 5 [.ref 84] M (fun z M' => (frM (up2 M 84 0 0) 84 27 = 0 ∧ z = -1 ∧ M' = up2 (frM (up2 M 84 0 0)) 95 0 (frM (up2 M 84 0 0) 84 27)) ∨ (frM (up2 M 84 0 0) 84 27 ≠ 0 ∧ z = frM (up2 M 84 0 0) 84 27 ∧ M' = kpM (frM (up2 M 84 0 0)))) := by
  refine CT.intro (by decide) (Nat.le_of_ble_eq_true rfl) (fun E hE A T0 => ?_)
  subst hE
  refine a_aload_n (z := 84) A dX5_ring_0 rfl ?_
  refine a_iconst A dX5_ring_1 ?_
  refine pf_X5_81 A dX5_ring_2 rfl (by decide) ?_
  refine a_aload_n (z := 84) A dX5_ring_5 rfl ?_
  refine m_invVv A (c_X5_findRings G _ (up2 M 84 0 0) hw hbb) (by decide) mi_X5_findRings mv_X5_findRings cs_X5_181 cf5 dX5_ring_6 rfl (by decide) rfl rfl (Nat.le_of_ble_eq_true rfl) (fun M6 h6 => ?_)
  have h6 := h6.symm
  subst h6
  refine a_aload_n (z := 84) A dX5_ring_9 rfl ?_
  refine m_invVi A (c_X5_keep G _ (frM (up2 M 84 0 0)) (frM_keep (M := up2 M 84 0 0) hw hbb).bok) (by decide) mi_X5_keep mv_X5_keep cs_X5_177 cf5 dX5_ring_10 rfl (by decide) rfl rfl (Nat.le_of_ble_eq_true rfl) (fun z10 M10 h10 => ?_)
  exact m_ireturn A T0 dX5_ring_13 (by exact h10)
set_option maxRecDepth 100000 in
set_option maxHeartbeats 4000000 in
theorem c_X5_count (G : GG) (l : Launch) (w : Int) (M : MM) (hw0 : I32 w) (hw : WM M) (hbb : BB M) : CMi G l yX5_count cX5_count 2 (some .int) 5 [.ref 84, vi w] M (fun z M' => (w = 0 ∧ z = M 85 0 ∧ M' = up2 M 84 0 0) ∨ (w = 1 ∧ z = M 86 0 ∧ M' = up2 M 84 0 0) ∨ (w = 2 ∧ z = frM (up2 M 84 0 0) 84 30 ∧ M' = frM (up2 M 84 0 0)) ∨ (w = 3 ∧ z = frM (up2 M 84 0 0) 84 31 ∧ M' = frM (up2 M 84 0 0)) ∨ (w = 4 ∧ z = M 95 0 ∧ M' = up2 M 84 0 0) ∨ ((w < 0 ∨ 4 < w) ∧ z = -1 ∧ M' = up2 M 84 0 0)) := by
  refine CT.intro (by decide) (Nat.le_of_ble_eq_true rfl) (fun E hE A T0 => ?_)
  subst hE
  refine a_aload_n (z := 84) A dX5_count_0 rfl ?_
  refine a_iconst A dX5_count_1 ?_
  refine pf_X5_81 A dX5_count_2 rfl (by decide) ?_
  refine a_iload_n (z := w) A dX5_count_5 rfl ?_
  by_cases hsw : w < 0 ∨ 4 < w
  · refine a_tswO (tgt := 82) A dX5_count_6 (by omega) hsw (by decide) ?_
    refine a_iconst A dX5_count_82 ?_
    exact m_ireturn A T0 dX5_count_83 (by first | exact Or.inl ⟨by omega, rfl, rfl⟩ | exact Or.inr (Or.inl ⟨by omega, rfl, rfl⟩) | exact Or.inr (Or.inr (Or.inl ⟨by omega, rfl, rfl⟩)) | exact Or.inr (Or.inr (Or.inr (Or.inl ⟨by omega, rfl, rfl⟩))) | exact Or.inr (Or.inr (Or.inr (Or.inr (Or.inl ⟨by omega, rfl, rfl⟩)))) | exact Or.inr (Or.inr (Or.inr (Or.inr (Or.inr ⟨by omega, rfl, rfl⟩)))))
  · have hs2 : w = 0 ∨ w = 1 ∨ w = 2 ∨ w = 3 ∨ w = 4 := by omega
    rcases hs2 with hs | hs | hs | hs | hs
    · refine a_tswI (tgt := 40) (off := 34) A dX5_count_6 (by omega) (by omega) (by omega) (by rw [hs]; rfl) (by decide) ?_
      refine a_aload_n (z := 84) A dX5_count_40 rfl ?_
      refine gf_X5_7 (r := 85) A dX5_count_41 rfl (by decide) rfl ?_
      refine a_iconst A dX5_count_44 ?_
      refine a_iaload (i := 0) (x := M 85 0) A dX5_count_45 rfl (by decide) (by decide) (by omega) rfl ?_
      exact m_ireturn A T0 dX5_count_46 (by first | exact Or.inl ⟨by omega, rfl, rfl⟩ | exact Or.inr (Or.inl ⟨by omega, rfl, rfl⟩) | exact Or.inr (Or.inr (Or.inl ⟨by omega, rfl, rfl⟩)) | exact Or.inr (Or.inr (Or.inr (Or.inl ⟨by omega, rfl, rfl⟩))) | exact Or.inr (Or.inr (Or.inr (Or.inr (Or.inl ⟨by omega, rfl, rfl⟩)))) | exact Or.inr (Or.inr (Or.inr (Or.inr (Or.inr ⟨by omega, rfl, rfl⟩)))))
    · refine a_tswI (tgt := 47) (off := 41) A dX5_count_6 (by omega) (by omega) (by omega) (by rw [hs]; rfl) (by decide) ?_
      refine a_aload_n (z := 84) A dX5_count_47 rfl ?_
      refine gf_X5_13 (r := 86) A dX5_count_48 rfl (by decide) rfl ?_
      refine a_iconst A dX5_count_51 ?_
      refine a_iaload (i := 0) (x := M 86 0) A dX5_count_52 rfl (by decide) (by decide) (by omega) rfl ?_
      exact m_ireturn A T0 dX5_count_53 (by first | exact Or.inl ⟨by omega, rfl, rfl⟩ | exact Or.inr (Or.inl ⟨by omega, rfl, rfl⟩) | exact Or.inr (Or.inr (Or.inl ⟨by omega, rfl, rfl⟩)) | exact Or.inr (Or.inr (Or.inr (Or.inl ⟨by omega, rfl, rfl⟩))) | exact Or.inr (Or.inr (Or.inr (Or.inr (Or.inl ⟨by omega, rfl, rfl⟩)))) | exact Or.inr (Or.inr (Or.inr (Or.inr (Or.inr ⟨by omega, rfl, rfl⟩)))))
    · refine a_tswI (tgt := 54) (off := 48) A dX5_count_6 (by omega) (by omega) (by omega) (by rw [hs]; rfl) (by decide) ?_
      refine a_aload_n (z := 84) A dX5_count_54 rfl ?_
      refine m_invVv A (c_X5_findRings G _ (up2 M 84 0 0) hw hbb) (by decide) mi_X5_findRings mv_X5_findRings cs_X5_181 cf5 dX5_count_55 rfl (by decide) rfl rfl (Nat.le_of_ble_eq_true rfl) (fun M55 h55 => ?_)
      have h55 := h55.symm
      subst h55
      refine a_iload_n (z := w) A dX5_count_58 rfl ?_
      refine a_iconst A dX5_count_59 ?_
      refine a_icmp_ne (tgt := 70) A dX5_count_60 (by decide) (by omega) (by omega) (fun h60 => ?_) (fun h60 => ?_)
      · refine a_aload_n (z := 84) A dX5_count_70 rfl ?_
        refine gf_X5_166 (x := (frM (up2 M 84 0 0)) 84 31) A dX5_count_71 rfl (by decide) rfl ?_
        exact m_ireturn A T0 dX5_count_74 (by first | exact Or.inl ⟨by omega, rfl, rfl⟩ | exact Or.inr (Or.inl ⟨by omega, rfl, rfl⟩) | exact Or.inr (Or.inr (Or.inl ⟨by omega, rfl, rfl⟩)) | exact Or.inr (Or.inr (Or.inr (Or.inl ⟨by omega, rfl, rfl⟩))) | exact Or.inr (Or.inr (Or.inr (Or.inr (Or.inl ⟨by omega, rfl, rfl⟩)))) | exact Or.inr (Or.inr (Or.inr (Or.inr (Or.inr ⟨by omega, rfl, rfl⟩)))))
      · refine a_aload_n (z := 84) A dX5_count_63 rfl ?_
        refine gf_X5_163 (x := (frM (up2 M 84 0 0)) 84 30) A dX5_count_64 rfl (by decide) rfl ?_
        refine a_goto (tgt := 74) A dX5_count_67 (by decide) ?_
        exact m_ireturn A T0 dX5_count_74 (by first | exact Or.inl ⟨by omega, rfl, rfl⟩ | exact Or.inr (Or.inl ⟨by omega, rfl, rfl⟩) | exact Or.inr (Or.inr (Or.inl ⟨by omega, rfl, rfl⟩)) | exact Or.inr (Or.inr (Or.inr (Or.inl ⟨by omega, rfl, rfl⟩))) | exact Or.inr (Or.inr (Or.inr (Or.inr (Or.inl ⟨by omega, rfl, rfl⟩)))) | exact Or.inr (Or.inr (Or.inr (Or.inr (Or.inr ⟨by omega, rfl, rfl⟩)))))
    · refine a_tswI (tgt := 54) (off := 48) A dX5_count_6 (by omega) (by omega) (by omega) (by rw [hs]; rfl) (by decide) ?_
      refine a_aload_n (z := 84) A dX5_count_54 rfl ?_
      refine m_invVv A (c_X5_findRings G _ (up2 M 84 0 0) hw hbb) (by decide) mi_X5_findRings mv_X5_findRings cs_X5_181 cf5 dX5_count_55 rfl (by decide) rfl rfl (Nat.le_of_ble_eq_true rfl) (fun M55 h55 => ?_)
      have h55 := h55.symm
      subst h55
      refine a_iload_n (z := w) A dX5_count_58 rfl ?_
      refine a_iconst A dX5_count_59 ?_
      refine a_icmp_ne (tgt := 70) A dX5_count_60 (by decide) (by omega) (by omega) (fun h60 => ?_) (fun h60 => ?_)
      · refine a_aload_n (z := 84) A dX5_count_70 rfl ?_
        refine gf_X5_166 (x := (frM (up2 M 84 0 0)) 84 31) A dX5_count_71 rfl (by decide) rfl ?_
        exact m_ireturn A T0 dX5_count_74 (by first | exact Or.inl ⟨by omega, rfl, rfl⟩ | exact Or.inr (Or.inl ⟨by omega, rfl, rfl⟩) | exact Or.inr (Or.inr (Or.inl ⟨by omega, rfl, rfl⟩)) | exact Or.inr (Or.inr (Or.inr (Or.inl ⟨by omega, rfl, rfl⟩))) | exact Or.inr (Or.inr (Or.inr (Or.inr (Or.inl ⟨by omega, rfl, rfl⟩)))) | exact Or.inr (Or.inr (Or.inr (Or.inr (Or.inr ⟨by omega, rfl, rfl⟩)))))
      · refine a_aload_n (z := 84) A dX5_count_63 rfl ?_
        refine gf_X5_163 (x := (frM (up2 M 84 0 0)) 84 30) A dX5_count_64 rfl (by decide) rfl ?_
        refine a_goto (tgt := 74) A dX5_count_67 (by decide) ?_
        exact m_ireturn A T0 dX5_count_74 (by first | exact Or.inl ⟨by omega, rfl, rfl⟩ | exact Or.inr (Or.inl ⟨by omega, rfl, rfl⟩) | exact Or.inr (Or.inr (Or.inl ⟨by omega, rfl, rfl⟩)) | exact Or.inr (Or.inr (Or.inr (Or.inl ⟨by omega, rfl, rfl⟩))) | exact Or.inr (Or.inr (Or.inr (Or.inr (Or.inl ⟨by omega, rfl, rfl⟩)))) | exact Or.inr (Or.inr (Or.inr (Or.inr (Or.inr ⟨by omega, rfl, rfl⟩)))))
    · refine a_tswI (tgt := 75) (off := 69) A dX5_count_6 (by omega) (by omega) (by omega) (by rw [hs]; rfl) (by decide) ?_
      refine a_aload_n (z := 84) A dX5_count_75 rfl ?_
      refine gf_X5_40 (r := 95) A dX5_count_76 rfl (by decide) rfl ?_
      refine a_iconst A dX5_count_79 ?_
      refine a_iaload (i := 0) (x := M 95 0) A dX5_count_80 rfl (by decide) (by decide) (by omega) rfl ?_
      exact m_ireturn A T0 dX5_count_81 (by first | exact Or.inl ⟨by omega, rfl, rfl⟩ | exact Or.inr (Or.inl ⟨by omega, rfl, rfl⟩) | exact Or.inr (Or.inr (Or.inl ⟨by omega, rfl, rfl⟩)) | exact Or.inr (Or.inr (Or.inr (Or.inl ⟨by omega, rfl, rfl⟩))) | exact Or.inr (Or.inr (Or.inr (Or.inr (Or.inl ⟨by omega, rfl, rfl⟩)))) | exact Or.inr (Or.inr (Or.inr (Or.inr (Or.inr ⟨by omega, rfl, rfl⟩)))))
