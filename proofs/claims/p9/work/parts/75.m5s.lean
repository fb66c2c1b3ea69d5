/-! the reference's search for MOST, with what one wants to know of it -/
set_option maxRecDepth 100000 in
set_option maxHeartbeats 4000000 in
theorem c_X5_findMostJ (G : GG) (l : Launch) (M : MM) (hw : WM M) (hs : SHK M) (J : MM → Int → Prop) (R : MM → Prop) (hJ0 : J (cmK M 5) 0) (hJs : ∀ (M1 : MM) (s : Int) (M' : MM) (s' : Int), JT M M1 s → J M1 s → STA M1 s M' s' → ∀ (z : Int) (M2 : MM), (z, M2) = ncR ((M' 85 0).toNat - 2) 1 M' → (z = 0 → R M2) ∧ (z = 1 → J M2 s')) : CMv G l yX5_findMost cX5_findMost 3 none 4 [.ref 84] M (fun M' => FM M M' ∧ MB M' ∧ R M') := by
  refine CT.intro (by decide) (Nat.le_of_ble_eq_true rfl) (fun E hE A T0 => ?_)
  subst hE
  refine a_iconst A dX5_findMost_0 ?_
  refine a_istore_n (lv' := [.ref 84, vi 0, jk]) A dX5_findMost_1 (by decide) rfl ?_
  have h0 := fm_cm5 A M ?_ 6 0 (by omega) (by omega)
  · rw [cmK_0] at h0; exact h0
  refine a_iconst A dX5_findMost_20 ?_
  refine a_istore_n (lv' := [.ref 84, vi 0, jk]) A dX5_findMost_21 (by decide) rfl ?_
  refine a_iconst A dX5_findMost_22 ?_
  refine a_istore_n (lv' := [.ref 84, vi 0, vi 1]) A dX5_findMost_23 (by decide) rfl ?_
  refine fm_loop5 A T0 (fun M1 s => JT M M1 s ∧ J M1 s) (fun M => 1331 - Nm (M 102) ((M 85 0).toNat - 2) 1) (fun M1 s h => ⟨h.1.1, h.1.2.1, h.1.2.2.2.1, fun q => ⟨(h.1.2.2.2.2.1 q).1, (h.1.2.2.2.2.1 q).2.1⟩⟩) (fun M1 s M' s' hj hst z M2 hz => ⟨fun q => ⟨((JT_step hj.1 hst hz).1 q).1, ((JT_step hj.1 hst hz).1 q).2, (hJs M1 s M' s' hj.1 hj.2 hst z M2 hz).1 q⟩, fun q => ⟨⟨((JT_step hj.1 hst hz).2 q).1, (hJs M1 s M' s' hj.1 hj.2 hst z M2 hz).2 q⟩, ((JT_step hj.1 hst hz).2 q).2⟩⟩) 1332 (cmK M 5) 0 (by omega) ?_
  refine ⟨?_, hJ0⟩
  refine ⟨hw, ⟨fun v a b => Or.inl ?_, hs⟩, ⟨fun c h1 h0 h2 h3 => ?_, fun j _ _ _ _ => rfl⟩, Or.inl rfl, fun q => absurd q (by decide), fun _ v a b => ?_⟩
  · have hP := hw.1
    have b2 : (v : Int) < M 85 0 - 1 := b
    show (if v < 5 then (-1 : Int) else M 102 v) = -1
    rw [if_pos (by omega)]
  · unfold cmK; rw [if_neg h0]
  · have hP := hw.1
    have b2 : (v : Int) < M 85 0 - 1 := b
    show (if v < 5 then (-1 : Int) else M 102 v) = -1
    rw [if_pos (by omega)]
set_option maxRecDepth 100000 in
set_option maxHeartbeats 4000000 in
theorem c_X5_mostR (G : GG) (l : Launch) (w b : Int) (M : MM) (hw0 : I32 w) (hb : I32 b) (hw : WM M) (R : MM → Prop) (hR : (0 ≤ w ∧ w ≤ 2) → ∀ l' : Launch, CMv G l' yX5_findMost cX5_findMost 3 none 4 [.ref 84] (ssK (up2 M 84 0 0) w (M 86 0).toNat) (fun M' => FM (ssK (up2 M 84 0 0) w (M 86 0).toNat) M' ∧ MB M' ∧ R M')) : CMl G l yX5_most cX5_most 3 (some .long) 5 [.ref 84, vi w, vi b] M (fun z M' => FO M M' ∧ (((w < 0 ∨ 2 < w) ∧ z = -1) ∨ ((0 ≤ w ∧ w ≤ 2) ∧ ∃ X : MM, R X ∧ MB X ∧ ((b ≠ 0 ∧ z = X 84 24) ∨ (b = 0 ∧ z = X 84 23))))) := by
  refine CT.intro (by decide) (Nat.le_of_ble_eq_true rfl) (fun E hE A T0 => ?_)
  subst hE
  refine a_aload_n (z := 84) A dX5_most_0 rfl ?_
  refine a_iconst A dX5_most_1 ?_
  refine pf_X5_81 A dX5_most_2 rfl (by decide) ?_
  refine a_iload_n (z := w) A dX5_most_5 rfl ?_
  refine a_iconst A dX5_most_6 ?_
  refine a_iconst A dX5_most_7 ?_
  refine m_invSi A (c_X5_in G _ w 0 2 (up2 M 84 0 0) (by omega) (by omega) (by omega)) (by decide) mi_X5_in ms_X5_in cs_X5_89 dX5_most_8 rfl rfl (Nat.le_of_ble_eq_true rfl) (fun z8 M8 h8 => ?_)
  obtain ⟨e8, hc8⟩ := h8
  have e8 := e8.symm
  subst e8
  refine a_if_ne (tgt := 18) A dX5_most_11 (by decide) (by omega) (fun h11 => ?_) (fun h11 => ?_)
  · refine a_aload_n (z := 84) A dX5_most_18 rfl ?_
    refine a_iload_n (z := w) A dX5_most_19 rfl ?_
    refine m_invVv A (c_X5_setShares G _ w (up2 M 84 0 0) (by omega) hw) (by decide) mi_X5_setShares mv_X5_setShares cs_X5_137 cf5 dX5_most_20 rfl (by decide) rfl rfl (Nat.le_of_ble_eq_true rfl) (fun M20 h20 => ?_)
    have h20 := h20.symm
    subst h20
    refine a_aload_n (z := 84) A dX5_most_23 rfl ?_
    refine m_invVv A (hR (by omega) _) (by decide) mi_X5_findMost mv_X5_findMost cs_X5_141 cf5 dX5_most_24 rfl (by decide) rfl rfl (Nat.le_of_ble_eq_true rfl) (fun M24 h24 => ?_)
    refine a_iload_n (z := b) A dX5_most_27 rfl ?_
    refine a_if_eq (tgt := 38) A dX5_most_28 (by decide) (by omega) (fun h28 => ?_) (fun h28 => ?_)
    · refine a_aload_n (z := 84) A dX5_most_38 rfl ?_
      refine gf_X5_122 (x := M24 84 23) A dX5_most_39 rfl (by decide) rfl ?_
      exact m_lreturn A T0 dX5_most_42 ⟨((FO.rf0 M).ss w _).fm h24.1, Or.inr ⟨by omega, M24, h24.2.2, h24.2.1, by omega⟩⟩
    · refine a_aload_n (z := 84) A dX5_most_31 rfl ?_
      refine gf_X5_125 (x := M24 84 24) A dX5_most_32 rfl (by decide) rfl ?_
      refine a_goto (tgt := 42) A dX5_most_35 (by decide) ?_
      exact m_lreturn A T0 dX5_most_42 ⟨((FO.rf0 M).ss w _).fm h24.1, Or.inr ⟨by omega, M24, h24.2.2, h24.2.1, by omega⟩⟩
  · refine a_ldc2 A lk_X5_135 dX5_most_14 ?_
    exact m_lreturn A T0 dX5_most_17 ⟨FO.rf0 M, Or.inl ⟨by omega, rfl⟩⟩
