theorem fpOk_ends {M M1 : MM} (hw : WM M) (h : fpOk M M1) : FPE (M 85 0 - 1).toNat M1 := by
  have hP := hw.1
  refine fpRd_ends (by omega) 3 _ M1 h.1 ?_
  have e : M 85 0 - 1 = (((M 85 0 - 1).toNat : Nat) : Int) := by omega
  have e2 : (M 85 0).toNat = (M 85 0 - 1).toNat + 1 := by omega
  rw [e2]
  conv => arg 2; rw [e]
  exact piK_ends (by omega)
theorem prq_of {M M1 : MM} (hw : WM M) (h : fpOk M M1) (hI : FPI M (M 85 0 - 1).toNat M1) : ∃ Q, PRQ M1 Q := by
  have hP := hw.1
  have he := fpOk_ends hw h
  obtain ⟨Q, q1, q2, q3⟩ := hI.2.2.2
  have hb := bdZ_le (zc (M 85 0 - 1).toNat M1)
  have e85 := hI.1.at (c := 85) (by decide) (by decide) (by decide) 0
  refine ⟨Q, ⟨q1, by omega⟩, fun x hx => ?_⟩
  rw [e85] at hx
  have h1 := hI.2.1 x (by omega)
  have hn : M1 104 x ≠ 0 := by
    rcases Nat.eq_zero_or_pos x with c | c
    · subst c; rw [he.2.1]; decide
    · by_cases c2 : (x : Int) < M 85 0 - 1
      · exact h.2 x c c2
      · rw [show x = (M 85 0 - 1).toNat by omega, he.2.2.2]; decide
  exact ⟨h1.1, by omega, by omega, by omega, q3 x (by omega) hn⟩
def FR (M M' : MM) : Prop := ∀ c, c ≠ 84 → c ≠ 103 → c ≠ 104 → M' c = M c
theorem FR.at {M M' : MM} (h : FR M M') {c : Nat} (h1 : c ≠ 84) (h2 : c ≠ 103) (h3 : c ≠ 104) (j : Nat) : M' c j = M c j := by rw [h c h1 h2 h3]
theorem FR.wm {M M' : MM} (h : FR M M') (hw : WM M) : WM M' := by
  unfold WM LW at hw ⊢
  rw [h 85 (by decide) (by decide) (by decide), h 86 (by decide) (by decide) (by decide), h 87 (by decide) (by decide) (by decide), h 88 (by decide) (by decide) (by decide), h 89 (by decide) (by decide) (by decide), h 90 (by decide) (by decide) (by decide), h 91 (by decide) (by decide) (by decide), h 92 (by decide) (by decide) (by decide), h 93 (by decide) (by decide) (by decide), h 94 (by decide) (by decide) (by decide)]
  exact hw
theorem FR.chk {M M' : MM} (h : FR M M') (hc : CHK M) : CHK M' := by
  unfold CHK at hc ⊢
  rw [h 85 (by decide) (by decide) (by decide), h 86 (by decide) (by decide) (by decide), h 99 (by decide) (by decide) (by decide), h 100 (by decide) (by decide) (by decide), h 101 (by decide) (by decide) (by decide), h 102 (by decide) (by decide) (by decide)]
  exact hc
/-- one choice of lanes is weighed: the state before, whether one was weighed, and both behind it -/
def STA (M : MM) (s : Int) (M' : MM) (s' : Int) : Prop := ((¬ ∃ M1, fpOk M M1) ∧ FQ M M' ∧ s' = s) ∨
  ∃ (M1 : MM) (Q u d : Int), fpOk M M1 ∧ FPI M (M 85 0 - 1).toNat M1 ∧ PRQ M1 Q ∧ u = nU (sumZ (wT M1 Q) (M1 86 0).toNat) (2520 * Q) ∧ d = nD (sumZ (wT M1 Q) (M1 86 0).toNat) (2520 * Q) ∧ (((s = 0 ∨ u * M 84 24 < M 84 23 * d) ∧ M' = up2 (up2 (w2 M1 u d) 84 23 u) 84 24 d ∧ s' = 1) ∨ (s ≠ 0 ∧ ¬ u * M 84 24 < M 84 23 * d ∧ M' = w2 M1 u d ∧ s' = s))
theorem STA.fr {M M' : MM} {s s' : Int} (h : STA M s M' s') : FR M M' := by
  rcases h with ⟨-, h, -⟩ | ⟨M1, Q, u, d, -, hI, -, -, -, h | h⟩
  · exact h.1
  · obtain ⟨-, rfl, -⟩ := h
    intro c h1 h2 h3
    unfold w2
    rw [up2_ne _ _ _ _ h1, up2_ne _ _ _ _ h1, up2_ne _ _ _ _ h1, up2_ne _ _ _ _ h1]
    exact hI.1.1 c h1 h2 h3
  · obtain ⟨-, -, rfl, -⟩ := h
    intro c h1 h2 h3
    unfold w2
    rw [up2_ne _ _ _ _ h1, up2_ne _ _ _ _ h1]
    exact hI.1.1 c h1 h2 h3
theorem worth_bd {M1 : MM} {Q : Int} (hw : WM M1) (hc : CHK M1) (hq : PRQ M1 Q) : 0 ≤ sumZ (wT M1 Q) (M1 86 0).toNat ∧ sumZ (wT M1 Q) (M1 86 0).toNat ≤ 1034079431760000 := by
  have hL := hw.2.1
  have h := sumZ_bd (f := wT M1 Q) (c := 103407943176000) (n := (M1 86 0).toNat) (by omega) (fun j hj => (wT_c (i := j) hq (by have := hw.2.2 j (by omega); unfold LW at this; omega) (by have := hw.2.2 j (by omega); unfold LW at this; omega) (by have := hc.2 j (by omega); omega) (by have := hc.2 j (by omega); omega) (by have := hc.2 j (by omega); omega)).2.1)
  omega
theorem most_bd {M1 : MM} {Q : Int} (hw : WM M1) (hc : CHK M1) (hq : PRQ M1 Q) : (0 ≤ nU (sumZ (wT M1 Q) (M1 86 0).toNat) (2520 * Q) ∧ nU (sumZ (wT M1 Q) (M1 86 0).toNat) (2520 * Q) ≤ 1034079431760000) ∧ (0 < nD (sumZ (wT M1 Q) (M1 86 0).toNat) (2520 * Q) ∧ nD (sumZ (wT M1 Q) (M1 86 0).toNat) (2520 * Q) ≤ 12380760) := by
  have h1 := worth_bd hw hc hq
  have hQ := hq.1
  have hD : 0 < 2520 * Q := by omega
  have h2 := nU_bd h1.1 hD
  have h3 := nD_bd (a := sumZ (wT M1 Q) (M1 86 0).toNat) hD
  omega
set_option maxRecDepth 100000 in
set_option maxHeartbeats 4000000 in
theorem fm_tail5 {G : GG} {E : EE} {P : MM → Prop} (A : AmM G E cX5_findMost 3 yX5_findMost.cls 4) (T0 : RT E G yX5_findMost 108 0 0 none (fun r rf' M' => rf' = rF ∧ r = none ∧ P M')) (M : MM) (s : Int) (hw : WM M) (hc : CHK M) (hk : ∀ (z : Int) (M2 : MM), (z, M2) = ncR ((M 85 0).toNat - 2) 1 M → (z = 0 → P M2) ∧ (z = 1 → AM G E 3 24 [.ref 84, vi s, vi 1] [] M2)) : AM G E 3 83 [.ref 84, vi s, vi 1] [] M := by
  have hP := hw.1
  refine a_aload_n (z := 84) A dX5_findMost_83 rfl ?_
  refine m_invVi A (c_X5_nextChoice G _ M hw (fun u h1 h2 => by have := hc.1 u h1 h2; have := hw.2.1; omega)) (by decide) mi_X5_nextChoice mv_X5_nextChoice cs_X5_132 cf5 dX5_findMost_84 rfl (by decide) rfl rfl (Nat.le_of_ble_eq_true rfl) (fun z84 M84 h84 => ?_)
  obtain ⟨hz84, hn84⟩ := h84
  have hk2 := hk _ _ hn84
  refine a_istore_n (lv' := [.ref 84, vi s, vi z84]) A dX5_findMost_87 (by decide) rfl ?_
  refine a_goto (tgt := 24) A dX5_findMost_88 (by decide) ?_
  rcases hz84 with q | q
  · subst q
    refine a_iload_n (z := 0) A dX5_findMost_24 rfl ?_
    refine a_if_eq (tgt := 91) A dX5_findMost_25 (by decide) (by omega) (fun h25 => ?_) (fun h25 => ?_)
    · exact m_return A T0 dX5_findMost_91 (by exact hk2.1 rfl)
    · exfalso; omega
  · subst q
    exact hk2.2 rfl
set_option maxRecDepth 100000 in
set_option maxHeartbeats 4000000 in
theorem fm_body5 {G : GG} {E : EE} (A : AmM G E cX5_findMost 3 yX5_findMost.cls 4) (M : MM) (s : Int) (hw : WM M) (hc : CHK M) (hs : s = 0 ∨ s = 1) (hb : (s = 1 → (0 ≤ M 84 23 ∧ M 84 23 ≤ 1034079431760000) ∧ (0 < M 84 24 ∧ M 84 24 ≤ 12380760))) (hk : ∀ (M' : MM) (s' : Int), STA M s M' s' → AM G E 3 83 [.ref 84, vi s', vi 1] [] M') : AM G E 3 24 [.ref 84, vi s, vi 1] [] M := by
  refine a_iload_n (z := 1) A dX5_findMost_24 rfl ?_
  refine a_if_eq (tgt := 91) A dX5_findMost_25 (by decide) (by omega) (fun h25 => ?_) (fun h25 => ?_)
  · exfalso; omega
  · refine a_aload_n (z := 84) A dX5_findMost_28 rfl ?_
    refine m_invVi A (c_X5_findPrices G _ M hw hc) (by decide) mi_X5_findPrices mv_X5_findPrices cs_X5_115 cf5 dX5_findMost_29 rfl (by decide) rfl rfl (Nat.le_of_ble_eq_true rfl) (fun z29 M29 h29 => ?_)
    have hz29 : z29 = 0 ∨ z29 = 1 := by rcases h29 with q | q <;> omega
    refine a_if_eq (tgt := 83) A dX5_findMost_32 (by decide) (by omega) (fun h32 => ?_) (fun h32 => ?_)
    · refine hk M29 s (Or.inl ?_)
      rcases h29 with q | q
      · omega
      · exact ⟨q.2.1, q.2.2, rfl⟩
    · have hok : fpOk M M29 ∧ FPI M (M 85 0 - 1).toNat M29 := by rcases h29 with q | q; exact q.2; omega
      obtain ⟨Q, hq⟩ := prq_of hw hok.1 hok.2
      have hfr : FR M M29 := hok.2.1.1
      have hw1 := hfr.wm hw
      have hc1 := hfr.chk hc
      have e23 : M29 84 23 = M 84 23 := hok.2.1.2 23 (by decide) (by decide)
      have e24 : M29 84 24 = M 84 24 := hok.2.1.2 24 (by decide) (by decide)
      have mb := most_bd hw1 hc1 hq
      refine a_aload_n (z := 84) A dX5_findMost_35 rfl ?_
      refine m_invVv A (c_X5_findWorth G _ M29 Q hw1 hc1 hq) (by decide) mi_X5_findWorth mv_X5_findWorth cs_X5_119 cf5 dX5_findMost_36 rfl (by decide) rfl rfl (Nat.le_of_ble_eq_true rfl) (fun M36 h36 => ?_)
      obtain ⟨u, hu⟩ : ∃ u, u = nU (sumZ (wT M29 Q) (M29 86 0).toNat) (2520 * Q) := ⟨_, rfl⟩
      obtain ⟨d, hd⟩ : ∃ d, d = nD (sumZ (wT M29 Q) (M29 86 0).toNat) (2520 * Q) := ⟨_, rfl⟩
      rw [← hu, ← hd] at h36 mb
      have h36 := h36.symm
      subst h36
      refine a_iload_n (z := s) A dX5_findMost_39 rfl ?_
      refine a_if_eq (tgt := 65) A dX5_findMost_40 (by decide) (by omega) (fun h40 => ?_) (fun h40 => ?_)
      · refine a_aload_n (z := 84) A dX5_findMost_65 rfl ?_
        refine a_aload_n (z := 84) A dX5_findMost_66 rfl ?_
        refine gf_X5_104 (x := u) A dX5_findMost_67 rfl (by decide) rfl ?_
        refine pf_X5_122 A dX5_findMost_70 rfl (by decide) ?_
        refine a_aload_n (z := 84) A dX5_findMost_73 rfl ?_
        refine a_aload_n (z := 84) A dX5_findMost_74 rfl ?_
        refine gf_X5_108 (x := d) A dX5_findMost_75 rfl (by decide) rfl ?_
        refine pf_X5_125 A dX5_findMost_78 rfl (by decide) ?_
        refine a_iconst A dX5_findMost_81 ?_
        refine a_istore_n (lv' := [.ref 84, vi 1, vi 1]) A dX5_findMost_82 (by decide) rfl ?_
        refine hk _ 1 (Or.inr ⟨M29, Q, u, d, hok.1, hok.2, hq, hu, hd, Or.inl ⟨?_, rfl, rfl⟩⟩)
        first | exact Or.inl (by omega) | exact Or.inr (by rcases hc59 with c | c; exact c.2; omega)
      · refine a_aload_n (z := 84) A dX5_findMost_43 rfl ?_
        refine gf_X5_104 (x := ((u.toNat : Nat) : Int)) A dX5_findMost_44 rfl (by decide) (show u = ((u.toNat : Nat) : Int) by omega) ?_
        refine a_aload_n (z := 84) A dX5_findMost_47 rfl ?_
        refine gf_X5_108 (x := ((d.toNat : Nat) : Int)) A dX5_findMost_48 rfl (by decide) (show d = ((d.toNat : Nat) : Int) by omega) ?_
        refine a_aload_n (z := 84) A dX5_findMost_51 rfl ?_
        refine gf_X5_122 (x := (((M 84 23).toNat : Nat) : Int)) A dX5_findMost_52 rfl (by decide) (show M29 84 23 = (((M 84 23).toNat : Nat) : Int) by rw [e23]; omega) ?_
        refine a_aload_n (z := 84) A dX5_findMost_55 rfl ?_
        refine gf_X5_125 (x := (((M 84 24).toNat : Nat) : Int)) A dX5_findMost_56 rfl (by decide) (show M29 84 24 = (((M 84 24).toNat : Nat) : Int) by rw [e24]; omega) ?_
        refine m_invSi A (c_X5_isLess G _ u.toNat d.toNat (M 84 23).toNat (M 84 24).toNat (w2 M29 u d) (by omega) (by omega) (by omega) (by omega)) (by decide) mi_X5_isLess ms_X5_isLess cs_X5_128 dX5_findMost_59 rfl rfl (Nat.le_of_ble_eq_true rfl) (fun z59 M59 h59 => ?_)
        obtain ⟨e59, hc59⟩ := h59
        have e59 := e59.symm
        subst e59
        have hl59 : (u.toNat * (M 84 24).toNat < (M 84 23).toNat * d.toNat) ↔ u * M 84 24 < M 84 23 * d := by
          have x1 : ((u.toNat * (M 84 24).toNat : Nat) : Int) = u * M 84 24 := by push_cast; rw [Int.toNat_of_nonneg (by omega), Int.toNat_of_nonneg (by omega)]
          have x2 : (((M 84 23).toNat * d.toNat : Nat) : Int) = M 84 23 * d := by push_cast; rw [Int.toNat_of_nonneg (by omega), Int.toNat_of_nonneg (by omega)]
          rw [← x1, ← x2]
          exact Int.ofNat_lt.symm
        rw [hl59] at hc59
        have hz59 : z59 = 0 ∨ z59 = 1 := by omega
        refine a_if_eq (tgt := 83) A dX5_findMost_62 (by decide) (by omega) (fun h62 => ?_) (fun h62 => ?_)
        · refine hk _ s (Or.inr ⟨M29, Q, u, d, hok.1, hok.2, hq, hu, hd, Or.inr ⟨by omega, ?_, rfl, rfl⟩⟩)
          rcases hc59 with c | c
          · omega
          · exact c.2
        · refine a_aload_n (z := 84) A dX5_findMost_65 rfl ?_
          refine a_aload_n (z := 84) A dX5_findMost_66 rfl ?_
          refine gf_X5_104 (x := u) A dX5_findMost_67 rfl (by decide) rfl ?_
          refine pf_X5_122 A dX5_findMost_70 rfl (by decide) ?_
          refine a_aload_n (z := 84) A dX5_findMost_73 rfl ?_
          refine a_aload_n (z := 84) A dX5_findMost_74 rfl ?_
          refine gf_X5_108 (x := d) A dX5_findMost_75 rfl (by decide) rfl ?_
          refine pf_X5_125 A dX5_findMost_78 rfl (by decide) ?_
          refine a_iconst A dX5_findMost_81 ?_
          refine a_istore_n (lv' := [.ref 84, vi 1, vi 1]) A dX5_findMost_82 (by decide) rfl ?_
          refine hk _ 1 (Or.inr ⟨M29, Q, u, d, hok.1, hok.2, hq, hu, hd, Or.inl ⟨?_, rfl, rfl⟩⟩)
          first | exact Or.inl (by omega) | exact Or.inr (by rcases hc59 with c | c; exact c.2; omega)
theorem fm_loop5 {G : GG} {E : EE} {P : MM → Prop} (A : AmM G E cX5_findMost 3 yX5_findMost.cls 4) (T0 : RT E G yX5_findMost 108 0 0 none (fun r rf' M' => rf' = rF ∧ r = none ∧ P M')) (J : MM → Int → Prop) (mu : MM → Nat)
    (hJ : ∀ M s, J M s → WM M ∧ CHK M ∧ (s = 0 ∨ s = 1) ∧ (s = 1 → (0 ≤ M 84 23 ∧ M 84 23 ≤ 1034079431760000) ∧ (0 < M 84 24 ∧ M 84 24 ≤ 12380760)))
    (hS : ∀ M s M' s', J M s → STA M s M' s' → ∀ (z : Int) (M2 : MM), (z, M2) = ncR ((M' 85 0).toNat - 2) 1 M' → (z = 0 → P M2) ∧ (z = 1 → J M2 s' ∧ mu M2 < mu M)) : ∀ (n : Nat) (M : MM) (s : Int), mu M < n → J M s → AM G E 3 24 [.ref 84, vi s, vi 1] [] M := by
  intro n
  induction n with
  | zero => intro M s h; exfalso; omega
  | succ n ih =>
    intro M s hn h
    obtain ⟨hw, hc, hs, hb⟩ := hJ M s h
    refine fm_body5 A M s hw hc hs hb (fun M' s' hst => ?_)
    have hfr := hst.fr
    refine fm_tail5 A T0 M' s' (hfr.wm hw) (hfr.chk hc) (fun z M2 hz => ?_)
    have h2 := hS M s M' s' h hst z M2 hz
    exact ⟨h2.1, fun q => ih M2 s' (by have := (h2.2 q).2; omega) (h2.2 q).1⟩
