theorem lt_s1 {p : Nat → Prop} {i : Nat} (h : ∀ v, 1 ≤ v → v < i → p v) (hi : p i) : ∀ v, 1 ≤ v → v < i + 1 → p v := fun v h1 h2 => by
  rcases Nat.lt_or_ge v i with q | q
  · exact h v h1 q
  · rw [show v = i by omega]; exact hi
def fpL : Nat → Nat → MM → Option MM
  | 0, _, M => some M
  | c + 1, v, M => match fpS M v with
    | none => none
    | some M1 => fpL c (v + 1) M1
def fpRd (la : Nat) : Nat → MM → Option MM
  | 0, M => some M
  | r + 1, M => match fpL (la - 1) 1 M with
    | none => none
    | some M1 => fpRd la r M1
def piK (M : MM) (la : Int) (i : Nat) : MM := fun c => if c = 103 then (fun v => if v < i then (if (v : Int) = la then 1 else 0) else M 103 v) else if c = 104 then (fun v => if v < i then (if (v : Int) = la ∨ v = 0 ∨ M 102 v = -1 then 1 else 0) else M 104 v) else M c
theorem piK_0 (M : MM) (la : Int) : piK M la 0 = M := by
  funext c k
  unfold piK
  split
  · rename_i h; simp [h]
  · split
    · rename_i h; simp [h]
    · rfl
theorem piK_succ (M : MM) (la : Int) (i : Nat) {x y : Int} (hx : x = if (i : Int) = la then 1 else 0) (hy : y = if (i : Int) = la ∨ i = 0 ∨ M 102 i = -1 then 1 else 0) : up2 (up2 (piK M la i) 103 i x) 104 i y = piK M la (i + 1) := by
  subst hx; subst hy
  funext c k
  by_cases h1 : c = 103
  · subst h1
    simp only [up2, piK]
    by_cases hk : k = i
    · subst hk; simp
    · by_cases h2 : k < i
      · simp [hk, h2, Nat.lt_succ_of_lt h2]
      · simp [hk, h2, show ¬ k < i + 1 by omega]
  · by_cases h2 : c = 104
    · subst h2
      simp only [up2, piK]
      by_cases hk : k = i
      · subst hk; simp
      · by_cases h2 : k < i
        · simp [hk, h2, Nat.lt_succ_of_lt h2]
        · simp [hk, h2, show ¬ k < i + 1 by omega]
    · simp [up2, piK, h1, h2]
/-- what the search for prices leaves as it was -/
def FQ (M0 M : MM) : Prop := (∀ c, c ≠ 84 → c ≠ 103 → c ≠ 104 → M c = M0 c) ∧ ∀ j, j ≠ 15 → j ≠ 16 → M 84 j = M0 84 j
theorem FQ.rf (M : MM) : FQ M M := ⟨fun _ _ _ _ => rfl, fun _ _ _ => rfl⟩
theorem FQ.at {M0 M : MM} (h : FQ M0 M) {c : Nat} (h1 : c ≠ 84) (h2 : c ≠ 103) (h3 : c ≠ 104) (j : Nat) : M c j = M0 c j := by rw [h.1 c h1 h2 h3]
theorem FQ.tr {M0 M1 M : MM} (h : FQ M0 M1) (h' : FQ M1 M) : FQ M0 M := ⟨fun c h1 h2 h3 => (h'.1 c h1 h2 h3).trans (h.1 c h1 h2 h3), fun j h1 h2 => (h'.2 j h1 h2).trans (h.2 j h1 h2)⟩
theorem FQ.pik (M : MM) (la : Int) (i : Nat) : FQ M (piK M la i) := ⟨fun c _ h2 h3 => by unfold piK; rw [if_neg h2, if_neg h3], fun j _ _ => rfl⟩
theorem FQ.fpp {M0 M : MM} (h : FQ M0 M) (v : Nat) (a b : Int) : FQ M0 (fpP M v a b) := by
  refine ⟨fun c h1 h2 h3 => ?_, fun j h1 h2 => ?_⟩
  · show up2 _ 104 v _ c = _
    rw [up2_ne _ _ _ _ h3, up2_ne _ _ _ _ h2, up2_ne _ _ _ _ h1, up2_ne _ _ _ _ h1]
    exact h.1 c h1 h2 h3
  · show up2 _ 104 v _ 84 j = _
    rw [up2_ne _ _ _ _ (by decide), up2_ne _ _ _ _ (by decide), up2_in, if_neg h2, up2_in, if_neg h1]
    exact h.2 j h1 h2
def zc1 (la : Nat) (M : MM) (i : Nat) : Nat := if i < la ∧ M 104 i = 0 then 1 else 0
def zc (la : Nat) (M : MM) : Nat := zc1 la M 1 + zc1 la M 2 + zc1 la M 3
def bdZ : Nat → Int
  | 0 => 4913
  | 1 => 289
  | 2 => 17
  | _ => 1
/-- the choice of lanes at the posts, the shares that are reckoned with -/
def CHK (M : MM) : Prop := (∀ v : Nat, 1 ≤ v → (v : Int) < M 85 0 - 1 → M 102 v = -1 ∨ (0 ≤ M 102 v ∧ M 102 v < M 86 0)) ∧ ∀ k : Nat, (k : Int) < M 86 0 → 0 ≤ M 99 k ∧ M 99 k ≤ 17 ∧ 1 ≤ M 100 k ∧ M 100 k ≤ 9 ∧ 0 ≤ M 101 k ∧ M 101 k ≤ 100
def FPI (M0 : MM) (la : Nat) (M : MM) : Prop := FQ M0 M ∧ (∀ x : Nat, x ≤ la → 0 ≤ M 103 x ∧ M 103 x ≤ bdZ (zc la M) ∧ 0 ≤ M 104 x ∧ M 104 x ≤ bdZ (zc la M)) ∧ (∀ v : Nat, 1 ≤ v → v < la → M 104 v = 0 → M0 102 v ≠ -1) ∧ ∃ Q : Int, 1 ≤ Q ∧ Q ≤ bdZ (zc la M) ∧ ∀ x : Nat, x ≤ la → M 104 x ≠ 0 → M 104 x ∣ Q
def FPE (la : Nat) (M : MM) : Prop := M 103 0 = 0 ∧ M 104 0 = 1 ∧ M 103 la = 1 ∧ M 104 la = 1
theorem bdZ_le (z : Nat) : 1 ≤ bdZ z ∧ bdZ z ≤ 4913 := by
  match z with
  | 0 => decide
  | 1 => decide
  | 2 => decide
  | z + 3 => exact ⟨Int.le_refl _, by show (1 : Int) ≤ 4913; decide⟩
theorem bdZ_pred {z : Nat} (h : 1 ≤ z) (h3 : z ≤ 3) : bdZ (z - 1) = 17 * bdZ z := by
  match z, h, h3 with
  | 1, _, _ => decide
  | 2, _, _ => decide
  | 3, _, _ => decide
theorem zc_dec {la : Nat} {M M1 : MM} {v : Nat} (hv : 1 ≤ v ∧ v < la) (hla : la ≤ 4) (h0 : M 104 v = 0) (h1 : M1 104 v ≠ 0) (ho : ∀ x, x ≠ v → M1 104 x = M 104 x) : 1 ≤ zc la M ∧ zc la M ≤ 3 ∧ zc la M1 = zc la M - 1 := by
  have hv3 : v = 1 ∨ v = 2 ∨ v = 3 := by omega
  have e : ∀ i, i ≠ v → zc1 la M1 i = zc1 la M i := fun i hi => by unfold zc1; rw [ho i hi]
  have e0 : zc1 la M v = 1 := by unfold zc1; rw [if_pos ⟨hv.2, h0⟩]
  have e1 : zc1 la M1 v = 0 := by unfold zc1; rw [if_neg (fun q => h1 q.2)]
  have b : ∀ i, zc1 la M i ≤ 1 := fun i => by unfold zc1; split <;> omega
  have b1 := b 1
  have b2 := b 2
  have b3 := b 3
  unfold zc
  rcases hv3 with rfl | rfl | rfl
  · rw [e0, e1, e 2 (by decide), e 3 (by decide)]; omega
  · rw [e0, e1, e 1 (by decide), e 3 (by decide)]; omega
  · rw [e0, e1, e 1 (by decide), e 2 (by decide)]; omega
theorem fpS_keep {M0 M M1 : MM} {la v : Nat} (hw : WM M0) (hla : (la : Int) = M0 85 0 - 1) (hc : CHK M0) (h : FPI M0 la M) (hv : 1 ≤ v ∧ v < la) (he : fpS M v = some M1) : FPI M0 la M1 := by
  have hP := hw.1
  have hsame : some M = some M1 → FPI M0 la M1 := fun q => by cases q; exact h
  unfold fpS at he
  split at he
  · exact hsame he
  · rename_i h0
    have hdv := h.2.1 v (by omega)
    have hz : M 104 v = 0 := by omega
    have e102 := h.1.at (c := 102) (by decide) (by decide) (by decide) v
    have e86 := h.1.at (c := 86) (by decide) (by decide) (by decide) 0
    have hcv := h.2.2.1 v hv.1 hv.2 hz
    have hk := hc.1 v hv.1 (by omega)
    have hk2 : 0 ≤ M 102 v ∧ M 102 v < M0 86 0 := by rw [e102]; omega
    have hlw := hw.2.2 (M 102 v).toNat (by omega)
    have hch := hc.2 (M 102 v).toNat (by omega)
    unfold LW at hlw
    rw [← h.1.at (c := 87) (by decide) (by decide) (by decide), ← h.1.at (c := 88) (by decide) (by decide) (by decide)] at hlw
    rw [← h.1.at (c := 99) (by decide) (by decide) (by decide), ← h.1.at (c := 100) (by decide) (by decide) (by decide)] at hch
    have hot : 0 ≤ otr M v (M 102 v).toNat ∧ otr M v (M 102 v).toNat ≤ la := by unfold otr; split <;> omega
    have hpo := h.2.1 (otr M v (M 102 v).toNat).toNat (by omega)
    split at he
    · exact hsame he
    · rename_i hne
      have key : ∀ (s s' : Int), 0 ≤ s ∧ s ≤ 17 → 1 ≤ s' ∧ s' ≤ 17 → FPI M0 la (fpP M v (M 103 (otr M v (M 102 v).toNat).toNat * s) (M 104 (otr M v (M 102 v).toNat).toNat * s')) := by
        intro s s' hs hs'
        have ma := mul_bd (a := M 103 (otr M v (M 102 v).toNat).toNat) (b := s) (A := bdZ (zc la M)) (B := 17) ⟨hpo.1, hpo.2.1⟩ hs
        have mb := mul_bd (a := M 104 (otr M v (M 102 v).toNat).toNat) (b := s') (A := bdZ (zc la M)) (B := 17) ⟨hpo.2.2.1, hpo.2.2.2⟩ ⟨by omega, hs'.2⟩
        have mp : 0 < M 104 (otr M v (M 102 v).toNat).toNat * s' := Int.mul_pos (by omega) (by omega)
        generalize M 103 (otr M v (M 102 v).toNat).toNat * s = a at ma ⊢
        obtain ⟨Q, q1, q2, q3⟩ := h.2.2.2
        have hdv2 : M 104 (otr M v (M 102 v).toNat).toNat * s' ∣ Q * s' := Int.mul_dvd_mul (q3 _ (by omega) (by omega)) (Int.dvd_refl _)
        have hq1 := Int.mul_pos (a := Q) (b := s') (by omega) (by omega)
        have hq2 := mul_bd (a := Q) (b := s') (A := bdZ (zc la M)) (B := 17) ⟨by omega, q2⟩ ⟨by omega, hs'.2⟩
        generalize M 104 (otr M v (M 102 v).toNat).toNat * s' = b at mb mp hdv2 ⊢
        have hu := nU_bd ma.1 mp
        have hd := nD_bd (a := a) mp
        have e4v : fpP M v a b 104 v = nD a b := up2_self _ _ _ _
        have e4o : ∀ x, x ≠ v → fpP M v a b 104 x = M 104 x := fun x hx => by
          show up2 _ 104 v _ 104 x = _
          rw [up2_in, if_neg hx]
          rfl
        have e3v : fpP M v a b 103 v = nU a b := by
          show up2 _ 104 v _ 103 v = _
          rw [up2_ne _ _ _ _ (by decide), up2_self]
        have e3o : ∀ x, x ≠ v → fpP M v a b 103 x = M 103 x := fun x hx => by
          show up2 _ 104 v _ 103 x = _
          rw [up2_ne _ _ _ _ (by decide), up2_in, if_neg hx]
          rfl
        obtain ⟨z1, z2, z3⟩ := zc_dec hv (by omega) hz (by rw [e4v]; omega) e4o
        have hb := bdZ_pred z1 z2
        have hb1 := bdZ_le (zc la M)
        refine ⟨h.1.fpp v a b, fun x hx => ?_, fun u hu1 hu2 hu3 => ?_, Q * s', by omega, by rw [z3, hb]; omega, fun x hx hx0 => ?_⟩
        · rw [z3, hb]
          by_cases hxv : x = v
          · subst hxv
            rw [e3v, e4v]
            omega
          · rw [e3o x hxv, e4o x hxv]
            have := h.2.1 x hx
            omega
        · by_cases huv : u = v
          · subst huv; rw [e4v] at hu3; omega
          · rw [e4o u huv] at hu3; exact h.2.2.1 u hu1 hu2 hu3
        · by_cases hxv : x = v
          · subst hxv
            rw [e4v]
            exact Int.dvd_trans (nD_dvd mp) hdv2
          · rw [e4o x hxv] at hx0 ⊢
            exact Int.dvd_trans (q3 x hx hx0) (Int.dvd_mul_right _ _)
      split at he
      · cases he
        exact key _ _ (by omega) (by omega)
      · split at he
        · cases he
        · cases he
          exact key _ _ (by omega) (by omega)
theorem fpS_ends {M M1 : MM} {la v : Nat} (hv : 1 ≤ v ∧ v < la) (he : fpS M v = some M1) (h : FPE la M) : FPE la M1 := by
  have hsame : some M = some M1 → FPE la M1 := fun q => by cases q; exact h
  have key : ∀ a b : Int, FPE la (fpP M v a b) := by
    intro a b
    have e4o : ∀ x, x ≠ v → fpP M v a b 104 x = M 104 x := fun x hx => by
      show up2 _ 104 v _ 104 x = _
      rw [up2_in, if_neg hx]
      rfl
    have e3o : ∀ x, x ≠ v → fpP M v a b 103 x = M 103 x := fun x hx => by
      show up2 _ 104 v _ 103 x = _
      rw [up2_ne _ _ _ _ (by decide), up2_in, if_neg hx]
      rfl
    unfold FPE
    rw [e3o 0 (by omega), e4o 0 (by omega), e3o la (by omega), e4o la (by omega)]
    exact h
  unfold fpS at he
  split at he
  · exact hsame he
  · split at he
    · exact hsame he
    · split at he
      · cases he; exact key _ _
      · split at he
        · cases he
        · cases he; exact key _ _
theorem fpL_ends {la : Nat} : ∀ (c v : Nat) (M M1 : MM), 1 ≤ v → v + c = la → fpL c v M = some M1 → FPE la M → FPE la M1 := by
  intro c
  induction c with
  | zero => intro v M M1 _ _ he h; cases he; exact h
  | succ c ih =>
    intro v M M1 hv hc' he h
    unfold fpL at he
    split at he
    · cases he
    · rename_i M2 h2
      exact ih (v + 1) M2 M1 (by omega) (by omega) he (fpS_ends ⟨hv, by omega⟩ h2 h)
theorem fpRd_ends {la : Nat} (hla : 1 ≤ la) : ∀ (r : Nat) (M M1 : MM), fpRd la r M = some M1 → FPE la M → FPE la M1 := by
  intro r
  induction r with
  | zero => intro M M1 he h; cases he; exact h
  | succ r ih =>
    intro M M1 he h
    unfold fpRd at he
    split at he
    · cases he
    · rename_i M2 h2
      exact ih M2 M1 he (fpL_ends (la - 1) 1 M M2 (by omega) (by omega) h2 h)
theorem fpL_keep {M0 : MM} {la : Nat} (hw : WM M0) (hla : (la : Int) = M0 85 0 - 1) (hc : CHK M0) : ∀ (c v : Nat) (M M1 : MM), 1 ≤ v → v + c = la → FPI M0 la M → fpL c v M = some M1 → FPI M0 la M1 := by
  intro c
  induction c with
  | zero => intro v M M1 _ _ h he; cases he; exact h
  | succ c ih =>
    intro v M M1 hv hc' h he
    unfold fpL at he
    split at he
    · cases he
    · rename_i M2 h2
      exact ih (v + 1) M2 M1 (by omega) (by omega) (fpS_keep hw hla hc h ⟨hv, by omega⟩ h2) he
theorem fpRd_keep {M0 : MM} {la : Nat} (hw : WM M0) (hla : (la : Int) = M0 85 0 - 1) (hc : CHK M0) : ∀ (r : Nat) (M M1 : MM), FPI M0 la M → fpRd la r M = some M1 → FPI M0 la M1 := by
  intro r
  induction r with
  | zero => intro M M1 h he; cases he; exact h
  | succ r ih =>
    intro M M1 h he
    unfold fpRd at he
    split at he
    · cases he
    · rename_i M2 h2
      have hP := hw.1
      exact ih M2 M1 (fpL_keep hw hla hc (la - 1) 1 M M2 (by omega) (by omega) h h2) he
def fpA (M : MM) : Option MM := fpRd (M 85 0 - 1).toNat 3 (piK M (M 85 0 - 1) (M 85 0).toNat)
theorem piK_ends {M : MM} {la : Nat} (h : 1 ≤ la) : FPE la (piK M la (la + 1)) := by
  refine ⟨?_, ?_, ?_, ?_⟩
  · show (if 0 < la + 1 then (if ((0 : Nat) : Int) = la then (1 : Int) else 0) else M 103 0) = 0
    rw [if_pos (by omega), if_neg (by omega)]
  · show (if 0 < la + 1 then (if ((0 : Nat) : Int) = la ∨ 0 = 0 ∨ M 102 0 = -1 then (1 : Int) else 0) else M 104 0) = 1
    rw [if_pos (by omega), if_pos (Or.inr (Or.inl rfl))]
  · show (if la < la + 1 then (if (la : Int) = la then (1 : Int) else 0) else M 103 la) = 1
    rw [if_pos (by omega), if_pos rfl]
  · show (if la < la + 1 then (if (la : Int) = la ∨ la = 0 ∨ M 102 la = -1 then (1 : Int) else 0) else M 104 la) = 1
    rw [if_pos (by omega), if_pos (Or.inl rfl)]
def fpOk (M M1 : MM) : Prop := fpA M = some M1 ∧ ∀ v : Nat, 1 ≤ v → (v : Int) < M 85 0 - 1 → M1 104 v ≠ 0
set_option maxRecDepth 100000 in
set_option maxHeartbeats 4000000 in
theorem fp_chk5 {G : GG} {E : EE} {P : Int → MM → Prop} (A : AmM G E cX5_findPrices 6 yX5_findPrices.cls 3) (T0 : RT E G yX5_findPrices 108 0 0 (some .boolean) (fun r rf' M' => rf' = rF ∧ ∃ z, r = some (vi z) ∧ P z M')) (M0 : MM) (la : Nat) (hw : WM M0) (hla : (la : Int) = M0 85 0 - 1) (hc : CHK M0) (M : MM) (hI : FPI M0 la M) (w3 w4 w5 : Value) (hp1 : (∀ v : Nat, 1 ≤ v → v < la → M 104 v ≠ 0) → P 1 M) (hp0 : (∃ v : Nat, 1 ≤ v ∧ v < la ∧ M 104 v = 0) → P 0 M) : ∀ (n : Nat) (i : Nat), la - i < n → 1 ≤ i → i ≤ la → (∀ v : Nat, 1 ≤ v → v < i → M 104 v ≠ 0) → AM G E 6 281 [.ref 84, vi (la : Int), vi (i : Int), w3, w4, w5] [] M := by
  intro n
  induction n with
  | zero => intro i hn h1 hi hq; exfalso; omega
  | succ n ih =>
    intro i hn h1 hi hq
    have hP := hw.1
    have hb := hI.2.1 i (by omega)
    have hb2 := bdZ_le (zc la M)
    refine a_iload_n (z := (i : Int)) A dX5_findPrices_281 rfl ?_
    refine a_iload_n (z := (la : Int)) A dX5_findPrices_282 rfl ?_
    refine a_icmp_ge (tgt := 305) A dX5_findPrices_283 (by decide) (by omega) (by omega) (fun h283 => ?_) (fun h283 => ?_)
    · refine a_iconst A dX5_findPrices_305 ?_
      exact m_zreturn A T0 dX5_findPrices_306 (by first | exact Or.inl rfl | exact Or.inr rfl | omega) (hp1 (fun v h2 h3 => hq v h2 (by omega)))
    · refine a_aload_n (z := 84) A dX5_findPrices_286 rfl ?_
      refine gf_X5_68 (r := 104) A dX5_findPrices_287 rfl (by decide) rfl ?_
      refine a_iload_n (z := (i : Int)) A dX5_findPrices_290 rfl ?_
      refine a_laload (i := (i : Int)) (x := M 104 i) A dX5_findPrices_291 rfl (by decide) (by decide) (by omega) rfl ?_
      refine a_lconst0 A dX5_findPrices_292 ?_
      refine a_lcmp_ne (tgt := 299) A dX5_findPrices_293 dX5_findPrices_294 (by decide) (by omega) (by omega) (fun h293 => ?_) (fun h293 => ?_)
      · refine a_iinc (z := (i : Int)) (lv' := [.ref 84, vi (la : Int), vi ((i : Int) + 1), w3, w4, w5]) A dX5_findPrices_299 rfl (by decide) rfl ?_
        refine a_goto (tgt := 281) A dX5_findPrices_302 (by decide) ?_
        exact ih (i + 1) (by omega) (by omega) (by omega) (lt_s1 hq h293)
      · refine a_iconst A dX5_findPrices_297 ?_
        exact m_zreturn A T0 dX5_findPrices_298 (by first | exact Or.inl rfl | exact Or.inr rfl | omega) (hp0 ⟨i, h1, by omega, h293⟩)
set_option maxRecDepth 100000 in
set_option maxHeartbeats 4000000 in
theorem fp_in5 {G : GG} {E : EE} {P : Int → MM → Prop} (A : AmM G E cX5_findPrices 6 yX5_findPrices.cls 3) (T0 : RT E G yX5_findPrices 108 0 0 (some .boolean) (fun r rf' M' => rf' = rF ∧ ∃ z, r = some (vi z) ∧ P z M')) (M0 : MM) (la : Nat) (hw : WM M0) (hla : (la : Int) = M0 85 0 - 1) (hc : CHK M0) (rd : Int) : ∀ (n : Nat) (v : Nat) (M : MM) (w4 w5 : Value), la - v < n → 1 ≤ v → v ≤ la → FPI M0 la M → (∀ M1, fpL (la - v) v M = some M1 → FPI M0 la M1 → ∀ w4 w5 : Value, AM G E 6 273 [.ref 84, vi (la : Int), vi rd, vi (la : Int), w4, w5] [] M1) → (fpL (la - v) v M = none → ∀ M', FQ M0 M' → P 0 M') → AM G E 6 77 [.ref 84, vi (la : Int), vi rd, vi (v : Int), w4, w5] [] M := by
  intro n
  induction n with
  | zero => intro v M w4 w5 hn h1 hv hI hs hf; exfalso; omega
  | succ n ih =>
    intro v M w4 w5 hn h1 hv hI hs hf
    have hP := hw.1
    refine a_iload_n (z := (v : Int)) A dX5_findPrices_77 rfl ?_
    refine a_iload_n (z := (la : Int)) A dX5_findPrices_78 rfl ?_
    refine a_icmp_ge (tgt := 273) A dX5_findPrices_79 (by decide) (by omega) (by omega) (fun h79 => ?_) (fun h79 => ?_)
    · have e : la - v = 0 := by omega
      have ev : (v : Int) = (la : Int) := by omega
      rw [e] at hs
      rw [ev]
      exact hs M rfl hI _ _
    · have e : la - v = (la - (v + 1)) + 1 := by omega
      rw [e] at hs hf
      have hb := hI.2.1
      have hb2 := bdZ_le (zc la M)
      have e102 := hI.1.at (c := 102) (by decide) (by decide) (by decide) v
      have e86 := hI.1.at (c := 86) (by decide) (by decide) (by decide) 0
      have hk2 : M 104 v = 0 → 0 ≤ M 102 v ∧ M 102 v < M0 86 0 := fun q => by have := hI.2.2.1 v h1 (by omega) q; have := hc.1 v h1 (by omega); rw [e102]; omega
      refine fp_step5 A T0 M v la rd ⟨h1, by omega⟩ (by omega) (by have := hb v hv; omega) (by have := hw.2.1; omega) (fun q => by have := hk2 q; omega) (fun q => ?_) (fun q => ?_) (fun x hx => by have := hb x (by omega); omega) (fun M1 hM1 w4 w5 => ?_) (fun hM1 => hf (by unfold fpL; rw [hM1]) M hI.1) _ _
      · have hlw := hw.2.2 (M 102 v).toNat (by have := hk2 q; omega)
        unfold LW at hlw
        rw [← hI.1.at (c := 87) (by decide) (by decide) (by decide), ← hI.1.at (c := 88) (by decide) (by decide) (by decide)] at hlw
        omega
      · have hch := hc.2 (M 102 v).toNat (by have := hk2 q; omega)
        rw [← hI.1.at (c := 99) (by decide) (by decide) (by decide), ← hI.1.at (c := 100) (by decide) (by decide) (by decide)] at hch
        omega
      · have hI1 := fpS_keep hw hla hc hI ⟨h1, by omega⟩ hM1
        refine a_iinc (z := (v : Int)) (lv' := [.ref 84, vi (la : Int), vi rd, vi ((v : Int) + 1), w4, w5]) A dX5_findPrices_267 rfl (by decide) rfl ?_
        refine a_goto (tgt := 77) A dX5_findPrices_270 (by decide) ?_
        exact ih (v + 1) M1 _ _ (by omega) (by omega) (by omega) hI1 (fun M2 h2 => hs M2 (by unfold fpL; rw [hM1]; exact h2)) (fun h2 => hf (by unfold fpL; rw [hM1]; exact h2))
set_option maxRecDepth 100000 in
set_option maxHeartbeats 4000000 in
theorem fp_rd5 {G : GG} {E : EE} {P : Int → MM → Prop} (A : AmM G E cX5_findPrices 6 yX5_findPrices.cls 3) (T0 : RT E G yX5_findPrices 108 0 0 (some .boolean) (fun r rf' M' => rf' = rF ∧ ∃ z, r = some (vi z) ∧ P z M')) (M0 : MM) (la : Nat) (hw : WM M0) (hla : (la : Int) = M0 85 0 - 1) (hc : CHK M0) : ∀ (n : Nat) (i : Nat) (M : MM) (w3 w4 w5 : Value), 3 - i < n → i ≤ 3 → FPI M0 la M → (∀ M1, fpRd la (3 - i) M = some M1 → FPI M0 la M1 → ((∀ v : Nat, 1 ≤ v → v < la → M1 104 v ≠ 0) → P 1 M1) ∧ ((∃ v : Nat, 1 ≤ v ∧ v < la ∧ M1 104 v = 0) → P 0 M1)) → (fpRd la (3 - i) M = none → ∀ M', FQ M0 M' → P 0 M') → AM G E 6 70 [.ref 84, vi (la : Int), vi (i : Int), w3, w4, w5] [] M := by
  intro n
  induction n with
  | zero => intro i M w3 w4 w5 hn hi hI hs hf; exfalso; omega
  | succ n ih =>
    intro i M w3 w4 w5 hn hi hI hs hf
    have hP := hw.1
    refine a_iload_n (z := (i : Int)) A dX5_findPrices_70 rfl ?_
    refine a_iconst A dX5_findPrices_71 ?_
    refine a_icmp_ge (tgt := 279) A dX5_findPrices_72 (by decide) (by omega) (by omega) (fun h72 => ?_) (fun h72 => ?_)
    · refine a_iconst A dX5_findPrices_279 ?_
      refine a_istore_n (lv' := [.ref 84, vi (la : Int), vi 1, w3, w4, w5]) A dX5_findPrices_280 (by decide) rfl ?_
      have e : 3 - i = 0 := by omega
      rw [e] at hs
      have h2 := hs M rfl hI
      exact fp_chk5 A T0 M0 la hw hla hc M hI _ _ _ h2.1 h2.2 5 1 (by omega) (by omega) (by omega) (fun v a b => by omega)
    · refine a_iconst A dX5_findPrices_75 ?_
      refine a_istore_n (lv' := [.ref 84, vi (la : Int), vi (i : Int), vi 1, w4, w5]) A dX5_findPrices_76 (by decide) rfl ?_
      have e : 3 - i = (3 - (i + 1)) + 1 := by omega
      rw [e] at hs hf
      refine fp_in5 A T0 M0 la hw hla hc (i : Int) 5 1 M _ _ (by omega) (by omega) (by omega) hI (fun M1 hM1 hI1 w4 w5 => ?_) (fun hM1 => hf (by unfold fpRd; rw [hM1]))
      refine a_iinc (z := (i : Int)) (lv' := [.ref 84, vi (la : Int), vi ((i : Int) + 1), vi (la : Int), w4, w5]) A dX5_findPrices_273 rfl (by decide) rfl ?_
      refine a_goto (tgt := 70) A dX5_findPrices_276 (by decide) ?_
      exact ih (i + 1) M1 _ _ _ (by omega) (by omega) hI1 (fun M2 h2 => hs M2 (by unfold fpRd; rw [hM1]; exact h2)) (fun h2 => hf (by unfold fpRd; rw [hM1]; exact h2))
set_option maxRecDepth 100000 in
set_option maxHeartbeats 4000000 in
theorem fp_pi5 {G : GG} {E : EE}  (A : AmM G E cX5_findPrices 6 yX5_findPrices.cls 3)  (M : MM) (la : Nat) (hla : la ≤ 4) (hcr : ∀ v : Nat, 1 ≤ v → v < la → I32 (M 102 v)) (kk : AM G E 6 68 [.ref 84, vi (la : Int), vi ((la : Int) + 1), jk, jk, jk] [] (piK M la (la + 1))) : ∀ (n : Nat) (i : Nat), la + 1 - i < n → i ≤ la + 1 → AM G E 6 11 [.ref 84, vi (la : Int), vi (i : Int), jk, jk, jk] [] (piK M la i) := by
  intro n
  induction n with
  | zero => intro i hn hi; exfalso; omega
  | succ n ih =>
    intro i hn hi
    have hc0 : i ≠ 0 → i < la → I32 (M 102 i) := fun a b => hcr i (by omega) b
    refine a_iload_n (z := (i : Int)) A dX5_findPrices_11 rfl ?_
    refine a_iload_n (z := (la : Int)) A dX5_findPrices_12 rfl ?_
    refine a_icmp_gt (tgt := 68) A dX5_findPrices_13 (by decide) (by omega) (by omega) (fun h13 => ?_) (fun h13 => ?_)
    · have e : i = la + 1 := by omega
      subst e
      exact kk
    · refine a_aload_n (z := 84) A dX5_findPrices_16 rfl ?_
      refine gf_X5_65 (r := 103) A dX5_findPrices_17 rfl (by decide) rfl ?_
      refine a_iload_n (z := (i : Int)) A dX5_findPrices_20 rfl ?_
      refine a_iload_n (z := (i : Int)) A dX5_findPrices_21 rfl ?_
      refine a_iload_n (z := (la : Int)) A dX5_findPrices_22 rfl ?_
      refine a_icmp_ne (tgt := 30) A dX5_findPrices_23 (by decide) (by omega) (by omega) (fun h23 => ?_) (fun h23 => ?_)
      · refine a_lconst0 A dX5_findPrices_30 ?_
        refine a_lastore (i := (i : Int)) (j := i) A dX5_findPrices_31 rfl (by decide) (by decide) (by omega) rfl ?_
        refine a_aload_n (z := 84) A dX5_findPrices_32 rfl ?_
        refine gf_X5_68 (r := 104) A dX5_findPrices_33 rfl (by decide) rfl ?_
        refine a_iload_n (z := (i : Int)) A dX5_findPrices_36 rfl ?_
        refine a_iload_n (z := (i : Int)) A dX5_findPrices_37 rfl ?_
        refine a_iload_n (z := (la : Int)) A dX5_findPrices_38 rfl ?_
        refine a_icmp_eq (tgt := 56) A dX5_findPrices_39 (by decide) (by omega) (by omega) (fun h39 => ?_) (fun h39 => ?_)
        · refine a_lconst1 A dX5_findPrices_56 ?_
          refine a_goto (tgt := 61) A dX5_findPrices_57 (by decide) ?_
          refine a_lastore (i := (i : Int)) (j := i) A dX5_findPrices_61 rfl (by decide) (by decide) (by omega) rfl ?_
          refine a_iinc (z := (i : Int)) (lv' := [.ref 84, vi (la : Int), vi ((i : Int) + 1), jk, jk, jk]) A dX5_findPrices_62 rfl (by decide) rfl ?_
          refine a_goto (tgt := 11) A dX5_findPrices_65 (by decide) ?_
          rw [piK_succ M la i (by first | (exfalso; omega) | rw [if_pos (by omega)] | rw [if_neg (by omega)]) (by first | (exfalso; omega) | rw [if_pos (by omega)] | rw [if_neg (by omega)])]
          exact ih (i + 1) (by omega) (by omega)
        · refine a_iload_n (z := (i : Int)) A dX5_findPrices_42 rfl ?_
          refine a_if_eq (tgt := 56) A dX5_findPrices_43 (by decide) (by omega) (fun h43 => ?_) (fun h43 => ?_)
          · refine a_lconst1 A dX5_findPrices_56 ?_
            refine a_goto (tgt := 61) A dX5_findPrices_57 (by decide) ?_
            refine a_lastore (i := (i : Int)) (j := i) A dX5_findPrices_61 rfl (by decide) (by decide) (by omega) rfl ?_
            refine a_iinc (z := (i : Int)) (lv' := [.ref 84, vi (la : Int), vi ((i : Int) + 1), jk, jk, jk]) A dX5_findPrices_62 rfl (by decide) rfl ?_
            refine a_goto (tgt := 11) A dX5_findPrices_65 (by decide) ?_
            rw [piK_succ M la i (by first | (exfalso; omega) | rw [if_pos (by omega)] | rw [if_neg (by omega)]) (by first | (exfalso; omega) | rw [if_pos (by omega)] | rw [if_neg (by omega)])]
            exact ih (i + 1) (by omega) (by omega)
          · refine a_aload_n (z := 84) A dX5_findPrices_46 rfl ?_
            refine gf_X5_62 (r := 102) A dX5_findPrices_47 rfl (by decide) rfl ?_
            refine a_iload_n (z := (i : Int)) A dX5_findPrices_50 rfl ?_
            refine a_iaload (i := (i : Int)) (x := M 102 i) A dX5_findPrices_51 rfl (by decide) (by decide) (by omega) rfl ?_
            refine a_iconst A dX5_findPrices_52 ?_
            refine a_icmp_ne (tgt := 60) A dX5_findPrices_53 (by decide) (by omega) (by omega) (fun h53 => ?_) (fun h53 => ?_)
            · refine a_lconst0 A dX5_findPrices_60 ?_
              refine a_lastore (i := (i : Int)) (j := i) A dX5_findPrices_61 rfl (by decide) (by decide) (by omega) rfl ?_
              refine a_iinc (z := (i : Int)) (lv' := [.ref 84, vi (la : Int), vi ((i : Int) + 1), jk, jk, jk]) A dX5_findPrices_62 rfl (by decide) rfl ?_
              refine a_goto (tgt := 11) A dX5_findPrices_65 (by decide) ?_
              rw [piK_succ M la i (by first | (exfalso; omega) | rw [if_pos (by omega)] | rw [if_neg (by omega)]) (by first | (exfalso; omega) | rw [if_pos (by omega)] | rw [if_neg (by omega)])]
              exact ih (i + 1) (by omega) (by omega)
            · refine a_lconst1 A dX5_findPrices_56 ?_
              refine a_goto (tgt := 61) A dX5_findPrices_57 (by decide) ?_
              refine a_lastore (i := (i : Int)) (j := i) A dX5_findPrices_61 rfl (by decide) (by decide) (by omega) rfl ?_
              refine a_iinc (z := (i : Int)) (lv' := [.ref 84, vi (la : Int), vi ((i : Int) + 1), jk, jk, jk]) A dX5_findPrices_62 rfl (by decide) rfl ?_
              refine a_goto (tgt := 11) A dX5_findPrices_65 (by decide) ?_
              rw [piK_succ M la i (by first | (exfalso; omega) | rw [if_pos (by omega)] | rw [if_neg (by omega)]) (by first | (exfalso; omega) | rw [if_pos (by omega)] | rw [if_neg (by omega)])]
              exact ih (i + 1) (by omega) (by omega)
      · refine a_lconst1 A dX5_findPrices_26 ?_
        refine a_goto (tgt := 31) A dX5_findPrices_27 (by decide) ?_
        refine a_lastore (i := (i : Int)) (j := i) A dX5_findPrices_31 rfl (by decide) (by decide) (by omega) rfl ?_
        refine a_aload_n (z := 84) A dX5_findPrices_32 rfl ?_
        refine gf_X5_68 (r := 104) A dX5_findPrices_33 rfl (by decide) rfl ?_
        refine a_iload_n (z := (i : Int)) A dX5_findPrices_36 rfl ?_
        refine a_iload_n (z := (i : Int)) A dX5_findPrices_37 rfl ?_
        refine a_iload_n (z := (la : Int)) A dX5_findPrices_38 rfl ?_
        refine a_icmp_eq (tgt := 56) A dX5_findPrices_39 (by decide) (by omega) (by omega) (fun h39 => ?_) (fun h39 => ?_)
        · refine a_lconst1 A dX5_findPrices_56 ?_
          refine a_goto (tgt := 61) A dX5_findPrices_57 (by decide) ?_
          refine a_lastore (i := (i : Int)) (j := i) A dX5_findPrices_61 rfl (by decide) (by decide) (by omega) rfl ?_
          refine a_iinc (z := (i : Int)) (lv' := [.ref 84, vi (la : Int), vi ((i : Int) + 1), jk, jk, jk]) A dX5_findPrices_62 rfl (by decide) rfl ?_
          refine a_goto (tgt := 11) A dX5_findPrices_65 (by decide) ?_
          rw [piK_succ M la i (by first | (exfalso; omega) | rw [if_pos (by omega)] | rw [if_neg (by omega)]) (by first | (exfalso; omega) | rw [if_pos (by omega)] | rw [if_neg (by omega)])]
          exact ih (i + 1) (by omega) (by omega)
        · refine a_iload_n (z := (i : Int)) A dX5_findPrices_42 rfl ?_
          refine a_if_eq (tgt := 56) A dX5_findPrices_43 (by decide) (by omega) (fun h43 => ?_) (fun h43 => ?_)
          · refine a_lconst1 A dX5_findPrices_56 ?_
            refine a_goto (tgt := 61) A dX5_findPrices_57 (by decide) ?_
            refine a_lastore (i := (i : Int)) (j := i) A dX5_findPrices_61 rfl (by decide) (by decide) (by omega) rfl ?_
            refine a_iinc (z := (i : Int)) (lv' := [.ref 84, vi (la : Int), vi ((i : Int) + 1), jk, jk, jk]) A dX5_findPrices_62 rfl (by decide) rfl ?_
            refine a_goto (tgt := 11) A dX5_findPrices_65 (by decide) ?_
            rw [piK_succ M la i (by first | (exfalso; omega) | rw [if_pos (by omega)] | rw [if_neg (by omega)]) (by first | (exfalso; omega) | rw [if_pos (by omega)] | rw [if_neg (by omega)])]
            exact ih (i + 1) (by omega) (by omega)
          · refine a_aload_n (z := 84) A dX5_findPrices_46 rfl ?_
            refine gf_X5_62 (r := 102) A dX5_findPrices_47 rfl (by decide) rfl ?_
            refine a_iload_n (z := (i : Int)) A dX5_findPrices_50 rfl ?_
            refine a_iaload (i := (i : Int)) (x := M 102 i) A dX5_findPrices_51 rfl (by decide) (by decide) (by omega) rfl ?_
            refine a_iconst A dX5_findPrices_52 ?_
            refine a_icmp_ne (tgt := 60) A dX5_findPrices_53 (by decide) (by omega) (by omega) (fun h53 => ?_) (fun h53 => ?_)
            · refine a_lconst0 A dX5_findPrices_60 ?_
              refine a_lastore (i := (i : Int)) (j := i) A dX5_findPrices_61 rfl (by decide) (by decide) (by omega) rfl ?_
              refine a_iinc (z := (i : Int)) (lv' := [.ref 84, vi (la : Int), vi ((i : Int) + 1), jk, jk, jk]) A dX5_findPrices_62 rfl (by decide) rfl ?_
              refine a_goto (tgt := 11) A dX5_findPrices_65 (by decide) ?_
              rw [piK_succ M la i (by first | (exfalso; omega) | rw [if_pos (by omega)] | rw [if_neg (by omega)]) (by first | (exfalso; omega) | rw [if_pos (by omega)] | rw [if_neg (by omega)])]
              exact ih (i + 1) (by omega) (by omega)
            · refine a_lconst1 A dX5_findPrices_56 ?_
              refine a_goto (tgt := 61) A dX5_findPrices_57 (by decide) ?_
              refine a_lastore (i := (i : Int)) (j := i) A dX5_findPrices_61 rfl (by decide) (by decide) (by omega) rfl ?_
              refine a_iinc (z := (i : Int)) (lv' := [.ref 84, vi (la : Int), vi ((i : Int) + 1), jk, jk, jk]) A dX5_findPrices_62 rfl (by decide) rfl ?_
              refine a_goto (tgt := 11) A dX5_findPrices_65 (by decide) ?_
              rw [piK_succ M la i (by first | (exfalso; omega) | rw [if_pos (by omega)] | rw [if_neg (by omega)]) (by first | (exfalso; omega) | rw [if_pos (by omega)] | rw [if_neg (by omega)])]
              exact ih (i + 1) (by omega) (by omega)
theorem fpI_0 {M : MM} {la : Nat} (hla : la ≤ 4) : FPI M la (piK M la (la + 1)) := by
  refine ⟨FQ.pik M la _, fun x hx => ?_, fun v h1 h2 h3 => ?_, 1, by omega, (bdZ_le _).1, fun x hx h0 => ?_⟩
  · have hb := bdZ_le (zc la (piK M la (la + 1)))
    show 0 ≤ (if x < la + 1 then (if (x : Int) = la then (1 : Int) else 0) else M 103 x) ∧ (if x < la + 1 then (if (x : Int) = la then (1 : Int) else 0) else M 103 x) ≤ _ ∧ 0 ≤ (if x < la + 1 then (if (x : Int) = la ∨ x = 0 ∨ M 102 x = -1 then (1 : Int) else 0) else M 104 x) ∧ (if x < la + 1 then (if (x : Int) = la ∨ x = 0 ∨ M 102 x = -1 then (1 : Int) else 0) else M 104 x) ≤ _
    have hx2 : x < la + 1 := by omega
    simp only [if_pos hx2]
    refine ⟨?_, ?_, ?_, ?_⟩ <;> split <;> omega
  · have h4 : (if v < la + 1 then (if (v : Int) = la ∨ v = 0 ∨ M 102 v = -1 then (1 : Int) else 0) else M 104 v) = 0 := h3
    rw [if_pos (by omega)] at h4
    intro q
    rw [if_pos (Or.inr (Or.inr q))] at h4
    omega
  · have h4 : (if x < la + 1 then (if (x : Int) = la ∨ x = 0 ∨ M 102 x = -1 then (1 : Int) else 0) else M 104 x) ≠ 0 := h0
    have hx2 : x < la + 1 := by omega
    show (if x < la + 1 then (if (x : Int) = la ∨ x = 0 ∨ M 102 x = -1 then (1 : Int) else 0) else M 104 x) ∣ 1
    simp only [if_pos hx2] at h4 ⊢
    split at h4
    · rename_i c
      rw [if_pos c]
      exact Int.dvd_refl _
    · exact absurd rfl h4
set_option maxRecDepth 100000 in
set_option maxHeartbeats 4000000 in
theorem c_X5_findPrices (G : GG) (l : Launch) (M : MM) (hw : WM M) (hc : CHK M) : CMi G l yX5_findPrices cX5_findPrices 6 (some .boolean) 3 [.ref 84] M (fun z M' => (z = 1 ∧ fpOk M M' ∧ FPI M (M 85 0 - 1).toNat M') ∨ (z = 0 ∧ (¬ ∃ M1, fpOk M M1) ∧ FQ M M')) := by
  refine CT.intro (by decide) (Nat.le_of_ble_eq_true rfl) (fun E hE A T0 => ?_)
  subst hE
  have hP := hw.1
  obtain ⟨la, hla⟩ : ∃ la : Nat, (la : Int) = M 85 0 - 1 := ⟨(M 85 0 - 1).toNat, by omega⟩
  refine a_aload_n (z := 84) A dX5_findPrices_0 rfl ?_
  refine gf_X5_7 (r := 85) A dX5_findPrices_1 rfl (by decide) rfl ?_
  refine a_iconst A dX5_findPrices_4 ?_
  refine a_iaload (i := 0) (x := M 85 0) A dX5_findPrices_5 rfl (by decide) (by decide) (by omega) rfl ?_
  refine a_iconst A dX5_findPrices_6 ?_
  refine a_isub (x := (M 85 0)) (y := 1) A dX5_findPrices_7 ?_
  rw [← hla]
  refine a_istore_n (lv' := [.ref 84, vi (la : Int), jk, jk, jk, jk]) A dX5_findPrices_8 (by decide) rfl ?_
  refine a_iconst A dX5_findPrices_9 ?_
  refine a_istore_n (lv' := [.ref 84, vi (la : Int), vi 0, jk, jk, jk]) A dX5_findPrices_10 (by decide) rfl ?_
  have hk := fp_pi5 A M la (by omega) (fun v a b => by have := hc.1 v a (by omega); have := hw.2.1; omega) ?_ (la + 2) 0 (by omega) (by omega)
  · rw [piK_0] at hk; exact hk
  refine a_iconst A dX5_findPrices_68 ?_
  refine a_istore_n (lv' := [.ref 84, vi (la : Int), vi 0, jk, jk, jk]) A dX5_findPrices_69 (by decide) rfl ?_
  refine fp_rd5 A T0 M la hw hla hc 4 0 _ _ _ _ (by omega) (by omega) (fpI_0 (by omega)) (fun M1 hM1 hI1 => ⟨fun q => Or.inl ⟨rfl, ⟨?_, fun v a b => q v a (by omega)⟩, ?_⟩, fun q => Or.inr ⟨rfl, ?_, hI1.1⟩⟩) (fun hM1 M' hM' => Or.inr ⟨rfl, ?_, hM'⟩)
  · unfold fpA; rw [← hla]; exact (by rw [show (M 85 0).toNat = la + 1 by omega]; exact hM1)
  · rw [← hla]; exact hI1
  · rintro ⟨M2, h2, h3⟩
    unfold fpA at h2
    rw [← hla, show (M 85 0).toNat = la + 1 by omega] at h2
    have e2 : some M2 = some M1 := h2.symm.trans hM1
    cases e2
    obtain ⟨v, a, b, c⟩ := q
    exact h3 v a (by omega) c
  · rintro ⟨M2, h2, h3⟩
    unfold fpA at h2
    rw [← hla, show (M 85 0).toNat = la + 1 by omega] at h2
    have e2 : some M2 = none := h2.symm.trans hM1
    cases e2
