/-! findLeast: the least of all corners -/
theorem zq_up21 {M : MM} {c : Nat} (hc : c ≠ 21) (x1 x2 x3 x4 x5 x6 : Int) : up2 (up2 (up2 (up2 (up2 (up2 M 21 9 x1) 21 10 x2) 21 11 x3) 21 12 x4) 21 13 x5) 21 14 x6 c = M c := by
  rw [up2_ne _ _ _ _ hc, up2_ne _ _ _ _ hc, up2_ne _ _ _ _ hc, up2_ne _ _ _ _ hc, up2_ne _ _ _ _ hc, up2_ne _ _ _ _ hc]
theorem zq_cross {L M : MM} {i j : Nat} (h : zFF L M) (hi : i < 13) (hj : j < 13) : zKs L i j (up2 (up2 (up2 (up2 (up2 (up2 M 21 9 (M (28 + i) 1 * M (28 + j) 2 - M (28 + i) 2 * M (28 + j) 1)) 21 10 (M (28 + i) 1 * M (28 + j) 3 - M (28 + i) 3 * M (28 + j) 1)) 21 11 (M (28 + i) 1 * M (28 + j) 4 - M (28 + i) 4 * M (28 + j) 1)) 21 12 (M (28 + i) 2 * M (28 + j) 3 - M (28 + i) 3 * M (28 + j) 2)) 21 13 (M (28 + i) 2 * M (28 + j) 4 - M (28 + i) 4 * M (28 + j) 2)) 21 14 (M (28 + i) 3 * M (28 + j) 4 - M (28 + i) 4 * M (28 + j) 3)) := by
  rw [h.1 (28 + i) (by omega) (by omega), h.1 (28 + j) (by omega) (by omega)]
  refine ⟨⟨fun c c1 c2 => by rw [zq_up21 c1]; exact h.1 c c1 c2, fun q hq => ?_, by rw [zq_up21 (by decide)]; exact h.2.2⟩, rfl, rfl, rfl, rfl, rfl, rfl⟩
  rw [up2_in, if_neg (by omega), up2_in, if_neg (by omega), up2_in, if_neg (by omega), up2_in, if_neg (by omega), up2_in, if_neg (by omega), up2_in, if_neg (by omega)]
  exact h.2.1 q hq
set_option maxRecDepth 100000 in
set_option maxHeartbeats 4000000 in
theorem fl_k {G : GG} {E : EE}  (A : AmM G E cX2_findLeast 5 yX2_findLeast.cls 4)  (fa : Nat) (L : MM) (hL : zRo L) (i j : Nat) (hij : i < j) (hj : (j : Int) < L 21 7) (kk : ∀ (M : MM) (k : Nat), zFF L M → (L 21 7).toNat ≤ k → zIn L (zD (L 21 7).toNat i j k) (M 21 15) (M 21 16) → AM G E 5 85 [.ref 21, .ref fa, vi (i : Int), vi (j : Int), vi (k : Int)] [] M) : ∀ (n : Nat) (k : Nat) (M : MM), (L 21 7).toNat - k < n → zKs L i j M → j < k → (k : Int) ≤ L 21 7 → zIn L (zD (L 21 7).toNat i j k) (M 21 15) (M 21 16) → AM G E 5 52 [.ref 21, .ref fa, vi (i : Int), vi (j : Int), vi (k : Int)] [] M := by
  intro n
  induction n with
  | zero => intro k M hn hK hjk hk hI; exfalso; omega
  | succ n ih =>
    intro k M hn hK hjk hk hI
    have h7 := hL.2.2.1
    have e7 : M 21 7 = L 21 7 := hK.1.2.1 7 (by decide)
    have e28k : (k : Int) < L 21 7 → M (28 + k) = L (28 + k) := fun q => hK.1.1 _ (by omega) (by omega)
    refine a_iload (z := (k : Int)) A dX2_findLeast_52 rfl ?_
    refine a_aload_n (z := 21) A dX2_findLeast_54 rfl ?_
    refine gf_X2_36 (x := M 21 7) A dX2_findLeast_55 rfl (by decide) rfl ?_
    refine a_icmp_ge (tgt := 85) A dX2_findLeast_58 (by decide) (by omega) (by omega) (fun h58 => ?_) (fun h58 => ?_)
    · exact kk M k hK.1 (by omega) hI
    · refine a_aload_n (z := 21) A dX2_findLeast_61 rfl ?_
      refine a_aload_n (z := 21) A dX2_findLeast_62 rfl ?_
      refine gf_X2_33 (r := 27) A dX2_findLeast_63 rfl (by decide) rfl ?_
      refine a_iload (z := (k : Int)) A dX2_findLeast_66 rfl ?_
      refine a_aaload (i := (k : Int)) (r := (28 + k)) A dX2_findLeast_68 rfl (Or.inr rfl) (by decide) (by decide) (by omega) (zq_rf27 (by omega)) ?_
      refine m_invVi A (c_X2_meetsAtCorner G _ (28 + k) M (zq_ly28a k (by omega)) (by omega) (by omega) (fun q hq => by rw [e28k (by omega)]; exact (hL.2.2.2.1 k (by omega)).2 q hq) (hK.bd hL (by omega) (by omega))) (by decide) mi_X2_meetsAtCorner mv_X2_meetsAtCorner cs_X2_89 cf2 dX2_findLeast_69 rfl (by decide) rfl rfl (Nat.le_of_ble_eq_true rfl) (fun z69 M69 h69 => ?_)
      have h69 := zq_meet hL hK h69 (by omega)
      have hE69 : z69 ≠ 0 → zEt L i j k ≠ 0 := fun q => (h69.resolve_left (fun r => q r.1)).2.1
      have hg69 : z69 ≠ 0 → zGd L M M69 i j k := fun q => (h69.resolve_left (fun r => q r.1)).2.2
      have hz69 : z69 = 0 ∨ z69 = 1 := h69.elim (fun r => Or.inl r.1) (fun r => Or.inr r.1)
      refine a_if_eq (tgt := 79) A dX2_findLeast_72 (by decide) (by omega) (fun h72 => ?_) (fun h72 => ?_)
      · refine a_iinc (z := (k : Int)) (lv' := [.ref 21, .ref fa, vi (i : Int), vi (j : Int), vi ((k : Int) + 1)]) A dX2_findLeast_79 rfl (by decide) rfl ?_
        refine a_goto (tgt := 52) A dX2_findLeast_82 (by decide) ?_
        obtain ⟨-, hE70, rfl⟩ := h69.resolve_right (fun q => by have := q.1; omega)
        exact ih (k + 1) _ (by omega) hK (by omega) (by omega) ((hI.zero hE70).to (zD_k (by omega) (by omega) (by omega)))
      · refine a_aload_n (z := 21) A dX2_findLeast_75 rfl ?_
        refine m_invVv A (c_X2_weighCorner G _ M69 ((hg69 h72).zpr hL hK.1 (by omega) (by omega) (by omega)) (by rw [(hg69 h72).1 21 (by decide)]; exact hI.1) (by rw [(hg69 h72).1 21 (by decide)]; exact hI.2.1) (by rw [(hg69 h72).2 4 (by decide)]; exact Int.le_of_lt (zsg_pos (hE69 h72)))) (by decide) mi_X2_weighCorner mv_X2_weighCorner cs_X2_93 cf2 dX2_findLeast_76 rfl (by decide) rfl rfl (Nat.le_of_ble_eq_true rfl) (fun M76 h76 => ?_)
        have h76 := h76.symm
        subst h76
        refine a_iinc (z := (k : Int)) (lv' := [.ref 21, .ref fa, vi (i : Int), vi (j : Int), vi ((k : Int) + 1)]) A dX2_findLeast_79 rfl (by decide) rfl ?_
        refine a_goto (tgt := 52) A dX2_findLeast_82 (by decide) ?_
        have hw69 := zq_wcs hL hK (hg69 h72) (by omega) (by omega) (by omega) hI (hE69 h72)
        exact ih (k + 1) _ (by omega) hw69.1 (by omega) (by omega) (hw69.2.to (zD_k (by omega) (by omega) (by omega)))
set_option maxRecDepth 100000 in
set_option maxHeartbeats 4000000 in
theorem fl_j {G : GG} {E : EE}  (A : AmM G E cX2_findLeast 5 yX2_findLeast.cls 4)  (fa : Nat) (L : MM) (hL : zRo L) (i : Nat) (hi : (i : Int) < L 21 7) (kk : ∀ (M : MM) (j : Nat) (w : Value), zFF L M → (L 21 7).toNat ≤ j → zIn L (zD (L 21 7).toNat i j (j + 1)) (M 21 15) (M 21 16) → AM G E 5 91 [.ref 21, .ref fa, vi (i : Int), vi (j : Int), w] [] M) : ∀ (n : Nat) (j : Nat) (M : MM) (w : Value), (L 21 7).toNat - j < n → zFF L M → i < j → (j : Int) ≤ L 21 7 → zIn L (zD (L 21 7).toNat i j (j + 1)) (M 21 15) (M 21 16) → AM G E 5 23 [.ref 21, .ref fa, vi (i : Int), vi (j : Int), w] [] M := by
  intro n
  induction n with
  | zero => intro j M w hn hF hij hj hI; exfalso; omega
  | succ n ih =>
    intro j M w hn hF hij hj hI
    have h7 := hL.2.2.1
    have e7 : M 21 7 = L 21 7 := hF.2.1 7 (by decide)
    have e28i : M (28 + i) = L (28 + i) := hF.1 _ (by omega) (by omega)
    have e28j : (j : Int) < L 21 7 → M (28 + j) = L (28 + j) := fun q => hF.1 _ (by omega) (by omega)
    refine a_iload_n (z := (j : Int)) A dX2_findLeast_23 rfl ?_
    refine a_aload_n (z := 21) A dX2_findLeast_24 rfl ?_
    refine gf_X2_36 (x := M 21 7) A dX2_findLeast_25 rfl (by decide) rfl ?_
    refine a_icmp_ge (tgt := 91) A dX2_findLeast_28 (by decide) (by omega) (by omega) (fun h28 => ?_) (fun h28 => ?_)
    · exact kk M j w hF (by omega) hI
    · refine a_aload_n (z := 21) A dX2_findLeast_31 rfl ?_
      refine a_aload_n (z := 21) A dX2_findLeast_32 rfl ?_
      refine gf_X2_33 (r := 27) A dX2_findLeast_33 rfl (by decide) rfl ?_
      refine a_iload_n (z := (i : Int)) A dX2_findLeast_36 rfl ?_
      refine a_aaload (i := (i : Int)) (r := (28 + i)) A dX2_findLeast_37 rfl (Or.inr rfl) (by decide) (by decide) (by omega) (zq_rf27 (by omega)) ?_
      refine a_aload_n (z := 21) A dX2_findLeast_38 rfl ?_
      refine gf_X2_33 (r := 27) A dX2_findLeast_39 rfl (by decide) rfl ?_
      refine a_iload_n (z := (j : Int)) A dX2_findLeast_42 rfl ?_
      refine a_aaload (i := (j : Int)) (r := (28 + j)) A dX2_findLeast_43 rfl (Or.inr rfl) (by decide) (by decide) (by omega) (zq_rf27 (by omega)) ?_
      refine m_invVv A (c_X2_crossTwo G _ (28 + i) (28 + j) M (zq_ly28a i (by omega)) (by omega) (zq_ly28a j (by omega)) (by omega) (by omega) (by omega) (fun q hq => by rw [e28i]; exact (hL.2.2.2.1 i (by omega)).2 q hq) (fun q hq => by rw [e28j (by omega)]; exact (hL.2.2.2.1 j (by omega)).2 q hq)) (by decide) mi_X2_crossTwo mv_X2_crossTwo cs_X2_85 cf2 dX2_findLeast_44 rfl (by decide) rfl rfl (Nat.le_of_ble_eq_true rfl) (fun M44 h44 => ?_)
      have h44 := h44.symm
      have hK44 := zq_cross hF (show i < 13 by omega) (show j < 13 by omega)
      rw [h44] at hK44
      have hI44 : zIn L (zD (L 21 7).toNat i j (j + 1)) (M44 21 15) (M44 21 16) := by rw [← h44]; exact hI
      refine a_iload_n (z := (j : Int)) A dX2_findLeast_47 rfl ?_
      refine a_iconst A dX2_findLeast_48 ?_
      refine a_iadd (x := (j : Int)) (y := 1) A dX2_findLeast_49 ?_
      refine a_istore (lv' := [.ref 21, .ref fa, vi (i : Int), vi (j : Int), vi ((j : Int) + 1)]) A dX2_findLeast_50 (by decide) rfl ?_
      refine fl_k A fa L hL i j (by omega) (by omega) (fun M2 k2 hF2 hk2 hI2 => ?_) ((L 21 7).toNat + 1) (j + 1) _ (by omega) hK44 (by omega) (by omega) hI44
      refine a_iinc (z := (j : Int)) (lv' := [.ref 21, .ref fa, vi (i : Int), vi ((j : Int) + 1), vi (k2 : Int)]) A dX2_findLeast_85 rfl (by decide) rfl ?_
      refine a_goto (tgt := 23) A dX2_findLeast_88 (by decide) ?_
      exact ih (j + 1) M2 _ (by omega) hF2 (by omega) (by omega) (hI2.to (zD_j hk2))
set_option maxRecDepth 100000 in
set_option maxHeartbeats 4000000 in
theorem fl_i {G : GG} {E : EE}  (A : AmM G E cX2_findLeast 5 yX2_findLeast.cls 4)  (fa : Nat) (L : MM) (hL : zRo L) (kk : ∀ (M : MM) (i : Nat) (w w2 : Value), zFF L M → (L 21 7).toNat ≤ i → zIn L (zD (L 21 7).toNat i (i + 1) (i + 2)) (M 21 15) (M 21 16) → AM G E 5 97 [.ref 21, .ref fa, vi (i : Int), w, w2] [] M) : ∀ (n : Nat) (i : Nat) (M : MM) (w w2 : Value), (L 21 7).toNat - i < n → zFF L M → (i : Int) ≤ L 21 7 → zIn L (zD (L 21 7).toNat i (i + 1) (i + 2)) (M 21 15) (M 21 16) → AM G E 5 11 [.ref 21, .ref fa, vi (i : Int), w, w2] [] M := by
  intro n
  induction n with
  | zero => intro i M w w2 hn hF hi hI; exfalso; omega
  | succ n ih =>
    intro i M w w2 hn hF hi hI
    have h7 := hL.2.2.1
    have e7 : M 21 7 = L 21 7 := hF.2.1 7 (by decide)
    refine a_iload_n (z := (i : Int)) A dX2_findLeast_11 rfl ?_
    refine a_aload_n (z := 21) A dX2_findLeast_12 rfl ?_
    refine gf_X2_36 (x := M 21 7) A dX2_findLeast_13 rfl (by decide) rfl ?_
    refine a_icmp_ge (tgt := 97) A dX2_findLeast_16 (by decide) (by omega) (by omega) (fun h16 => ?_) (fun h16 => ?_)
    · exact kk M i w w2 hF (by omega) hI
    · refine a_iload_n (z := (i : Int)) A dX2_findLeast_19 rfl ?_
      refine a_iconst A dX2_findLeast_20 ?_
      refine a_iadd (x := (i : Int)) (y := 1) A dX2_findLeast_21 ?_
      refine a_istore_n (lv' := [.ref 21, .ref fa, vi (i : Int), vi ((i : Int) + 1), w2]) A dX2_findLeast_22 (by decide) rfl ?_
      refine fl_j A fa L hL i (by omega) (fun M2 j2 w3 hF2 hj2 hI2 => ?_) ((L 21 7).toNat + 1) (i + 1) M w2 (by omega) hF (by omega) (by omega) hI
      refine a_iinc (z := (i : Int)) (lv' := [.ref 21, .ref fa, vi ((i : Int) + 1), vi (j2 : Int), w3]) A dX2_findLeast_91 rfl (by decide) rfl ?_
      refine a_goto (tgt := 11) A dX2_findLeast_94 (by decide) ?_
      exact ih (i + 1) M2 _ _ (by omega) hF2 (by omega) (hI2.to (zD_i hj2))
/-- s / u is the least sum over all corners of the planes in L, which are those of M -/
def zLe (M L : MM) (s u : Int) : Prop := zLB (up2 M 21 7 0) (M 21 5).toNat L ∧ zRo L ∧ zIn L (fun a b c => a < b ∧ b < c ∧ c < (L 21 7).toNat) s u ∧ 0 < u ∧ s ≤ 42840000 * u
def zFG (M M' : MM) (fa : Nat) : Prop := (∀ c, c ≠ 21 → c ≠ 41 → c ≠ fa → c < 28 ∨ 40 < c → M' c = M c) ∧ (∀ j, j < 7 ∨ j = 8 ∨ 16 < j → M' 21 j = M 21 j) ∧ M' 41 0 = 0 ∧ (0 ≤ M' 21 15 ∧ M' 21 15 ≤ 492317280000)
theorem zq_mul_bd {x y A B : Int} (hx : 0 ≤ x ∧ x ≤ A) (hy : 0 ≤ y ∧ y ≤ B) : 0 ≤ x * y ∧ x * y ≤ A * B := mul_bd hx hy
/-- the first corner: the end alone has a price -/
theorem zq_first {M L : MM} (hB : zLB (up2 M 21 7 0) (M 21 5).toNat L) (hL : zRo L) : zEt L 0 1 2 ≠ 0 ∧ zQt L 0 1 2 4 = 1 ∧ zSn L (zQt L 0 1 2) ≤ 42840000 := by
  have r0 := hB.2.2.1 1 (by decide) (by decide)
  have r1 := hB.2.2.1 2 (by decide) (by decide)
  have r2 := hB.2.2.1 3 (by decide) (by decide)
  have a1 : L 28 1 = 1 := r0 1 (by decide)
  have a2 : L 28 2 = 0 := r0 2 (by decide)
  have a3 : L 28 3 = 0 := r0 3 (by decide)
  have a4 : L 28 4 = 0 := r0 4 (by decide)
  have b1 : L 29 1 = 0 := r1 1 (by decide)
  have b2 : L 29 2 = 1 := r1 2 (by decide)
  have b3 : L 29 3 = 0 := r1 3 (by decide)
  have b4 : L 29 4 = 0 := r1 4 (by decide)
  have c1 : L 30 1 = 0 := r2 1 (by decide)
  have c2 : L 30 2 = 0 := r2 2 (by decide)
  have c3 : L 30 3 = 1 := r2 3 (by decide)
  have c4 : L 30 4 = 0 := r2 4 (by decide)
  have eE : zEt L 0 1 2 = -1 := by
    show zEn (L 28) (L 29) (L 30) = -1
    unfold zEn zMn
    rw [a1, a2, a3, b1, b2, b3, c1, c2, c3]
    decide
  have hsg : zsg (zEn (L 28) (L 29) (L 30)) = -1 := by
    have : zEn (L 28) (L 29) (L 30) = -1 := eE
    rw [this]
    decide
  have e4 : zQt L 0 1 2 4 = 1 := by
    show zsg (zEn (L 28) (L 29) (L 30)) * zEn (L 28) (L 29) (L 30) = 1
    rw [hsg]
    have : zEn (L 28) (L 29) (L 30) = -1 := eE
    rw [this]
    decide
  have hpr : ∀ v, v < 5 → 0 ≤ zQt L 0 1 2 v ∧ zQt L 0 1 2 v ≤ 1 := by
    intro v hv
    have hv2 : v = 0 ∨ v = 1 ∨ v = 2 ∨ v = 3 ∨ v = 4 := by omega
    show 0 ≤ zsg (zEn (L 28) (L 29) (L 30)) * zPn (L 28) (L 29) (L 30) v ∧ zsg (zEn (L 28) (L 29) (L 30)) * zPn (L 28) (L 29) (L 30) v ≤ 1
    rw [hsg]
    rcases hv2 with rfl | rfl | rfl | rfl | rfl
    · show 0 ≤ -1 * (0 : Int) ∧ -1 * (0 : Int) ≤ 1
      decide
    · show 0 ≤ -1 * (L 30 2 * zMn (L 28) (L 29) 3 4 - L 30 3 * zMn (L 28) (L 29) 2 4 + L 30 4 * zMn (L 28) (L 29) 2 3) ∧ -1 * (L 30 2 * zMn (L 28) (L 29) 3 4 - L 30 3 * zMn (L 28) (L 29) 2 4 + L 30 4 * zMn (L 28) (L 29) 2 3) ≤ 1
      unfold zMn
      rw [a2, a3, a4, b2, b3, b4, c2, c3, c4]
      decide
    · show 0 ≤ -1 * (L 30 3 * zMn (L 28) (L 29) 1 4 - L 30 1 * zMn (L 28) (L 29) 3 4 - L 30 4 * zMn (L 28) (L 29) 1 3) ∧ -1 * (L 30 3 * zMn (L 28) (L 29) 1 4 - L 30 1 * zMn (L 28) (L 29) 3 4 - L 30 4 * zMn (L 28) (L 29) 1 3) ≤ 1
      unfold zMn
      rw [a1, a3, a4, b1, b3, b4, c1, c3, c4]
      decide
    · show 0 ≤ -1 * (L 30 1 * zMn (L 28) (L 29) 2 4 - L 30 2 * zMn (L 28) (L 29) 1 4 + L 30 4 * zMn (L 28) (L 29) 1 2) ∧ -1 * (L 30 1 * zMn (L 28) (L 29) 2 4 - L 30 2 * zMn (L 28) (L 29) 1 4 + L 30 4 * zMn (L 28) (L 29) 1 2) ≤ 1
      unfold zMn
      rw [a1, a2, a4, b1, b2, b4, c1, c2, c4]
      decide
    · show 0 ≤ -1 * zEn (L 28) (L 29) (L 30) ∧ -1 * zEn (L 28) (L 29) (L 30) ≤ 1
      have : zEn (L 28) (L 29) (L 30) = -1 := eE
      rw [this]
      decide
  refine ⟨by rw [eE]; decide, e4, ?_⟩
  have hS := sumZ_bd (f := ztn L (zQt L 0 1 2)) (c := 4284000) (n := (L 21 5).toNat) (by decide) (fun k hk => ?_)
  · have h10 : (((L 21 5).toNat : Nat) : Int) * 4284000 ≤ 10 * 4284000 := Int.mul_le_mul_of_nonneg_right (by have := hL.1; omega) (by decide)
    unfold zSn
    omega
  · have q := hL.2.1 k (by omega)
    unfold ZPL at q
    have hp := parts_bd (q := L 26 k) q.2.2.2.2
    have p1 := hpr (L 23 k).toNat (by omega)
    have p2 := hpr (L 22 k).toNat (by omega)
    have x1 := mul_bd (a := L 25 k) (b := zQt L 0 1 2 (L 23 k).toNat) (A := 17) (B := 1) (by omega) p1
    have x2 := mul_bd (a := L 26 k) (b := zQt L 0 1 2 (L 22 k).toNat) (A := 9) (B := 1) (by omega) p2
    have hw : zwn L (zQt L 0 1 2) k ≤ 17 := by unfold zwn; omega
    unfold ztn
    by_cases c : 0 < zwn L (zQt L 0 1 2) k
    · rw [if_pos c]
      have y1 := mul_bd (a := L 24 k) (b := (2520 : Int).tdiv (L 26 k)) (A := 100) (B := 2520) q.2.2.1 (by omega)
      have y2 := mul_bd (b := zwn L (zQt L 0 1 2) k) (A := 100 * 2520) (B := 17) y1 (by omega)
      omega
    · rw [if_neg c]; omega
set_option maxRecDepth 100000 in
set_option maxHeartbeats 4000000 in
theorem c_X2_findLeast (G : GG) (l : Launch) (fa : Nat) (M : MM) (hl_fa : ly fa = (0, 0)) (ha_fa : fa < 108) (hs : 0 ≤ M 21 5 ∧ M 21 5 ≤ 10) (hl : ∀ k : Nat, (k : Int) < M 21 5 → ZPL M k ∧ M 22 k ≠ M 23 k) (h41 : M 41 0 = 0) (h15 : 0 ≤ M 21 15 ∧ M 21 15 ≤ 492317280000) : CMv G l yX2_findLeast cX2_findLeast 5 none 4 [.ref 21, .ref fa] M (fun M' => ∃ (s u : Int) (L : MM), M' fa = (up2 (up2 M fa 0 (nU s (2520 * u))) fa 1 (nD s (2520 * u))) fa ∧ zLe M L s u ∧ zFG M M' fa) := by
  refine CT.intro (by decide) (Nat.le_of_ble_eq_true rfl) (fun E hE A T0 => ?_)
  subst hE
  refine a_aload_n (z := 21) A dX2_findLeast_0 rfl ?_
  refine m_invVv A (c_X2_layPlanes G _ M hs hl) (by decide) mi_X2_layPlanes mv_X2_layPlanes cs_X2_82 cf2 dX2_findLeast_1 rfl (by decide) rfl rfl (Nat.le_of_ble_eq_true rfl) (fun M1 h1 => ?_)
  have hB := h1
  refine a_aload_n (z := 21) A dX2_findLeast_4 rfl ?_
  refine a_lconst0 A dX2_findLeast_5 ?_
  refine pf_X2_65 A dX2_findLeast_6 rfl (by decide) ?_
  refine a_iconst A dX2_findLeast_9 ?_
  refine a_istore_n (lv' := [.ref 21, .ref fa, vi 0, jk, jk]) A dX2_findLeast_10 (by decide) rfl ?_
  have hL : zRo M1 := zLB.ro (M0 := up2 M 21 7 0) (show (((M 21 5).toNat : Nat) : Int) = M 21 5 by omega) (fun k hk => (hl k hk).1) hs.2 h41 hB
  have e15 : M1 21 15 = M 21 15 := hB.1.2 15 (by decide)
  have hI0 : zIn M1 (zD (M1 21 7).toNat 0 1 2) (M 21 15) 0 := ⟨h15, by omega, fun _ a b c q => by unfold zD at q; omega, fun q => absurd rfl q⟩
  refine fl_i A fa M1 hL (fun M2 i2 w w2 hF2 hi2 hI2 => ?_) ((M1 21 7).toNat + 1) 0 (up2 M1 21 16 0) _ _ (show (M1 21 7).toNat - 0 < (M1 21 7).toNat + 1 by omega) ⟨fun c c1 _ => up2_ne _ _ _ _ c1, fun j hj => by rw [up2_in, if_neg (by omega)], rfl⟩ (show (0 : Int) ≤ M1 21 7 by have := hL.2.2.1; omega) (by show zIn M1 _ (M1 21 15) 0; rw [e15]; exact hI0)
  have h7 := hL.2.2.1
  have hI3 : zIn M1 (fun a b c => a < b ∧ b < c ∧ c < (M1 21 7).toNat) (M2 21 15) (M2 21 16) := by
    have hi3 : (M1 21 7).toNat ≤ i2 := hi2
    have hI4 : zIn M1 (zD (M1 21 7).toNat i2 (i2 + 1) (i2 + 2)) (M2 21 15) (M2 21 16) := hI2
    exact hI4.to (fun a b c => by unfold zD; omega)
  have hf := zq_first hB hL
  have hun : M2 21 16 ≠ 0 := fun q => hf.1 (hI3.2.2.1 q 0 1 2 (by omega))
  have hu1 := hI3.2.1
  have hs1 := hI3.1
  have hu0 : 0 < M2 21 16 := by omega
  have hle : M2 21 15 ≤ 42840000 * M2 21 16 := by
    have q1 := (hI3.2.2.2 hun).2 0 1 2 (by omega) hf.1
    rw [hf.2.1, Int.mul_one] at q1
    have q2 : zSn M1 (zQt M1 0 1 2) * M2 21 16 ≤ 42840000 * M2 21 16 := Int.mul_le_mul_of_nonneg_right hf.2.2 (by omega)
    omega
  have hne21 : fa ≠ 21 := fun q => by rw [q] at hl_fa; revert hl_fa; decide
  have hne41 : fa ≠ 41 := fun q => by rw [q] at hl_fa; revert hl_fa; decide
  have hne28 : fa < 28 ∨ 40 < fa := by
    rcases Nat.lt_or_ge fa 28 with q | q
    · exact Or.inl q
    · rcases Nat.lt_or_ge 40 fa with q2 | q2
      · exact Or.inr q2
      · have := zq_ly28a (fa - 28) (by omega)
        rw [show 28 + (fa - 28) = fa by omega, hl_fa] at this
        exact absurd this (by decide)
  have ecell : ∀ c, c ≠ 21 → c ≠ 41 → c < 28 ∨ 40 < c → M2 c = M c := fun c c1 c2 c3 => by rw [hF2.1 c c1 c2, hB.1.1 c c1 c3, up2_ne _ _ _ _ c1]
  have hfg : zFG M (up2 (up2 M2 fa 0 (nU (M2 21 15) (2520 * M2 21 16))) fa 1 (nD (M2 21 15) (2520 * M2 21 16))) fa := by
    refine ⟨fun c c1 c2 c3 c4 => by rw [up2_ne _ _ _ _ c3, up2_ne _ _ _ _ c3]; exact ecell c c1 c2 c4, fun j hj => ?_, ?_, ?_⟩
    · rw [up2_ne _ _ _ _ hne21.symm, up2_ne _ _ _ _ hne21.symm, hF2.2.1 j (by omega)]
      rw [hB.1.2 j (by omega), up2_in, if_neg (by omega)]
    · rw [up2_ne _ _ _ _ hne41.symm, up2_ne _ _ _ _ hne41.symm, hF2.2.2]; exact hL.2.2.2.2
    · rw [up2_ne _ _ _ _ hne21.symm, up2_ne _ _ _ _ hne21.symm]; exact hs1
  refine a_aload_n (z := fa) A dX2_findLeast_97 rfl ?_
  refine a_aload_n (z := 21) A dX2_findLeast_98 rfl ?_
  refine gf_X2_62 (x := M2 21 15) A dX2_findLeast_99 rfl (by decide) rfl ?_
  refine a_ldc2 A lk_X2_96 dX2_findLeast_102 ?_
  refine a_aload_n (z := 21) A dX2_findLeast_105 rfl ?_
  refine gf_X2_65 (x := M2 21 16) A dX2_findLeast_106 rfl (by decide) rfl ?_
  refine a_lmul (x := 2520) (y := (M2 21 16)) A dX2_findLeast_109 ?_
  refine m_invVv A (c_X0_set G _ fa (M2 21 15) (2520 * M2 21 16) M2 hl_fa ha_fa (by omega) (by omega)) (by decide) mi_X0_set mv_X0_set cs_X2_98 cf0 dX2_findLeast_110 hl_fa ha_fa rfl rfl (Nat.le_of_ble_eq_true rfl) (fun M110 h110 => ?_)
  have h110 := h110.symm
  subst h110
  exact m_return A T0 dX2_findLeast_113 (by exact ⟨M2 21 15, M2 21 16, M1, by funext q; rw [up2_in, up2_in, up2_in, up2_in, ecell fa hne21 hne41 hne28], ⟨hB, hL, hI3, hu0, hle⟩, hfg⟩)
