/-! the planes -/
def zqU (r : Nat → Int) (u : Nat) : Prop := ∀ k, k < 5 → r k = if k = u then 1 else 0
def zqL (M0 : MM) (r : Nat → Int) (a : Nat) : Prop := ∀ k, k < 5 → r k = if k = (M0 22 a).toNat then -(M0 26 a) else if k = (M0 23 a).toNat then M0 25 a else 0
def zqB (M : MM) (a : Nat) : Prop := M 22 a ≠ 0 ∧ 0 < M 24 a ∧ 0 < M 25 a
def zFL (M0 M : MM) : Prop := (∀ c, c ≠ 21 → c < 28 ∨ 40 < c → M c = M0 c) ∧ ∀ j, j ≠ 7 → M 21 j = M0 21 j
def zep (M : MM) : MM := zcol (up2 M 21 7 (M 21 7 + 1)) (28 + (M 21 7).toNat) (fun _ => 0) 5
theorem zep_P (M : MM) {k : Nat} (hk : k < 5) : zep M (28 + (M 21 7).toNat) k = 0 := by
  have e : zep M (28 + (M 21 7).toNat) = fun k => if k < 5 then 0 else up2 M 21 7 (M 21 7 + 1) (28 + (M 21 7).toNat) k := if_pos rfl
  rw [e]; exact if_pos hk
theorem zep_n (M : MM) {c : Nat} (h : c ≠ 28 + (M 21 7).toNat) : zep M c = up2 M 21 7 (M 21 7 + 1) c := if_neg h
theorem zep_ne (M : MM) {c : Nat} (h : c ≠ 28 + (M 21 7).toNat) (h2 : c ≠ 21) : zep M c = M c := by rw [zep_n M h, up2_ne _ _ _ _ h2]
theorem zep_7 (M : MM) : zep M 21 7 = M 21 7 + 1 := by rw [zep_n M (by omega), up2_self]
theorem zep_j (M : MM) {j : Nat} (h : j ≠ 7) : zep M 21 j = M 21 j := by rw [zep_n M (by omega), up2_in, if_neg h]
theorem zFL.ep {M0 M : MM} (h : zFL M0 M) (h7 : 0 ≤ M 21 7 ∧ M 21 7 < 13) : zFL M0 (zep M) := ⟨fun c h1 h2 => by rw [zep_ne M (by omega) h1]; exact h.1 c h1 h2, fun j hj => by rw [zep_j M hj]; exact h.2 j hj⟩
theorem zFL.up {M0 M : MM} (h : zFL M0 M) {c : Nat} (hc : 28 ≤ c ∧ c ≤ 40) (j : Nat) (x : Int) : zFL M0 (up2 M c j x) := ⟨fun c' h1 h2 => by rw [up2_ne _ _ _ _ (by omega)]; exact h.1 c' h1 h2, fun k hk => by rw [up2_ne _ _ _ _ (by omega)]; exact h.2 k hk⟩
def zLA (M0 : MM) (v : Nat) (M : MM) : Prop := zFL M0 M ∧ M 21 7 = (v : Int) - 1 ∧ ∀ u, 1 ≤ u → u < v → zqU (M (27 + u)) u
def zLB (M0 : MM) (i : Nat) (M : MM) : Prop := zFL M0 M ∧ (3 ≤ M 21 7 ∧ M 21 7 ≤ 3 + (i : Int)) ∧ (∀ u, 1 ≤ u → u < 4 → zqU (M (27 + u)) u) ∧ (∀ j : Nat, 3 ≤ j → (j : Int) < M 21 7 → ∃ a, a < i ∧ zqB M0 a ∧ zqL M0 (M (28 + j)) a) ∧ ∀ a, a < i → zqB M0 a → ∃ j : Nat, 3 ≤ j ∧ (j : Int) < M 21 7 ∧ zqL M0 (M (28 + j)) a
theorem zLA_s {M0 M : MM} {v : Nat} (hv : 1 ≤ v ∧ v < 4) (h : zLA M0 v M) : zLA M0 (v + 1) (up2 (zep M) (28 + (M 21 7).toNat) v 1) := by
  have e7 := h.2.1
  have eP : 28 + (M 21 7).toNat = 27 + v := by omega
  refine ⟨(h.1.ep (by omega)).up (by omega) _ _, ?_, ?_⟩
  · rw [up2_ne _ _ _ _ (by omega), zep_7]; omega
  · refine lt_s1 (fun u h1 h2 => ?_) ?_
    · rw [up2_ne _ _ _ _ (by omega), zep_ne M (by omega) (by omega)]; exact h.2.2 u h1 h2
    · intro k hk
      rw [← eP, up2_in]
      by_cases c : k = v
      · rw [if_pos c, if_pos c]
      · rw [if_neg c, if_neg c, zep_P M hk]
theorem zLB_no {M0 M : MM} {i : Nat} (h : zLB M0 i M) (hb : ¬ zqB M0 i) : zLB M0 (i + 1) M := by
  refine ⟨h.1, by have := h.2.1; omega, h.2.2.1, fun j h1 h2 => ?_, fun a ha hB => ?_⟩
  · obtain ⟨a, q1, q2, q3⟩ := h.2.2.2.1 j h1 h2
    exact ⟨a, by omega, q2, q3⟩
  · by_cases c : a = i
    · rw [c] at hB; exact absurd hB hb
    · exact h.2.2.2.2 a (by omega) hB
theorem zLB_s {M0 M : MM} {i : Nat} (hi : i < 10) (h : zLB M0 i M) (hb : zqB M0 i) (hn : (M0 22 i).toNat ≠ (M0 23 i).toNat) : zLB M0 (i + 1) (up2 (up2 (zep M) (28 + (M 21 7).toNat) (M0 23 i).toNat (M0 25 i)) (28 + (M 21 7).toNat) (M0 22 i).toNat (-(M0 26 i))) := by
  have h7 := h.2.1
  have e7 : up2 (up2 (zep M) (28 + (M 21 7).toNat) (M0 23 i).toNat (M0 25 i)) (28 + (M 21 7).toNat) (M0 22 i).toNat (-(M0 26 i)) 21 7 = M 21 7 + 1 := by rw [up2_ne _ _ _ _ (by omega), up2_ne _ _ _ _ (by omega), zep_7]
  have eo : ∀ c, c ≠ 21 → c ≠ 28 + (M 21 7).toNat → up2 (up2 (zep M) (28 + (M 21 7).toNat) (M0 23 i).toNat (M0 25 i)) (28 + (M 21 7).toNat) (M0 22 i).toNat (-(M0 26 i)) c = M c := fun c h1 h2 => by rw [up2_ne _ _ _ _ h2, up2_ne _ _ _ _ h2, zep_ne M h2 h1]
  have er : zqL M0 (up2 (up2 (zep M) (28 + (M 21 7).toNat) (M0 23 i).toNat (M0 25 i)) (28 + (M 21 7).toNat) (M0 22 i).toNat (-(M0 26 i)) (28 + (M 21 7).toNat)) i := fun k hk => by rw [up2_in, up2_in, zep_P M hk]
  refine ⟨((h.1.ep (by omega)).up (by omega) _ _).up (by omega) _ _, by rw [e7]; omega, fun u h1 h2 => ?_, fun j h1 h2 => ?_, fun a ha hB => ?_⟩
  · rw [eo _ (by omega) (by omega)]; exact h.2.2.1 u h1 h2
  · rw [e7] at h2
    by_cases c : (j : Int) = M 21 7
    · rw [show j = (M 21 7).toNat by omega]; exact ⟨i, by omega, hb, er⟩
    · rw [eo _ (by omega) (by omega)]
      obtain ⟨a, q1, q2, q3⟩ := h.2.2.2.1 j h1 (by omega)
      exact ⟨a, by omega, q2, q3⟩
  · by_cases c : a = i
    · rw [c]; exact ⟨(M 21 7).toNat, by omega, by rw [e7]; omega, er⟩
    · obtain ⟨j, q1, q2, q3⟩ := h.2.2.2.2 a (by omega) hB
      exact ⟨j, q1, by rw [e7]; omega, by rw [eo _ (by omega) (by omega)]; exact q3⟩
set_option maxRecDepth 100000 in
set_option maxHeartbeats 4000000 in
theorem lp_loopA {G : GG} {E : EE}  (A : AmM G E cX2_layPlanes 3 yX2_layPlanes.cls 2)  (M0 : MM) (kk : ∀ (M : MM) (j : Int) (w : Value), zLA M0 4 M → AM G E 3 25 [.ref 21, vi j, w] [] M) : ∀ (n : Nat) (v : Nat) (M : MM) (w : Value), 4 - v < n → zLA M0 v M → 1 ≤ v → v ≤ 4 → AM G E 3 7 [.ref 21, vi (v : Int), w] [] M := by
  intro n
  induction n with
  | zero => intro v M w hn hI hv1 hv4; exfalso; omega
  | succ n ih =>
    intro v M w hn hI hv1 hv4
    have e7 := hI.2.1
    refine a_iload_n (z := (v : Int)) A dX2_layPlanes_7 rfl ?_
    refine a_iconst A dX2_layPlanes_8 ?_
    refine a_icmp_ge (tgt := 25) A dX2_layPlanes_9 (by decide) (by omega) (by omega) (fun h9 => ?_) (fun h9 => ?_)
    · rw [show v = 4 by omega] at hI
      exact kk _ _ _ hI
    · refine a_aload_n (z := 21) A dX2_layPlanes_12 rfl ?_
      refine m_invVr A (c_X2_emptyPlane G _ M (by omega)) (by decide) mi_X2_emptyPlane mv_X2_emptyPlane cs_X2_110 cf2 dX2_layPlanes_13 rfl (by decide) rfl rfl (Nat.le_of_ble_eq_true rfl) (fun z13 M13 h13 => ?_)
      obtain ⟨e13, hM13⟩ := h13
      subst e13
      have hM13 : M13 = zep M := hM13
      subst hM13
      refine a_iload_n (z := (v : Int)) A dX2_layPlanes_16 rfl ?_
      refine a_iconst A dX2_layPlanes_17 ?_
      refine a_iastore (i := (v : Int)) (j := v) A dX2_layPlanes_18 (zq_ly28a _ (by omega)) (by omega) (by decide) (by omega) rfl ?_
      refine a_iinc (z := (v : Int)) (lv' := [.ref 21, vi ((v : Int) + 1), w]) A dX2_layPlanes_19 rfl (by decide) rfl ?_
      refine a_goto (tgt := 7) A dX2_layPlanes_22 (by decide) ?_
      exact ih (v + 1) _ _ (by omega) (zLA_s (by omega) hI) (by omega) (by omega)
set_option maxRecDepth 100000 in
set_option maxHeartbeats 4000000 in
theorem lp_loopB {G : GG} {E : EE} {P : MM → Prop} (A : AmM G E cX2_layPlanes 3 yX2_layPlanes.cls 2) (T0 : RT E G yX2_layPlanes 108 0 0 none (fun r rf' M' => rf' = rF ∧ r = none ∧ P M')) (M0 : MM) (hs : 0 ≤ M0 21 5 ∧ M0 21 5 ≤ 10) (hl : ∀ k : Nat, (k : Int) < M0 21 5 → ZPL M0 k ∧ M0 22 k ≠ M0 23 k) (hp : ∀ M, zLB M0 (M0 21 5).toNat M → P M) : ∀ (n : Nat) (i : Nat) (M : MM) (w : Value), (M0 21 5).toNat - i < n → zLB M0 i M → (i : Int) ≤ M0 21 5 → AM G E 3 27 [.ref 21, vi (i : Int), w] [] M := by
  intro n
  induction n with
  | zero => intro i M w hn hI hi; exfalso; omega
  | succ n ih =>
    intro i M w hn hI hi
    have h7 := hI.2.1
    have f5 : M 21 5 = M0 21 5 := hI.1.2 5 (by decide)
    have f22 : M 22 i = M0 22 i := by rw [hI.1.1 22 (by decide) (by decide)]
    have f23 : M 23 i = M0 23 i := by rw [hI.1.1 23 (by decide) (by decide)]
    have f24 : M 24 i = M0 24 i := by rw [hI.1.1 24 (by decide) (by decide)]
    have f25 : M 25 i = M0 25 i := by rw [hI.1.1 25 (by decide) (by decide)]
    have f26 : M 26 i = M0 26 i := by rw [hI.1.1 26 (by decide) (by decide)]
    have hl0 : (i : Int) < M0 21 5 → ZPL M0 i := fun q => (hl i q).1
    have hl1 : (i : Int) < M0 21 5 → M0 22 i ≠ M0 23 i := fun q => (hl i q).2
    unfold ZPL at hl0
    have nP22 : 22 ≠ 28 + (M 21 7).toNat := by omega
    have nP23 : 23 ≠ 28 + (M 21 7).toNat := by omega
    have nP25 : 25 ≠ 28 + (M 21 7).toNat := by omega
    have nP26 : 26 ≠ 28 + (M 21 7).toNat := by omega
    refine a_iload_n (z := (i : Int)) A dX2_layPlanes_27 rfl ?_
    refine a_aload_n (z := 21) A dX2_layPlanes_28 rfl ?_
    refine gf_X2_27 (x := M 21 5) A dX2_layPlanes_29 rfl (by decide) rfl ?_
    refine a_icmp_ge (tgt := 83) A dX2_layPlanes_32 (by decide) (by omega) (by omega) (fun h32 => ?_) (fun h32 => ?_)
    · exact m_return A T0 dX2_layPlanes_83 (by rw [show (M0 21 5).toNat = i by omega] at hp; exact hp _ hI)
    · refine a_aload_n (z := 21) A dX2_layPlanes_35 rfl ?_
      refine a_iload_n (z := (i : Int)) A dX2_layPlanes_36 rfl ?_
      refine m_invVi A (c_X2_bendsTheSum G _ (i : Int) M (by omega) (show I32 (M 22 i) by omega) (show I32 (M 24 i) by omega) (show I32 (M 25 i) by omega)) (by decide) mi_X2_bendsTheSum mv_X2_bendsTheSum cs_X2_114 cf2 dX2_layPlanes_37 rfl (by decide) rfl rfl (Nat.le_of_ble_eq_true rfl) (fun z37 M37 h37 => ?_)
      obtain ⟨e37, hc37⟩ := h37
      have e37 := e37.symm
      subst e37
      have hc37 : (z37 = 1 ∧ (M 22 i ≠ 0 ∧ 0 < M 24 i ∧ 0 < M 25 i)) ∨ (z37 = 0 ∧ ¬ (M 22 i ≠ 0 ∧ 0 < M 24 i ∧ 0 < M 25 i)) := hc37
      refine a_if_eq (tgt := 77) A dX2_layPlanes_40 (by decide) (by omega) (fun h40 => ?_) (fun h40 => ?_)
      · refine a_iinc (z := (i : Int)) (lv' := [.ref 21, vi ((i : Int) + 1), w]) A dX2_layPlanes_77 rfl (by decide) rfl ?_
        refine a_goto (tgt := 27) A dX2_layPlanes_80 (by decide) ?_
        have hbn : ¬ zqB M0 i := by unfold zqB; omega
        exact ih (i + 1) _ _ (by omega) (zLB_no hI hbn) (by omega)
      · refine a_aload_n (z := 21) A dX2_layPlanes_43 rfl ?_
        refine m_invVr A (c_X2_emptyPlane G _ M (by omega)) (by decide) mi_X2_emptyPlane mv_X2_emptyPlane cs_X2_110 cf2 dX2_layPlanes_44 rfl (by decide) rfl rfl (Nat.le_of_ble_eq_true rfl) (fun z44 M44 h44 => ?_)
        obtain ⟨e44, hM44⟩ := h44
        subst e44
        have hM44 : M44 = zep M := hM44
        subst hM44
        refine a_astore_n (lv' := [.ref 21, vi (i : Int), .ref (28 + (M 21 7).toNat)]) A dX2_layPlanes_47 (by decide) rfl ?_
        refine a_aload_n (z := (28 + (M 21 7).toNat)) A dX2_layPlanes_48 rfl ?_
        refine a_aload_n (z := 21) A dX2_layPlanes_49 rfl ?_
        refine gf_X2_15 (r := 23) A dX2_layPlanes_50 rfl (by decide) rfl ?_
        refine a_iload_n (z := (i : Int)) A dX2_layPlanes_53 rfl ?_
        refine a_iaload (i := (i : Int)) (x := (M 23 i)) A dX2_layPlanes_54 rfl (by decide) (by decide) (by omega) (by simp only [up2_ne _ _ _ _ nP23, zep_ne M nP23 (show (23 : Nat) ≠ 21 by decide)]; rfl) ?_
        refine a_aload_n (z := 21) A dX2_layPlanes_55 rfl ?_
        refine gf_X2_21 (r := 25) A dX2_layPlanes_56 rfl (by decide) rfl ?_
        refine a_iload_n (z := (i : Int)) A dX2_layPlanes_59 rfl ?_
        refine a_iaload (i := (i : Int)) (x := (M 25 i)) A dX2_layPlanes_60 rfl (by decide) (by decide) (by omega) (by simp only [up2_ne _ _ _ _ nP25, zep_ne M nP25 (show (25 : Nat) ≠ 21 by decide)]; rfl) ?_
        refine a_iastore (i := (M 23 i)) (j := (M 23 i).toNat) A dX2_layPlanes_61 (zq_ly28a _ (by omega)) (by omega) (by decide) (by omega) rfl ?_
        refine a_aload_n (z := (28 + (M 21 7).toNat)) A dX2_layPlanes_62 rfl ?_
        refine a_aload_n (z := 21) A dX2_layPlanes_63 rfl ?_
        refine gf_X2_9 (r := 22) A dX2_layPlanes_64 rfl (by decide) rfl ?_
        refine a_iload_n (z := (i : Int)) A dX2_layPlanes_67 rfl ?_
        refine a_iaload (i := (i : Int)) (x := (M 22 i)) A dX2_layPlanes_68 rfl (by decide) (by decide) (by omega) (by simp only [up2_ne _ _ _ _ nP22, zep_ne M nP22 (show (22 : Nat) ≠ 21 by decide)]; rfl) ?_
        refine a_aload_n (z := 21) A dX2_layPlanes_69 rfl ?_
        refine gf_X2_24 (r := 26) A dX2_layPlanes_70 rfl (by decide) rfl ?_
        refine a_iload_n (z := (i : Int)) A dX2_layPlanes_73 rfl ?_
        refine a_iaload (i := (i : Int)) (x := (M 26 i)) A dX2_layPlanes_74 rfl (by decide) (by decide) (by omega) (by simp only [up2_ne _ _ _ _ nP26, zep_ne M nP26 (show (26 : Nat) ≠ 21 by decide)]; rfl) ?_
        refine a_ineg A dX2_layPlanes_75 ?_
        refine a_iastore (i := (M 22 i)) (j := (M 22 i).toNat) A dX2_layPlanes_76 (zq_ly28a _ (by omega)) (by omega) (by decide) (by omega) rfl ?_
        refine a_iinc (z := (i : Int)) (lv' := [.ref 21, vi ((i : Int) + 1), .ref (28 + (M 21 7).toNat)]) A dX2_layPlanes_77 rfl (by decide) rfl ?_
        refine a_goto (tgt := 27) A dX2_layPlanes_80 (by decide) ?_
        have hbb : zqB M0 i := by unfold zqB; omega
        have hst := zLB_s (by omega) hI hbb (by omega)
        rw [← f22, ← f23, ← f25, ← f26] at hst
        exact ih (i + 1) _ _ (by omega) hst (by omega)
set_option maxRecDepth 100000 in
set_option maxHeartbeats 4000000 in
theorem c_X2_layPlanes (G : GG) (l : Launch) (M : MM) (hs : 0 ≤ M 21 5 ∧ M 21 5 ≤ 10) (hl : ∀ k : Nat, (k : Int) < M 21 5 → ZPL M k ∧ M 22 k ≠ M 23 k) : CMv G l yX2_layPlanes cX2_layPlanes 3 none 2 [.ref 21] M (fun M' => zLB (up2 M 21 7 0) (M 21 5).toNat M') := by
  refine CT.intro (by decide) (Nat.le_of_ble_eq_true rfl) (fun E hE A T0 => ?_)
  subst hE
  refine a_aload_n (z := 21) A dX2_layPlanes_0 rfl ?_
  refine a_iconst A dX2_layPlanes_1 ?_
  refine pf_X2_36 A dX2_layPlanes_2 rfl (by decide) ?_
  refine a_iconst A dX2_layPlanes_5 ?_
  refine a_istore_n (lv' := [.ref 21, vi 1, jk]) A dX2_layPlanes_6 (by decide) rfl ?_
  refine lp_loopA A (up2 M 21 7 0) ?_ 4 1 (up2 M 21 7 0) _ (by omega) ⟨⟨fun _ _ _ => rfl, fun _ _ => rfl⟩, rfl, fun u h1 h2 => by omega⟩ (by omega) (by omega)
  intro M1 j w hA
  refine a_iconst A dX2_layPlanes_25 ?_
  refine a_istore_n (lv' := [.ref 21, vi 0, w]) A dX2_layPlanes_26 (by decide) rfl ?_
  have hB0 : zLB (up2 M 21 7 0) 0 M1 := ⟨hA.1, by have := hA.2.1; omega, hA.2.2, fun j q1 q2 => by have := hA.2.1; omega, fun a ha => absurd ha (Nat.not_lt_zero a)⟩
  exact lp_loopB A T0 (up2 M 21 7 0) hs hl (fun X hX => hX) ((M 21 5).toNat + 1) 0 M1 _ (show (M 21 5).toNat - 0 < (M 21 5).toNat + 1 by omega) hB0 (show (0 : Int) ≤ M 21 5 by omega)
