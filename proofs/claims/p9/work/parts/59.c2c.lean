/-! a corner is weighed -/
def zqd (M : MM) (k : Nat) : Int := M 25 k * M 41 (M 23 k).toNat - M 26 k * M 41 (M 22 k).toNat
def zqt (M : MM) (k : Nat) : Int := if 0 < zqd M k then M 24 k * (2520 : Int).tdiv (M 26 k) * zqd M k else 0
def ZPL (M : MM) (k : Nat) : Prop := (0 ≤ M 22 k ∧ M 22 k ≤ 3) ∧ (1 ≤ M 23 k ∧ M 23 k ≤ 4) ∧ (0 ≤ M 24 k ∧ M 24 k ≤ 100) ∧ (0 ≤ M 25 k ∧ M 25 k ≤ 17) ∧ 1 ≤ M 26 k ∧ M 26 k ≤ 9
def ZPR (M : MM) : Prop := (0 ≤ M 21 5 ∧ M 21 5 ≤ 10) ∧ (∀ k : Nat, (k : Int) < M 21 5 → ZPL M k) ∧ ∀ j, j < 5 → -7514 ≤ M 41 j ∧ M 41 j ≤ 7514
theorem zqd_bd {M : MM} (h : ZPR M) {k : Nat} (hk : (k : Int) < M 21 5) : -195364 ≤ zqd M k ∧ zqd M k ≤ 195364 := by
  have q := h.2.1 k hk
  unfold ZPL at q
  have h1 := mul_bd (a := M 25 k) (b := 7514) (A := 17) (B := 7514) (by omega) (by omega)
  have a1 := h.2.2 (M 23 k).toNat (by omega)
  have a2 := h.2.2 (M 22 k).toNat (by omega)
  have b1 : M 25 k * M 41 (M 23 k).toNat ≤ M 25 k * 7514 := Int.mul_le_mul_of_nonneg_left a1.2 q.2.2.2.1.1
  have b2 : M 25 k * (-7514) ≤ M 25 k * M 41 (M 23 k).toNat := Int.mul_le_mul_of_nonneg_left a1.1 q.2.2.2.1.1
  have b3 : M 26 k * M 41 (M 22 k).toNat ≤ M 26 k * 7514 := Int.mul_le_mul_of_nonneg_left a2.2 (by omega)
  have b4 : M 26 k * (-7514) ≤ M 26 k * M 41 (M 22 k).toNat := Int.mul_le_mul_of_nonneg_left a2.1 (by omega)
  unfold zqd
  omega
theorem zqt_bd {M : MM} (h : ZPR M) {k : Nat} (hk : (k : Int) < M 21 5) : 0 ≤ zqt M k ∧ zqt M k ≤ 49231728000 := by
  have q := h.2.1 k hk
  unfold ZPL at q
  have hd := zqd_bd h hk
  have hp := parts_bd (q := M 26 k) q.2.2.2.2
  unfold zqt
  by_cases c : 0 < zqd M k
  · rw [if_pos c]
    have h1 := mul_bd (a := M 24 k) (b := (2520 : Int).tdiv (M 26 k)) (A := 100) (B := 2520) q.2.2.1 (by omega)
    have h2 := mul_bd (b := zqd M k) (A := 100 * 2520) (B := 195364) h1 (by omega)
    omega
  · rw [if_neg c]; omega
theorem zq_sumt {M : MM} (h : ZPR M) : ∀ n : Nat, (n : Int) ≤ M 21 5 → 0 ≤ sumZ (zqt M) n ∧ sumZ (zqt M) n ≤ (n : Int) * 49231728000 := by
  intro n
  induction n with
  | zero => intro _; exact ⟨Int.le_refl 0, by show (0 : Int) ≤ 0 * 49231728000; omega⟩
  | succ n ih =>
    intro hn
    have h1 := ih (by omega)
    have h2 := zqt_bd h (k := n) (by omega)
    show 0 ≤ sumZ (zqt M) n + zqt M n ∧ sumZ (zqt M) n + zqt M n ≤ ((n + 1 : Nat) : Int) * 49231728000
    omega
noncomputable def zqC (M : MM) : MM := cif (M 21 16 = 0 ∨ sumZ (zqt M) (M 21 5).toNat * M 21 16 < M 21 15 * M 41 4) (up2 (up2 M 21 15 (sumZ (zqt M) (M 21 5).toNat)) 21 16 (M 41 4)) M
set_option maxRecDepth 100000 in
set_option maxHeartbeats 4000000 in
theorem wc_loop2 {G : GG} {E : EE}  (A : AmM G E cX2_weighCorner 6 yX2_weighCorner.cls 2)  (M : MM) (h : ZPR M) (kk : ∀ (j : Int) (w4 : Value), AM G E 6 89 [.ref 21, vl (sumZ (zqt M) (M 21 5).toNat), jk, vi j, w4, jk] [] M) : ∀ (n : Nat) (i : Nat) (w4 : Value), (M 21 5).toNat - i < n → (i : Int) ≤ M 21 5 → AM G E 6 4 [.ref 21, vl (sumZ (zqt M) i), jk, vi (i : Int), w4, jk] [] M := by
  intro n
  induction n with
  | zero => intro i w4 hn hi; exfalso; omega
  | succ n ih =>
    intro i w4 hn hi
    have hL := h.1
    have hl0 : (i : Int) < M 21 5 → ZPL M i := h.2.1 i
    unfold ZPL at hl0
    have hd1 : (i : Int) < M 21 5 → -195364 ≤ M 25 i * M 41 (M 23 i).toNat - M 26 i * M 41 (M 22 i).toNat ∧ M 25 i * M 41 (M 23 i).toNat - M 26 i * M 41 (M 22 i).toNat ≤ 195364 := fun q => zqd_bd h q
    have hp0 : (i : Int) < M 21 5 → 1 ≤ (2520 : Int).tdiv (M 26 i) ∧ (2520 : Int).tdiv (M 26 i) ≤ 2520 := fun q => parts_bd (by omega)
    have hr0 : (i : Int) < M 21 5 → 0 ≤ M 24 i * (2520 : Int).tdiv (M 26 i) ∧ M 24 i * (2520 : Int).tdiv (M 26 i) ≤ 100 * 2520 := fun q => mul_bd (by omega) (by have := hp0 q; omega)
    refine a_iload_n (z := (i : Int)) A dX2_weighCorner_4 rfl ?_
    refine a_aload_n (z := 21) A dX2_weighCorner_5 rfl ?_
    refine gf_X2_27 (x := M 21 5) A dX2_weighCorner_6 rfl (by decide) rfl ?_
    refine a_icmp_ge (tgt := 89) A dX2_weighCorner_9 (by decide) (by omega) (by omega) (fun h9 => ?_) (fun h9 => ?_)
    · rw [show i = (M 21 5).toNat by omega]
      exact kk _ _
    · refine a_aload_n (z := 21) A dX2_weighCorner_12 rfl ?_
      refine gf_X2_21 (r := 25) A dX2_weighCorner_13 rfl (by decide) rfl ?_
      refine a_iload_n (z := (i : Int)) A dX2_weighCorner_16 rfl ?_
      refine a_iaload (i := (i : Int)) (x := M 25 i) A dX2_weighCorner_17 rfl (by decide) (by decide) (by omega) rfl ?_
      refine a_i2l A dX2_weighCorner_18 (by omega) ?_
      refine a_aload_n (z := 21) A dX2_weighCorner_19 rfl ?_
      refine gf_X2_39 (r := 41) A dX2_weighCorner_20 rfl (by decide) rfl ?_
      refine a_aload_n (z := 21) A dX2_weighCorner_23 rfl ?_
      refine gf_X2_15 (r := 23) A dX2_weighCorner_24 rfl (by decide) rfl ?_
      refine a_iload_n (z := (i : Int)) A dX2_weighCorner_27 rfl ?_
      refine a_iaload (i := (i : Int)) (x := M 23 i) A dX2_weighCorner_28 rfl (by decide) (by decide) (by omega) rfl ?_
      refine a_laload (i := (M 23 i)) (x := M 41 ((M 23 i).toNat)) A dX2_weighCorner_29 rfl (by decide) (by decide) (by omega) rfl ?_
      refine a_lmul (x := (M 25 i)) (y := (M 41 ((M 23 i).toNat))) A dX2_weighCorner_30 ?_
      refine a_aload_n (z := 21) A dX2_weighCorner_31 rfl ?_
      refine gf_X2_24 (r := 26) A dX2_weighCorner_32 rfl (by decide) rfl ?_
      refine a_iload_n (z := (i : Int)) A dX2_weighCorner_35 rfl ?_
      refine a_iaload (i := (i : Int)) (x := M 26 i) A dX2_weighCorner_36 rfl (by decide) (by decide) (by omega) rfl ?_
      refine a_i2l A dX2_weighCorner_37 (by omega) ?_
      refine a_aload_n (z := 21) A dX2_weighCorner_38 rfl ?_
      refine gf_X2_39 (r := 41) A dX2_weighCorner_39 rfl (by decide) rfl ?_
      refine a_aload_n (z := 21) A dX2_weighCorner_42 rfl ?_
      refine gf_X2_9 (r := 22) A dX2_weighCorner_43 rfl (by decide) rfl ?_
      refine a_iload_n (z := (i : Int)) A dX2_weighCorner_46 rfl ?_
      refine a_iaload (i := (i : Int)) (x := M 22 i) A dX2_weighCorner_47 rfl (by decide) (by decide) (by omega) rfl ?_
      refine a_laload (i := (M 22 i)) (x := M 41 ((M 22 i).toNat)) A dX2_weighCorner_48 rfl (by decide) (by decide) (by omega) rfl ?_
      refine a_lmul (x := (M 26 i)) (y := (M 41 ((M 22 i).toNat))) A dX2_weighCorner_49 ?_
      refine a_lsub (x := ((M 25 i) * (M 41 ((M 23 i).toNat)))) (y := ((M 26 i) * (M 41 ((M 22 i).toNat)))) A dX2_weighCorner_50 ?_
      refine a_lstore (lv' := [.ref 21, vl (sumZ (zqt M) i), jk, vi (i : Int), vl (((M 25 i) * (M 41 ((M 23 i).toNat))) - ((M 26 i) * (M 41 ((M 22 i).toNat)))), jk]) A dX2_weighCorner_51 (by decide) rfl ?_
      refine a_lload (z := (((M 25 i) * (M 41 ((M 23 i).toNat))) - ((M 26 i) * (M 41 ((M 22 i).toNat))))) A dX2_weighCorner_53 rfl ?_
      refine a_lconst0 A dX2_weighCorner_55 ?_
      refine a_lcmp_le (tgt := 83) A dX2_weighCorner_56 dX2_weighCorner_57 (by decide) (by omega) (by omega) (fun h56 => ?_) (fun h56 => ?_)
      · refine a_iinc (z := (i : Int)) (lv' := [.ref 21, vl (sumZ (zqt M) i), jk, vi ((i : Int) + 1), vl (((M 25 i) * (M 41 ((M 23 i).toNat))) - ((M 26 i) * (M 41 ((M 22 i).toNat)))), jk]) A dX2_weighCorner_83 rfl (by decide) rfl ?_
        refine a_goto (tgt := 4) A dX2_weighCorner_86 (by decide) ?_
        have hd0 : ¬ 0 < zqd M i := by unfold zqd; omega
        have hs : (sumZ (zqt M) i) = sumZ (zqt M) (i + 1) := by show _ = sumZ (zqt M) i + zqt M i; unfold zqt; rw [if_neg hd0, Int.add_zero]
        rw [hs]
        exact ih (i + 1) _ (by omega) (by omega)
      · refine a_lload_n (z := (sumZ (zqt M) i)) A dX2_weighCorner_60 rfl ?_
        refine a_aload_n (z := 21) A dX2_weighCorner_61 rfl ?_
        refine gf_X2_18 (r := 24) A dX2_weighCorner_62 rfl (by decide) rfl ?_
        refine a_iload_n (z := (i : Int)) A dX2_weighCorner_65 rfl ?_
        refine a_iaload (i := (i : Int)) (x := M 24 i) A dX2_weighCorner_66 rfl (by decide) (by decide) (by omega) rfl ?_
        refine a_aload_n (z := 21) A dX2_weighCorner_67 rfl ?_
        refine gf_X2_24 (r := 26) A dX2_weighCorner_68 rfl (by decide) rfl ?_
        refine a_iload_n (z := (i : Int)) A dX2_weighCorner_71 rfl ?_
        refine a_iaload (i := (i : Int)) (x := M 26 i) A dX2_weighCorner_72 rfl (by decide) (by decide) (by omega) rfl ?_
        refine m_invSi A (c_X4_partsOfOne G _ (M 26 i) M (by omega)) (by decide) mi_X4_partsOfOne ms_X4_partsOfOne cs_X2_118 dX2_weighCorner_73 rfl rfl (Nat.le_of_ble_eq_true rfl) (fun z73 M73 h73 => ?_)
        obtain ⟨e73, rfl⟩ := h73
        have e73 := e73.symm
        subst e73
        refine a_imul (x := (M 24 i)) (y := ((2520 : Int).tdiv (M 26 i))) A dX2_weighCorner_76 ?_
        refine a_i2l A dX2_weighCorner_77 (by omega) ?_
        refine a_lload (z := (((M 25 i) * (M 41 ((M 23 i).toNat))) - ((M 26 i) * (M 41 ((M 22 i).toNat))))) A dX2_weighCorner_78 rfl ?_
        refine a_lmul (x := ((M 24 i) * ((2520 : Int).tdiv (M 26 i)))) (y := (((M 25 i) * (M 41 ((M 23 i).toNat))) - ((M 26 i) * (M 41 ((M 22 i).toNat))))) A dX2_weighCorner_80 ?_
        refine a_ladd (x := (sumZ (zqt M) i)) (y := (((M 24 i) * ((2520 : Int).tdiv (M 26 i))) * (((M 25 i) * (M 41 ((M 23 i).toNat))) - ((M 26 i) * (M 41 ((M 22 i).toNat)))))) A dX2_weighCorner_81 ?_
        refine a_lstore_n (lv' := [.ref 21, vl ((sumZ (zqt M) i) + (((M 24 i) * ((2520 : Int).tdiv (M 26 i))) * (((M 25 i) * (M 41 ((M 23 i).toNat))) - ((M 26 i) * (M 41 ((M 22 i).toNat)))))), jk, vi (i : Int), vl (((M 25 i) * (M 41 ((M 23 i).toNat))) - ((M 26 i) * (M 41 ((M 22 i).toNat)))), jk]) A dX2_weighCorner_82 (by decide) rfl ?_
        refine a_iinc (z := (i : Int)) (lv' := [.ref 21, vl ((sumZ (zqt M) i) + (((M 24 i) * ((2520 : Int).tdiv (M 26 i))) * (((M 25 i) * (M 41 ((M 23 i).toNat))) - ((M 26 i) * (M 41 ((M 22 i).toNat)))))), jk, vi ((i : Int) + 1), vl (((M 25 i) * (M 41 ((M 23 i).toNat))) - ((M 26 i) * (M 41 ((M 22 i).toNat)))), jk]) A dX2_weighCorner_83 rfl (by decide) rfl ?_
        refine a_goto (tgt := 4) A dX2_weighCorner_86 (by decide) ?_
        have hd0 : 0 < zqd M i := by unfold zqd; omega
        have hs : ((sumZ (zqt M) i) + (((M 24 i) * ((2520 : Int).tdiv (M 26 i))) * (((M 25 i) * (M 41 ((M 23 i).toNat))) - ((M 26 i) * (M 41 ((M 22 i).toNat)))))) = sumZ (zqt M) (i + 1) := by show _ = sumZ (zqt M) i + zqt M i; rw [show zqt M i = M 24 i * (2520 : Int).tdiv (M 26 i) * zqd M i from if_pos hd0]; rfl
        rw [hs]
        exact ih (i + 1) _ (by omega) (by omega)
set_option maxRecDepth 100000 in
set_option maxHeartbeats 4000000 in
theorem c_X2_weighCorner (G : GG) (l : Launch) (M : MM) (h : ZPR M) (h15 : 0 ≤ M 21 15 ∧ M 21 15 ≤ 492317280000) (h16 : 0 ≤ M 21 16 ∧ M 21 16 ≤ 7514) (h4 : 0 ≤ M 41 4) : CMv G l yX2_weighCorner cX2_weighCorner 6 none 2 [.ref 21] M (fun M' => M' = zqC M) := by
  refine CT.intro (by decide) (Nat.le_of_ble_eq_true rfl) (fun E hE A T0 => ?_)
  subst hE
  have hL := h.1
  have h44 := h.2.2 4 (by decide)
  have hsm := zq_sumt h (M 21 5).toNat (by omega)
  have hm1 := mul_bd (a := (sumZ (zqt M) (M 21 5).toNat)) (b := M 21 16) (A := 492317280000) (B := 7514) (by omega) h16
  have hm2 := mul_bd (a := M 21 15) (b := M 41 4) (A := 492317280000) (B := 7514) h15 (by omega)
  refine a_lconst0 A dX2_weighCorner_0 ?_
  refine a_lstore_n (lv' := [.ref 21, vl 0, jk, jk, jk, jk]) A dX2_weighCorner_1 (by decide) rfl ?_
  refine a_iconst A dX2_weighCorner_2 ?_
  refine a_istore_n (lv' := [.ref 21, vl 0, jk, vi 0, jk, jk]) A dX2_weighCorner_3 (by decide) rfl ?_
  refine wc_loop2 A M h ?_ ((M 21 5).toNat + 1) 0 jk (by omega) (by omega)
  intro j w4
  refine a_aload_n (z := 21) A dX2_weighCorner_89 rfl ?_
  refine gf_X2_65 (x := M 21 16) A dX2_weighCorner_90 rfl (by decide) rfl ?_
  refine a_lconst0 A dX2_weighCorner_93 ?_
  refine a_lcmp_eq (tgt := 119) A dX2_weighCorner_94 dX2_weighCorner_95 (by decide) (by omega) (by omega) (fun h94 => ?_) (fun h94 => ?_)
  · refine a_aload_n (z := 21) A dX2_weighCorner_119 rfl ?_
    refine a_lload_n (z := (sumZ (zqt M) (M 21 5).toNat)) A dX2_weighCorner_120 rfl ?_
    refine pf_X2_62 A dX2_weighCorner_121 rfl (by decide) ?_
    refine a_aload_n (z := 21) A dX2_weighCorner_124 rfl ?_
    refine a_aload_n (z := 21) A dX2_weighCorner_125 rfl ?_
    refine gf_X2_39 (r := 41) A dX2_weighCorner_126 rfl (by decide) rfl ?_
    refine a_iconst A dX2_weighCorner_129 ?_
    refine a_laload (i := 4) (x := M 41 4) A dX2_weighCorner_130 rfl (by decide) (by decide) (by omega) rfl ?_
    refine pf_X2_65 A dX2_weighCorner_131 rfl (by decide) ?_
    exact m_return A T0 dX2_weighCorner_134 (by first | (show _ = zqC M; rw [zqC, cif_t (Or.inl h94)]) | (show _ = zqC M; rw [zqC, cif_t (Or.inr h115)]) | (show _ = zqC M; rw [zqC, cif_f (fun q => q.elim h94 (fun r => by omega))]))
  · refine a_lload_n (z := (sumZ (zqt M) (M 21 5).toNat)) A dX2_weighCorner_98 rfl ?_
    refine a_aload_n (z := 21) A dX2_weighCorner_99 rfl ?_
    refine gf_X2_65 (x := M 21 16) A dX2_weighCorner_100 rfl (by decide) rfl ?_
    refine a_lmul (x := (sumZ (zqt M) (M 21 5).toNat)) (y := (M 21 16)) A dX2_weighCorner_103 ?_
    refine a_aload_n (z := 21) A dX2_weighCorner_104 rfl ?_
    refine gf_X2_62 (x := M 21 15) A dX2_weighCorner_105 rfl (by decide) rfl ?_
    refine a_aload_n (z := 21) A dX2_weighCorner_108 rfl ?_
    refine gf_X2_39 (r := 41) A dX2_weighCorner_109 rfl (by decide) rfl ?_
    refine a_iconst A dX2_weighCorner_112 ?_
    refine a_laload (i := 4) (x := M 41 4) A dX2_weighCorner_113 rfl (by decide) (by decide) (by omega) rfl ?_
    refine a_lmul (x := (M 21 15)) (y := (M 41 4)) A dX2_weighCorner_114 ?_
    refine a_lcmp_ge (tgt := 134) A dX2_weighCorner_115 dX2_weighCorner_116 (by decide) (by omega) (by omega) (fun h115 => ?_) (fun h115 => ?_)
    · exact m_return A T0 dX2_weighCorner_134 (by first | (show _ = zqC M; rw [zqC, cif_t (Or.inl h94)]) | (show _ = zqC M; rw [zqC, cif_t (Or.inr h115)]) | (show _ = zqC M; rw [zqC, cif_f (fun q => q.elim h94 (fun r => by omega))]))
    · refine a_aload_n (z := 21) A dX2_weighCorner_119 rfl ?_
      refine a_lload_n (z := (sumZ (zqt M) (M 21 5).toNat)) A dX2_weighCorner_120 rfl ?_
      refine pf_X2_62 A dX2_weighCorner_121 rfl (by decide) ?_
      refine a_aload_n (z := 21) A dX2_weighCorner_124 rfl ?_
      refine a_aload_n (z := 21) A dX2_weighCorner_125 rfl ?_
      refine gf_X2_39 (r := 41) A dX2_weighCorner_126 rfl (by decide) rfl ?_
      refine a_iconst A dX2_weighCorner_129 ?_
      refine a_laload (i := 4) (x := M 41 4) A dX2_weighCorner_130 rfl (by decide) (by decide) (by omega) rfl ?_
      refine pf_X2_65 A dX2_weighCorner_131 rfl (by decide) ?_
      exact m_return A T0 dX2_weighCorner_134 (by first | (show _ = zqC M; rw [zqC, cif_t (Or.inl h94)]) | (show _ = zqC M; rw [zqC, cif_t (Or.inr h115)]) | (show _ = zqC M; rw [zqC, cif_f (fun q => q.elim h94 (fun r => by omega))]))
