/-! what load lays: from, to, rooms, p, q -/
theorem zcol_up (M : MM) {c c2 : Nat} (h : c2 ≠ c) (g : Nat → Int) (i j : Nat) (x : Int) : up2 (zcol M c g i) c2 j x = zcol (up2 M c2 j x) c g i := by
  funext c'
  unfold up2 zcol
  by_cases h1 : c' = c2
  · have h2 : ¬ c' = c := by omega
    simp only [if_pos h1, if_neg h2]
  · by_cases h3 : c' = c
    · simp only [if_neg h1, if_pos h3]
    · simp only [if_neg h1, if_neg h3]
theorem zcol_ne (M : MM) {c c' : Nat} (h : c' ≠ c) (g : Nat → Int) (i : Nat) : zcol M c g i c' = M c' := if_neg h
def ldt (M : MM) (k : Nat) : Int := if M (3 + k) 1 = M 1 0 - 1 then 4 else M (3 + k) 1
def ldp (M : MM) (w : Int) (k : Nat) : Int := if w = 1 then (if 0 < M (3 + k) 3 - M (3 + k) 5 then M (3 + k) 3 - M (3 + k) 5 else 0) else if w = 2 then M (3 + k) 3 + M (3 + k) 5 else M (3 + k) 3
def zld (M : MM) (w : Int) (i : Nat) : MM := zcol (zcol (zcol (zcol (zcol M 22 (fun k => M (3 + k) 0) i) 23 (ldt M) i) 24 (fun k => M (3 + k) 2) i) 25 (ldp M w) i) 26 (fun k => M (3 + k) 4) i
theorem zld_0 (M : MM) (w : Int) : zld M w 0 = M := by unfold zld; rw [zcol_0, zcol_0, zcol_0, zcol_0, zcol_0]
theorem zld_ne (M : MM) (w : Int) {c : Nat} (h : c < 22) (i : Nat) : zld M w i c = M c := by unfold zld; rw [zcol_ne _ (by omega), zcol_ne _ (by omega), zcol_ne _ (by omega), zcol_ne _ (by omega), zcol_ne _ (by omega)]
theorem zld_s (M : MM) (w : Int) (i : Nat) : up2 (up2 (up2 (up2 (up2 (zld M w i) 22 i (M (3 + i) 0)) 23 i (ldt M i)) 24 i (M (3 + i) 2)) 25 i (ldp M w i)) 26 i (M (3 + i) 4) = zld M w (i + 1) := by
  unfold zld
  rw [zcol_up _ (show 22 ≠ 26 by decide), zcol_up _ (show 22 ≠ 25 by decide), zcol_up _ (show 22 ≠ 24 by decide), zcol_up _ (show 22 ≠ 23 by decide)]
  rw [zcol_up _ (show 23 ≠ 26 by decide), zcol_up _ (show 23 ≠ 25 by decide), zcol_up _ (show 23 ≠ 24 by decide)]
  rw [zcol_up _ (show 24 ≠ 26 by decide), zcol_up _ (show 24 ≠ 25 by decide), zcol_up _ (show 25 ≠ 26 by decide)]
  have e0 := zcol_s M 22 (fun k => M (3 + k) 0) i
  have e1 := fun X => zcol_s X 23 (ldt M) i
  have e2 := fun X => zcol_s X 24 (fun k => M (3 + k) 2) i
  have e3 := fun X => zcol_s X 25 (ldp M w) i
  have e4 := fun X => zcol_s X 26 (fun k => M (3 + k) 4) i
  have e0 : up2 (zcol M 22 (fun k => M (3 + k) 0) i) 22 i (M (3 + i) 0) = zcol M 22 (fun k => M (3 + k) 0) (i + 1) := e0
  have e2 : ∀ X, up2 (zcol X 24 (fun k => M (3 + k) 2) i) 24 i (M (3 + i) 2) = zcol X 24 (fun k => M (3 + k) 2) (i + 1) := e2
  have e4 : ∀ X, up2 (zcol X 26 (fun k => M (3 + k) 4) i) 26 i (M (3 + i) 4) = zcol X 26 (fun k => M (3 + k) 4) (i + 1) := e4
  rw [e0, e1, e2, e3, e4]
set_option maxRecDepth 100000 in
set_option maxHeartbeats 4000000 in
theorem ld_loop2 {G : GG} {E : EE} {P : MM → Prop} (A : AmM G E cX2_load 5 yX2_load.cls 2) (T0 : RT E G yX2_load 108 0 0 none (fun r rf' M' => rf' = rF ∧ r = none ∧ P M')) (w : Int) (M : MM) (hw : I32 w) (hW : CW M) (hs : M 21 5 = M 1 1) (hp : P (zld M w (M 1 1).toNat)) : ∀ (n : Nat) (i : Nat) (w4 : Value), (M 1 1).toNat - i < n → (i : Int) ≤ M 1 1 → AM G E 5 10 [.ref 21, .ref 1, vi w, vi (i : Int), w4] [] (zld M w i) := by
  intro n
  induction n with
  | zero => intro i w4 hn hi; exfalso; omega
  | succ n ih =>
    intro i w4 hn hi
    have hL := hW.2.1
    have hP := hW.1
    have hl0 : (i : Int) < M 1 1 → CL M i := hW.2.2 i
    unfold CL at hl0
    have n0 : 3 + i < 22 := by omega
    have n22 : 3 + i ≠ 22 := by omega
    have n23 : 3 + i ≠ 23 := by omega
    have n24 : 3 + i ≠ 24 := by omega
    have n25 : 3 + i ≠ 25 := by omega
    refine a_iload_n (z := (i : Int)) A dX2_load_10 rfl ?_
    refine a_aload_n (z := 21) A dX2_load_11 rfl ?_
    refine gf_X2_27 (x := (M 21 5)) A dX2_load_12 rfl (by decide) rfl ?_
    refine a_icmp_ge (tgt := 99) A dX2_load_15 (by decide) (by omega) (by omega) (fun h15 => ?_) (fun h15 => ?_)
    · exact m_return A T0 dX2_load_99 (by rw [show (M 1 1).toNat = i by omega] at hp; exact hp)
    · refine a_aload_n (z := 1) A dX2_load_18 rfl ?_
      refine gf_X2_71 (r := 2) A dX2_load_19 rfl (by decide) rfl ?_
      refine a_iload_n (z := (i : Int)) A dX2_load_22 rfl ?_
      refine a_aaload (i := (i : Int)) (r := (3 + i)) A dX2_load_23 rfl (Or.inr rfl) (by decide) (by decide) (by omega) (rf2 (by omega)) ?_
      refine a_astore (lv' := [.ref 21, .ref 1, vi w, vi (i : Int), .ref (3 + i)]) A dX2_load_24 (by decide) rfl ?_
      refine a_aload_n (z := 21) A dX2_load_26 rfl ?_
      refine gf_X2_9 (r := 22) A dX2_load_27 rfl (by decide) rfl ?_
      refine a_iload_n (z := (i : Int)) A dX2_load_30 rfl ?_
      refine a_aload (z := (3 + i)) A dX2_load_31 rfl ?_
      refine a_iconst A dX2_load_33 ?_
      refine a_iaload (i := 0) (x := (M (3 + i) 0)) A dX2_load_34 (ly3 (by omega)) (by omega) (by decide) (by omega) (by simp only [up2_ne _ _ _ _ n22, up2_ne _ _ _ _ n23, up2_ne _ _ _ _ n24, up2_ne _ _ _ _ n25, zld_ne M w n0]; rfl) ?_
      refine a_iastore (i := (i : Int)) (j := i) A dX2_load_35 rfl (by decide) (by decide) (by omega) rfl ?_
      refine a_aload_n (z := 21) A dX2_load_36 rfl ?_
      refine gf_X2_15 (r := 23) A dX2_load_37 rfl (by decide) rfl ?_
      refine a_iload_n (z := (i : Int)) A dX2_load_40 rfl ?_
      refine a_aload (z := (3 + i)) A dX2_load_41 rfl ?_
      refine a_iconst A dX2_load_43 ?_
      refine a_iaload (i := 1) (x := (M (3 + i) 1)) A dX2_load_44 (ly3 (by omega)) (by omega) (by decide) (by omega) (by simp only [up2_ne _ _ _ _ n22, up2_ne _ _ _ _ n23, up2_ne _ _ _ _ n24, up2_ne _ _ _ _ n25, zld_ne M w n0]; rfl) ?_
      refine a_aload_n (z := 1) A dX2_load_45 rfl ?_
      refine m_invVi A (c_X1_lastPost G _ (up2 (zld M w i) 22 i (M (3 + i) 0))) (by decide) mi_X1_lastPost mv_X1_lastPost cs_X2_74 cf1 dX2_load_46 rfl (by decide) rfl rfl (Nat.le_of_ble_eq_true rfl) (fun z46 M46 h46 => ?_)
      obtain ⟨e46, hc46⟩ := h46
      have e46 := e46.symm
      subst e46
      have hz46 : z46 = M 1 0 - 1 := hc46
      subst hz46
      refine a_icmp_ne (tgt := 56) A dX2_load_49 (by decide) (by omega) (by omega) (fun h49 => ?_) (fun h49 => ?_)
      · refine a_aload (z := (3 + i)) A dX2_load_56 rfl ?_
        refine a_iconst A dX2_load_58 ?_
        refine a_iaload (i := 1) (x := (M (3 + i) 1)) A dX2_load_59 (ly3 (by omega)) (by omega) (by decide) (by omega) (by simp only [up2_ne _ _ _ _ n22, up2_ne _ _ _ _ n23, up2_ne _ _ _ _ n24, up2_ne _ _ _ _ n25, zld_ne M w n0]; rfl) ?_
        refine a_iastore (i := (i : Int)) (j := i) A dX2_load_60 rfl (by decide) (by decide) (by omega) rfl ?_
        refine a_aload_n (z := 21) A dX2_load_61 rfl ?_
        refine gf_X2_18 (r := 24) A dX2_load_62 rfl (by decide) rfl ?_
        refine a_iload_n (z := (i : Int)) A dX2_load_65 rfl ?_
        refine a_aload (z := (3 + i)) A dX2_load_66 rfl ?_
        refine a_iconst A dX2_load_68 ?_
        refine a_iaload (i := 2) (x := (M (3 + i) 2)) A dX2_load_69 (ly3 (by omega)) (by omega) (by decide) (by omega) (by simp only [up2_ne _ _ _ _ n22, up2_ne _ _ _ _ n23, up2_ne _ _ _ _ n24, up2_ne _ _ _ _ n25, zld_ne M w n0]; rfl) ?_
        refine a_iastore (i := (i : Int)) (j := i) A dX2_load_70 rfl (by decide) (by decide) (by omega) rfl ?_
        refine a_aload_n (z := 21) A dX2_load_71 rfl ?_
        refine gf_X2_21 (r := 25) A dX2_load_72 rfl (by decide) rfl ?_
        refine a_iload_n (z := (i : Int)) A dX2_load_75 rfl ?_
        refine a_aload (z := (3 + i)) A dX2_load_76 rfl ?_
        refine a_iload_n (z := w) A dX2_load_78 rfl ?_
        refine m_invSi A (c_X2_upperOfShare G _ (3 + i) w (up2 (up2 (up2 (zld M w i) 22 i (M (3 + i) 0)) 23 i (M (3 + i) 1)) 24 i (M (3 + i) 2)) (ly3 (by omega)) (by omega) (by omega) (by rw [show (up2 (up2 (up2 (zld M w i) 22 i (M (3 + i) 0)) 23 i (M (3 + i) 1)) 24 i (M (3 + i) 2)) (3 + i) = M (3 + i) by simp only [up2_ne _ _ _ _ n22, up2_ne _ _ _ _ n23, up2_ne _ _ _ _ n24, up2_ne _ _ _ _ n25, zld_ne M w n0]]; omega) (by rw [show (up2 (up2 (up2 (zld M w i) 22 i (M (3 + i) 0)) 23 i (M (3 + i) 1)) 24 i (M (3 + i) 2)) (3 + i) = M (3 + i) by simp only [up2_ne _ _ _ _ n22, up2_ne _ _ _ _ n23, up2_ne _ _ _ _ n24, up2_ne _ _ _ _ n25, zld_ne M w n0]]; omega)) (by decide) mi_X2_upperOfShare ms_X2_upperOfShare cs_X2_78 dX2_load_79 rfl rfl (Nat.le_of_ble_eq_true rfl) (fun z79 M79 h79 => ?_)
        obtain ⟨e79, hc79⟩ := h79
        have e79 := e79.symm
        subst e79
        rw [show (up2 (up2 (up2 (zld M w i) 22 i (M (3 + i) 0)) 23 i (M (3 + i) 1)) 24 i (M (3 + i) 2)) (3 + i) = M (3 + i) by simp only [up2_ne _ _ _ _ n22, up2_ne _ _ _ _ n23, up2_ne _ _ _ _ n24, up2_ne _ _ _ _ n25, zld_ne M w n0]] at hc79
        have hz79 : z79 = ldp M w i := hc79.elim (fun q => by rw [q.2]; exact (if_pos q.1).symm) (fun q => q.elim (fun q => by rw [q.2.2]; exact ((if_neg q.1).trans (if_pos q.2.1)).symm) (fun q => by rw [q.2.2]; exact ((if_neg q.1).trans (if_neg q.2.1)).symm))
        subst hz79
        refine a_iastore (i := (i : Int)) (j := i) A dX2_load_82 rfl (by decide) (by decide) (by omega) rfl ?_
        refine a_aload_n (z := 21) A dX2_load_83 rfl ?_
        refine gf_X2_24 (r := 26) A dX2_load_84 rfl (by decide) rfl ?_
        refine a_iload_n (z := (i : Int)) A dX2_load_87 rfl ?_
        refine a_aload (z := (3 + i)) A dX2_load_88 rfl ?_
        refine a_iconst A dX2_load_90 ?_
        refine a_iaload (i := 4) (x := (M (3 + i) 4)) A dX2_load_91 (ly3 (by omega)) (by omega) (by decide) (by omega) (by simp only [up2_ne _ _ _ _ n22, up2_ne _ _ _ _ n23, up2_ne _ _ _ _ n24, up2_ne _ _ _ _ n25, zld_ne M w n0]; rfl) ?_
        refine a_iastore (i := (i : Int)) (j := i) A dX2_load_92 rfl (by decide) (by decide) (by omega) rfl ?_
        refine a_iinc (z := (i : Int)) (lv' := [.ref 21, .ref 1, vi w, vi ((i : Int) + 1), .ref (3 + i)]) A dX2_load_93 rfl (by decide) rfl ?_
        refine a_goto (tgt := 10) A dX2_load_96 (by decide) ?_
        have e1 : ldt M i = M (3 + i) 1 := if_neg h49
        have hq := zld_s M w i
        rw [e1] at hq
        rw [hq]
        exact ih (i + 1) _ (by omega) (by omega)
      · refine a_iconst A dX2_load_52 ?_
        refine a_goto (tgt := 60) A dX2_load_53 (by decide) ?_
        refine a_iastore (i := (i : Int)) (j := i) A dX2_load_60 rfl (by decide) (by decide) (by omega) rfl ?_
        refine a_aload_n (z := 21) A dX2_load_61 rfl ?_
        refine gf_X2_18 (r := 24) A dX2_load_62 rfl (by decide) rfl ?_
        refine a_iload_n (z := (i : Int)) A dX2_load_65 rfl ?_
        refine a_aload (z := (3 + i)) A dX2_load_66 rfl ?_
        refine a_iconst A dX2_load_68 ?_
        refine a_iaload (i := 2) (x := (M (3 + i) 2)) A dX2_load_69 (ly3 (by omega)) (by omega) (by decide) (by omega) (by simp only [up2_ne _ _ _ _ n22, up2_ne _ _ _ _ n23, up2_ne _ _ _ _ n24, up2_ne _ _ _ _ n25, zld_ne M w n0]; rfl) ?_
        refine a_iastore (i := (i : Int)) (j := i) A dX2_load_70 rfl (by decide) (by decide) (by omega) rfl ?_
        refine a_aload_n (z := 21) A dX2_load_71 rfl ?_
        refine gf_X2_21 (r := 25) A dX2_load_72 rfl (by decide) rfl ?_
        refine a_iload_n (z := (i : Int)) A dX2_load_75 rfl ?_
        refine a_aload (z := (3 + i)) A dX2_load_76 rfl ?_
        refine a_iload_n (z := w) A dX2_load_78 rfl ?_
        refine m_invSi A (c_X2_upperOfShare G _ (3 + i) w (up2 (up2 (up2 (zld M w i) 22 i (M (3 + i) 0)) 23 i 4) 24 i (M (3 + i) 2)) (ly3 (by omega)) (by omega) (by omega) (by rw [show (up2 (up2 (up2 (zld M w i) 22 i (M (3 + i) 0)) 23 i 4) 24 i (M (3 + i) 2)) (3 + i) = M (3 + i) by simp only [up2_ne _ _ _ _ n22, up2_ne _ _ _ _ n23, up2_ne _ _ _ _ n24, up2_ne _ _ _ _ n25, zld_ne M w n0]]; omega) (by rw [show (up2 (up2 (up2 (zld M w i) 22 i (M (3 + i) 0)) 23 i 4) 24 i (M (3 + i) 2)) (3 + i) = M (3 + i) by simp only [up2_ne _ _ _ _ n22, up2_ne _ _ _ _ n23, up2_ne _ _ _ _ n24, up2_ne _ _ _ _ n25, zld_ne M w n0]]; omega)) (by decide) mi_X2_upperOfShare ms_X2_upperOfShare cs_X2_78 dX2_load_79 rfl rfl (Nat.le_of_ble_eq_true rfl) (fun z79 M79 h79 => ?_)
        obtain ⟨e79, hc79⟩ := h79
        have e79 := e79.symm
        subst e79
        rw [show (up2 (up2 (up2 (zld M w i) 22 i (M (3 + i) 0)) 23 i 4) 24 i (M (3 + i) 2)) (3 + i) = M (3 + i) by simp only [up2_ne _ _ _ _ n22, up2_ne _ _ _ _ n23, up2_ne _ _ _ _ n24, up2_ne _ _ _ _ n25, zld_ne M w n0]] at hc79
        have hz79 : z79 = ldp M w i := hc79.elim (fun q => by rw [q.2]; exact (if_pos q.1).symm) (fun q => q.elim (fun q => by rw [q.2.2]; exact ((if_neg q.1).trans (if_pos q.2.1)).symm) (fun q => by rw [q.2.2]; exact ((if_neg q.1).trans (if_neg q.2.1)).symm))
        subst hz79
        refine a_iastore (i := (i : Int)) (j := i) A dX2_load_82 rfl (by decide) (by decide) (by omega) rfl ?_
        refine a_aload_n (z := 21) A dX2_load_83 rfl ?_
        refine gf_X2_24 (r := 26) A dX2_load_84 rfl (by decide) rfl ?_
        refine a_iload_n (z := (i : Int)) A dX2_load_87 rfl ?_
        refine a_aload (z := (3 + i)) A dX2_load_88 rfl ?_
        refine a_iconst A dX2_load_90 ?_
        refine a_iaload (i := 4) (x := (M (3 + i) 4)) A dX2_load_91 (ly3 (by omega)) (by omega) (by decide) (by omega) (by simp only [up2_ne _ _ _ _ n22, up2_ne _ _ _ _ n23, up2_ne _ _ _ _ n24, up2_ne _ _ _ _ n25, zld_ne M w n0]; rfl) ?_
        refine a_iastore (i := (i : Int)) (j := i) A dX2_load_92 rfl (by decide) (by decide) (by omega) rfl ?_
        refine a_iinc (z := (i : Int)) (lv' := [.ref 21, .ref 1, vi w, vi ((i : Int) + 1), .ref (3 + i)]) A dX2_load_93 rfl (by decide) rfl ?_
        refine a_goto (tgt := 10) A dX2_load_96 (by decide) ?_
        have e1 : ldt M i = 4 := if_pos h49
        have hq := zld_s M w i
        rw [e1] at hq
        rw [hq]
        exact ih (i + 1) _ (by omega) (by omega)
set_option maxRecDepth 100000 in
set_option maxHeartbeats 4000000 in
theorem c_X2_load (G : GG) (l : Launch) (w : Int) (M : MM) (hw : I32 w) (hW : CW M) : CMv G l yX2_load cX2_load 5 none 2 [.ref 21, .ref 1, vi w] M (fun M' => M' = zld (up2 M 21 5 (M 1 1)) w (M 1 1).toNat) := by
  refine CT.intro (by decide) (Nat.le_of_ble_eq_true rfl) (fun E hE A T0 => ?_)
  subst hE
  refine a_aload_n (z := 21) A dX2_load_0 rfl ?_
  refine a_aload_n (z := 1) A dX2_load_1 rfl ?_
  refine gf_X2_68 (x := M 1 1) A dX2_load_2 rfl (by decide) rfl ?_
  refine pf_X2_27 A dX2_load_5 rfl (by decide) ?_
  refine a_iconst A dX2_load_8 ?_
  refine a_istore_n (lv' := [.ref 21, .ref 1, vi w, vi 0, jk]) A dX2_load_9 (by decide) rfl ?_
  have hL := hW.2.1
  have hWX : CW (up2 M 21 5 (M 1 1)) := CW.fz (fun c hc => up2_ne _ _ _ _ (by omega)) hW
  have hk := ld_loop2 A T0 w (up2 M 21 5 (M 1 1)) hw hWX rfl rfl ((M 1 1).toNat + 1) 0 jk (show (M 1 1).toNat - 0 < (M 1 1).toNat + 1 by omega) (show (0 : Int) ≤ M 1 1 by omega)
  rw [zld_0] at hk
  exact hk
