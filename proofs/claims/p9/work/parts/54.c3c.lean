set_option maxRecDepth 100000 in
set_option maxHeartbeats 4000000 in
theorem c_X3_walk (G : GG) (l : Launch) (M0 : MM) (hw : CW M0) (h6 : M0 16 6 = 0 ∨ M0 16 6 = 1) (hg : I32 (M0 16 5)) : ∀ (f : Nat) (v : Int) (dp ps : Nat) (M : MM), dp + f = 4 → I32 v → ps < 32 → ZKI M0 dp M → CMv G l yX3_walk cX3_walk 8 none (f + 5) [.ref 16, .ref 1, vi v, vi (dp : Int), vi (ps : Int)] M (fun M' => M' = zqk f v dp ps M) := by
  intro f
  induction f with
  | zero =>
    intro v dp ps M hd hv hps hI
    refine CT.intro (by decide) (Nat.le_of_ble_eq_true rfl) (fun E hE A T0 => ?_)
    subst hE
    refine a_iload_n (z := (dp : Int)) A dX3_walk_0 rfl ?_
    refine a_iconst A dX3_walk_1 ?_
    refine a_icmp_lt (tgt := 6) A dX3_walk_2 (by decide) (by omega) (by omega) (fun h2 => ?_) (fun h2 => ?_)
    · exfalso
      omega
    · exact m_return A T0 dX3_walk_5 (by rfl)
  | succ f ih =>
    intro v dp ps M hd hv hps hI
    refine CT.intro (by decide) (Nat.le_of_ble_eq_true rfl) (fun E hE A T0 => ?_)
    subst hE
    have hL := hw.2.1
    have hsz := hI.size
    refine a_iload_n (z := (dp : Int)) A dX3_walk_0 rfl ?_
    refine a_iconst A dX3_walk_1 ?_
    refine a_icmp_lt (tgt := 6) A dX3_walk_2 (by decide) (by omega) (by omega) (fun h2 => ?_) (fun h2 => ?_)
    · refine a_iconst A dX3_walk_6 ?_
      refine a_istore (lv' := [.ref 16, .ref 1, vi v, vi (dp : Int), vi (ps : Int), vi 0, jk, jk]) A dX3_walk_7 (by decide) rfl ?_
      have e0 : zqk (f + 1) v dp ps M = zqi (fun t p X => zqk f t (dp + 1) p X) v dp ps (M 1 1).toNat 0 M := rfl
      refine wk_loop3 (f := f) A T0 (fun t p X => zqk f t (dp + 1) p X) v dp ps M0 hw h6 hg hv (by omega) hps (fun t p X hX => zq_wk_keep hw f t (dp + 1) p X (by omega) hX) (fun t p X ht hp hX => ih t (dp + 1) p X (by omega) ht hp hX) ((M0 1 1).toNat + 1) 0 M _ _ (by omega) hI (by omega) ?_
      rw [e0, hsz]
      rfl
    · exfalso; omega
def zqg (M : MM) (g : Int) : MM := up2 (up2 (up2 (up2 M 16 6 g) 16 4 0) 16 7 0) 16 8 0
theorem zq_BK0 {M : MM} (h : M 16 4 = 0) : BKc M := ⟨by omega, fun k hk => by omega, fun q => absurd h q⟩
theorem zq_fcg (M : MM) (g : Int) : FC M (zqg M g) := ((((FC.rf M).up (by omega) _ _).up (by omega) _ _).up (by omega) _ _).up (by omega) _ _
theorem zq_K0 {M : MM} (h : BKc M) : ZKI M 0 M := ⟨FC.rf M, ⟨rfl, rfl⟩, fun k hk => absurd hk (Nat.not_lt_zero k), h⟩
noncomputable def zqF (M : MM) (v t : Int) : MM := zqk 4 v 0 (zqb v) (up2 (zqg M 0) 16 5 t)
theorem zq_F_keep {M : MM} (hw : CW M) (v t : Int) : ZKI (up2 (zqg M 0) 16 5 t) 0 (zqF M v t) := (zq_wk_keep (FC.cw ((zq_fcg M 0).up (by omega) _ _) hw) 4 v 0 (zqb v) _ rfl (zq_K0 (zq_BK0 rfl))).1
theorem zq_b32 {t : Int} (h : 0 ≤ t ∧ t < 5) : zqb t < 32 := (zq_bs_all t.toNat (by omega)).2.2.1
set_option maxRecDepth 100000 in
set_option maxHeartbeats 4000000 in
theorem c_X3_findWays (G : GG) (l : Launch) (v t : Int) (M : MM) (hw : CW M) (hv : 0 ≤ v ∧ v < 5) (ht : I32 t) : CMv G l yX3_findWays cX3_findWays 4 none 10 [.ref 16, .ref 1, vi v, vi t] M (fun M' => M' = zqF M v t) := by
  refine CT.intro (by decide) (Nat.le_of_ble_eq_true rfl) (fun E hE A T0 => ?_)
  subst hE
  refine a_aload_n (z := 16) A dX3_findWays_0 rfl ?_
  refine a_iconst A dX3_findWays_1 ?_
  refine m_invVv A (c_X3_begin G _ 0 M (by omega)) (by decide) mi_X3_begin mv_X3_begin cs_X3_45 cf3 dX3_findWays_2 rfl (by decide) rfl rfl (Nat.le_of_ble_eq_true rfl) (fun M2 h2 => ?_)
  have h2 := h2.symm
  subst h2
  refine a_aload_n (z := 16) A dX3_findWays_5 rfl ?_
  refine a_iload_n (z := t) A dX3_findWays_6 rfl ?_
  refine pf_X3_32 A dX3_findWays_7 rfl (by decide) ?_
  refine a_aload_n (z := 16) A dX3_findWays_10 rfl ?_
  refine a_aload_n (z := 1) A dX3_findWays_11 rfl ?_
  refine a_iload_n (z := v) A dX3_findWays_12 rfl ?_
  refine a_iconst A dX3_findWays_13 ?_
  refine a_iconst A dX3_findWays_14 ?_
  refine a_iload_n (z := v) A dX3_findWays_15 rfl ?_
  refine a_ishl (z := (zqb v : Int)) A dX3_findWays_16 (zq_bt_shl hv) ?_
  refine m_invVv A (c_X3_walk G _ (up2 (zqg M 0) 16 5 t) (FC.cw ((zq_fcg M 0).up (by omega) _ _) hw) (Or.inl rfl) ht 4 v 0 (zqb v) (up2 (up2 (up2 (up2 (up2 M 16 6 0) 16 4 0) 16 7 0) 16 8 0) 16 5 t) rfl (by omega) (zq_b32 hv) (zq_K0 (zq_BK0 rfl))) (by decide) mi_X3_walk mv_X3_walk cs_X3_49 cf3 dX3_findWays_17 rfl (by decide) rfl rfl (Nat.le_of_ble_eq_true rfl) (fun M17 h17 => ?_)
  have h17 := h17.symm
  subst h17
  exact m_return A T0 dX3_findWays_20 (by rfl)
noncomputable def zqr : Nat → Nat → MM → MM
  | 0, _, M => M
  | c + 1, v, M => zqr c (v + 1) (zqk 4 (v : Int) 0 (2 ^ (v + 1) - 1) (up2 M 16 5 (v : Int)))
noncomputable def zqR (M : MM) : MM := zqr (M 1 0).toNat 0 (zqg M 1)
def ZRI (M0 M : MM) : Prop := FC M0 M ∧ M 16 6 = 1 ∧ BKc M
theorem zq_r1 {M0 M : MM} (hw : CW M0) (h : ZRI M0 M) (v : Nat) (ps : Nat) (x : Int) : ZRI M0 (zqk 4 x 0 ps (up2 M 16 5 (v : Int))) := by
  have hc : FC M0 (up2 M 16 5 (v : Int)) := h.1.up (by omega) _ _
  have hb : BKc (up2 M 16 5 (v : Int)) := h.2.2
  have q := (zq_wk_keep (hc.cw hw) 4 x 0 ps _ rfl (zq_K0 hb)).1
  exact ⟨fun c hx => (q.1 c hx).trans (hc c hx), q.2.1.2.trans h.2.1, q.2.2.2⟩
theorem zqr_keep {M0 : MM} (hw : CW M0) : ∀ (c v : Nat) (M : MM), ZRI M0 M → ZRI M0 (zqr c v M) := by
  intro c
  induction c with
  | zero => intro v M h; exact h
  | succ c ih => intro v M h; exact ih (v + 1) _ (zq_r1 hw h v _ _)
theorem zqR_keep {M : MM} (hw : CW M) : ZRI M (zqR M) := zqr_keep hw _ 0 _ ⟨zq_fcg M 1, rfl, zq_BK0 rfl⟩
theorem zq_walkR (G : GG) (l : Launch) (v : Nat) (M0 M : MM) (hw : CW M0) (h : ZRI M0 M) (hv : v < 5) : CMv G l yX3_walk cX3_walk 8 none 9 [.ref 16, .ref 1, vi (v : Int), vi 0, vi (((2 ^ (v + 1) : Nat) : Int) - 1)] (up2 M 16 5 (v : Int)) (fun M' => M' = zqk 4 (v : Int) 0 (2 ^ (v + 1) - 1) (up2 M 16 5 (v : Int))) := by
  have hb := (zq_bs_all v hv).2.2.2
  have hc : FC M0 (up2 M 16 5 (v : Int)) := h.1.up (by omega) _ _
  have q := c_X3_walk G l (up2 M 16 5 (v : Int)) (hc.cw hw) (Or.inr h.2.1) (show I32 (v : Int) by omega) 4 (v : Int) 0 (2 ^ (v + 1) - 1) (up2 M 16 5 (v : Int)) rfl (by omega) (by omega) (zq_K0 h.2.2)
  have e : ((2 ^ (v + 1) - 1 : Nat) : Int) = ((2 ^ (v + 1) : Nat) : Int) - 1 := Int.ofNat_sub hb.1
  rw [e] at q
  exact q
set_option maxRecDepth 100000 in
set_option maxHeartbeats 4000000 in
theorem fr_loop3 {G : GG} {E : EE} {P : MM → Prop} (A : AmM G E cX3_findRings 3 yX3_findRings.cls 10) (T0 : RT E G yX3_findRings 108 0 0 none (fun r rf' M' => rf' = rF ∧ r = none ∧ P M')) (M0 : MM) (hw : CW M0) : ∀ (n : Nat) (v : Nat) (M : MM), 5 - v < n → ZRI M0 M → (v : Int) ≤ M0 1 0 → P (zqr ((M0 1 0).toNat - v) v M) → AM G E 3 7 [.ref 16, .ref 1, vi (v : Int)] [] M := by
  intro n
  induction n with
  | zero => intro v M hn hI hv hp; exfalso; omega
  | succ n ih =>
    intro v M hn hI hv hp
    have e1 : M 1 0 = M0 1 0 := by rw [hI.1 1 (by omega)]
    have hp5 := hw.1
    refine a_iload_n (z := (v : Int)) A dX3_findRings_7 rfl ?_
    refine a_aload_n (z := 1) A dX3_findRings_8 rfl ?_
    refine gf_X3_53 (x := M 1 0) A dX3_findRings_9 rfl (by decide) rfl ?_
    refine a_icmp_ge (tgt := 38) A dX3_findRings_12 (by decide) (by omega) (by omega) (fun h12 => ?_) (fun h12 => ?_)
    · exact m_return A T0 dX3_findRings_38 (by rw [show (M0 1 0).toNat - v = 0 by omega] at hp; exact hp)
    · refine a_aload_n (z := 16) A dX3_findRings_15 rfl ?_
      refine a_iload_n (z := (v : Int)) A dX3_findRings_16 rfl ?_
      refine pf_X3_32 A dX3_findRings_17 rfl (by decide) ?_
      refine a_aload_n (z := 16) A dX3_findRings_20 rfl ?_
      refine a_aload_n (z := 1) A dX3_findRings_21 rfl ?_
      refine a_iload_n (z := (v : Int)) A dX3_findRings_22 rfl ?_
      refine a_iconst A dX3_findRings_23 ?_
      refine a_iconst A dX3_findRings_24 ?_
      refine a_iload_n (z := (v : Int)) A dX3_findRings_25 rfl ?_
      refine a_ishl (z := ((2 ^ (v + 1) : Nat) : Int)) A dX3_findRings_26 (zq_bs_all v (by omega)).2.1 ?_
      refine a_iconst A dX3_findRings_27 ?_
      refine a_isub (x := ((2 ^ (v + 1) : Nat) : Int)) (y := 1) A dX3_findRings_28 ?_
      refine m_invVv A (zq_walkR G _ v M0 M hw hI (by omega)) (by decide) mi_X3_walk mv_X3_walk cs_X3_49 cf3 dX3_findRings_29 rfl (by decide) rfl rfl (Nat.le_of_ble_eq_true rfl) (fun M29 h29 => ?_)
      have h29 := h29.symm
      subst h29
      refine a_iinc (z := (v : Int)) (lv' := [.ref 16, .ref 1, vi ((v : Int) + 1)]) A dX3_findRings_32 rfl (by decide) rfl ?_
      refine a_goto (tgt := 7) A dX3_findRings_35 (by decide) ?_
      rw [show (M0 1 0).toNat - v = ((M0 1 0).toNat - (v + 1)) + 1 by omega] at hp
      exact ih (v + 1) _ (by omega) (zq_r1 hw hI v _ _) (by omega) hp
set_option maxRecDepth 100000 in
set_option maxHeartbeats 4000000 in
theorem c_X3_findRings (G : GG) (l : Launch) (M : MM) (hw : CW M) : CMv G l yX3_findRings cX3_findRings 3 none 10 [.ref 16, .ref 1] M (fun M' => M' = zqR M) := by
  refine CT.intro (by decide) (Nat.le_of_ble_eq_true rfl) (fun E hE A T0 => ?_)
  subst hE
  refine a_aload_n (z := 16) A dX3_findRings_0 rfl ?_
  refine a_iconst A dX3_findRings_1 ?_
  refine m_invVv A (c_X3_begin G _ 1 M (by omega)) (by decide) mi_X3_begin mv_X3_begin cs_X3_45 cf3 dX3_findRings_2 rfl (by decide) rfl rfl (Nat.le_of_ble_eq_true rfl) (fun M2 h2 => ?_)
  have h2 := h2.symm
  subst h2
  refine a_iconst A dX3_findRings_5 ?_
  refine a_istore_n (lv' := [.ref 16, .ref 1, vi 0]) A dX3_findRings_6 (by decide) rfl ?_
  have hp5 := hw.1
  exact fr_loop3 A T0 M hw 6 0 (zqg M 1) (by omega) ⟨zq_fcg M 1, rfl, zq_BK0 rfl⟩ (by omega) rfl
