/-! the walk along lanes -/
theorem zq_c0 {x : Nat} : ((x : Nat) : Int) = 0 ↔ x = 0 := ⟨fun h => by omega, fun h => by omega⟩
theorem zq_I {x : Nat} (h : x < 32) : I32 (x : Int) := by omega
def zqb (t : Int) : Nat := 2 ^ t.toNat
theorem zq_bt_all : ∀ p : Nat, p < 32 → ∀ t : Nat, t < 5 → Int32.ofInt (p : Int) &&& Int32.ofInt ((2 ^ t : Nat) : Int) = Int32.ofInt ((p &&& 2 ^ t : Nat) : Int) ∧ Int32.ofInt (p : Int) ||| Int32.ofInt ((2 ^ t : Nat) : Int) = Int32.ofInt ((p ||| 2 ^ t : Nat) : Int) ∧ (p &&& 2 ^ t) < 32 ∧ (p ||| 2 ^ t) < 32 := by decide +kernel
theorem zq_bs_all : ∀ t : Nat, t < 5 → Int32.ofInt 1 <<< (Int32.ofInt (t : Int) &&& 31) = Int32.ofInt ((2 ^ t : Nat) : Int) ∧ Int32.ofInt 2 <<< (Int32.ofInt (t : Int) &&& 31) = Int32.ofInt ((2 ^ (t + 1) : Nat) : Int) ∧ 2 ^ t < 32 ∧ 1 ≤ 2 ^ (t + 1) ∧ 2 ^ (t + 1) ≤ 32 := by decide +kernel
theorem zq_bt_shl {t : Int} (h : 0 ≤ t ∧ t < 5) : Int32.ofInt 1 <<< (Int32.ofInt t &&& 31) = Int32.ofInt (zqb t : Int) := by
  have q := (zq_bs_all t.toNat (by omega)).1
  rw [show ((t.toNat : Nat) : Int) = t by omega] at q
  exact q
theorem zq_bt_and {p : Nat} {t : Int} (hp : p < 32) (h : 0 ≤ t ∧ t < 5) : Int32.ofInt (p : Int) &&& Int32.ofInt (zqb t : Int) = Int32.ofInt ((p &&& zqb t : Nat) : Int) := (zq_bt_all p hp t.toNat (by omega)).1
theorem zq_bt_or {p : Nat} {t : Int} (hp : p < 32) (h : 0 ≤ t ∧ t < 5) : Int32.ofInt (p : Int) ||| Int32.ofInt (zqb t : Int) = Int32.ofInt ((p ||| zqb t : Nat) : Int) := (zq_bt_all p hp t.toNat (by omega)).2.1
theorem zq_bt_lt {p : Nat} {t : Int} (hp : p < 32) (h : 0 ≤ t ∧ t < 5) : (p &&& zqb t) < 32 ∧ (p ||| zqb t) < 32 := (zq_bt_all p hp t.toNat (by omega)).2.2
noncomputable def zqw (w' : Int → Nat → MM → MM) (v : Int) (dp ps i : Nat) (M : MM) : MM := cif (M (3 + i) 0 ≠ v) M (cif (M (3 + i) 1 = M 16 5) (wgM (up2 M 17 dp i) (dp + 1)) (cif ((ps &&& zqb (M (3 + i) 1)) = 0) (w' (M (3 + i) 1) (ps ||| zqb (M (3 + i) 1)) (up2 M 17 dp i)) (up2 M 17 dp i)))
noncomputable def zqi (w' : Int → Nat → MM → MM) (v : Int) (dp ps : Nat) : Nat → Nat → MM → MM
  | 0, _, M => M
  | c + 1, i, M => zqi w' v dp ps c (i + 1) (zqw w' v dp ps i M)
noncomputable def zqk : Nat → Int → Nat → Nat → MM → MM
  | 0, _, _, _, M => M
  | f + 1, v, dp, ps, M => zqi (fun t p X => zqk f t (dp + 1) p X) v dp ps (M 1 1).toNat 0 M
def ZKI (M0 : MM) (n : Nat) (M : MM) : Prop := FC M0 M ∧ (M 16 5 = M0 16 5 ∧ M 16 6 = M0 16 6) ∧ (∀ k, k < n → 0 ≤ M 17 k ∧ M 17 k < M 1 1) ∧ BKc M
theorem ZKI.rw {M0 M : MM} {n : Nat} (h : ZKI M0 n M) : RW M 17 n := h.2.2.1
theorem ZKI.up {M0 M : MM} {n : Nat} (h : ZKI M0 n M) (x : Int) : ZKI M0 n (up2 M 17 n x) := by
  refine ⟨h.1.up (by omega) _ _, h.2.1, fun k hk => ?_, h.2.2.2⟩
  rw [up2_in, if_neg (by omega)]; exact h.2.2.1 k hk
theorem ZKI.push {M0 M : MM} {n : Nat} (h : ZKI M0 n M) (hx : 0 ≤ M 17 n ∧ M 17 n < M 1 1) : ZKI M0 (n + 1) M := ⟨h.1, h.2.1, lt_s h.2.2.1 hx, h.2.2.2⟩
theorem ZKI.pop {M0 M : MM} {n : Nat} (h : ZKI M0 (n + 1) M) : ZKI M0 n M := ⟨h.1, h.2.1, fun k hk => h.2.2.1 k (by omega), h.2.2.2⟩
theorem ZKI.put {M0 M : MM} {n i : Nat} (h : ZKI M0 n M) (hi : (i : Int) < M 1 1) : ZKI M0 (n + 1) (up2 M 17 n i) := (h.up _).push (by rw [up2_self]; exact ⟨Int.natCast_nonneg i, hi⟩)
theorem zq_wgT_keep {M0 M X : MM} {N : Nat} (hN : 1 ≤ N ∧ N ≤ 4) (h : ZKI M0 N X) (hx : X 1 1 = M 1 1) (ht : (0 ≤ tU M N ∧ tU M N ≤ 59049) ∧ (0 < tD M N ∧ tD M N ≤ 59049)) : ZKI M0 N (wgT M N X) ∧ wgT M N X 17 = X 17 := by
  unfold wgT
  by_cases hb : M 16 4 = 0 ∨ BX (tU M N) (tD M N) M N
  · rw [cif_t hb]
    refine ⟨⟨((((h.1.cp N).up (by omega) _ _).up (by omega) _ _).up (by omega) _ _), h.2.1, h.2.2.1, ?_⟩, rfl⟩
    refine ⟨show 0 ≤ (N : Int) ∧ (N : Int) ≤ 4 by omega, fun k hk => ?_, fun _ => ⟨ht.1, ⟨Int.le_of_lt ht.2.1, ht.2.2⟩⟩⟩
    have hk' : (k : Int) < (N : Int) := hk
    have e : cp2 X 17 19 N 19 k = X 17 k := if_pos (by omega)
    show 0 ≤ cp2 X 17 19 N 19 k ∧ cp2 X 17 19 N 19 k < X 1 1
    rw [e]
    exact h.2.2.1 k (by omega)
  · rw [cif_f hb]; exact ⟨h, rfl⟩
theorem zq_wgA_keep {M0 M : MM} {N : Nat} (h : ZKI M0 N M) : ZKI M0 N (wgA M N) := ⟨(((h.1.up (by omega) _ _).up (by omega) _ _).up (by omega) _ _), h.2.1, h.2.2.1, h.2.2.2⟩
theorem zq_wg_keep {M0 M : MM} {N : Nat} (hw : CW M0) (hN : 1 ≤ N ∧ N ≤ 4) (h : ZKI M0 N M) : ZKI M0 N (wgM M N) ∧ wgM M N 17 = M 17 := by
  have ht := t_bd (h.1.cw hw) hN.2 h.rw
  have hA := zq_wgA_keep h
  unfold wgM
  by_cases h1 : tD M N < tU M N
  · rw [cif_t h1]
    have hB : ZKI M0 N (up2 (wgA M N) 16 8 (M 16 8 + 1)) := ⟨hA.1.up (by omega) _ _, hA.2.1, hA.2.2.1, hA.2.2.2⟩
    have := zq_wgT_keep (M := M) hN hB rfl ht
    exact ⟨this.1, this.2.trans rfl⟩
  · rw [cif_f h1]
    by_cases h2 : M 16 6 ≠ 0
    · rw [cif_t h2]; exact ⟨hA, rfl⟩
    · rw [cif_f h2]
      have := zq_wgT_keep (M := M) hN hA rfl ht
      exact ⟨this.1, this.2.trans rfl⟩
/-- a step of the walk: the trail up to here stays -/
theorem zq_wb_keep {M0 M : MM} {w' : Int → Nat → MM → MM} {v : Int} {dp ps i : Nat} (hw : CW M0) (hd : dp < 4) (hW : ∀ t p X, ZKI M0 (dp + 1) X → ZKI M0 (dp + 1) (w' t p X) ∧ ∀ k, k < dp + 1 → w' t p X 17 k = X 17 k) (h : ZKI M0 dp M) (hi : (i : Int) < M 1 1) : ZKI M0 dp (zqw w' v dp ps i M) ∧ ∀ k, k < dp → zqw w' v dp ps i M 17 k = M 17 k := by
  have hp := h.put (n := dp) hi
  have hk0 : ∀ k, k < dp → up2 M 17 dp i 17 k = M 17 k := fun k hk => by rw [up2_in, if_neg (by omega)]
  unfold zqw
  by_cases h1 : M (3 + i) 0 ≠ v
  · rw [cif_t h1]; exact ⟨h, fun _ _ => rfl⟩
  · rw [cif_f h1]
    by_cases h2 : M (3 + i) 1 = M 16 5
    · rw [cif_t h2]
      have q := zq_wg_keep hw (N := dp + 1) (by omega) hp
      exact ⟨q.1.pop, fun k hk => by rw [q.2]; exact hk0 k hk⟩
    · rw [cif_f h2]
      by_cases h3 : (ps &&& zqb (M (3 + i) 1)) = 0
      · rw [cif_t h3]
        have q := hW (M (3 + i) 1) (ps ||| zqb (M (3 + i) 1)) _ hp
        exact ⟨q.1.pop, fun k hk => by rw [q.2 k (by omega)]; exact hk0 k hk⟩
      · rw [cif_f h3]; exact ⟨hp.pop, hk0⟩
theorem ZKI.size {M0 M : MM} {n : Nat} (h : ZKI M0 n M) : M 1 1 = M0 1 1 := by rw [h.1 1 (by omega)]
theorem zq_wi_keep {M0 : MM} {w' : Int → Nat → MM → MM} {v : Int} {dp ps : Nat} (hw : CW M0) (hd : dp < 4) (hW : ∀ t p X, ZKI M0 (dp + 1) X → ZKI M0 (dp + 1) (w' t p X) ∧ ∀ k, k < dp + 1 → w' t p X 17 k = X 17 k) : ∀ (c i : Nat) (M : MM), ZKI M0 dp M → (c + i : Int) ≤ M0 1 1 → ZKI M0 dp (zqi w' v dp ps c i M) ∧ ∀ k, k < dp → zqi w' v dp ps c i M 17 k = M 17 k := by
  intro c
  induction c with
  | zero => intro i M h _; exact ⟨h, fun _ _ => rfl⟩
  | succ c ih =>
    intro i M h hc
    have q := zq_wb_keep (v := v) (ps := ps) (i := i) hw hd hW h (by rw [h.size]; omega)
    have r := ih (i + 1) _ q.1 (by omega)
    exact ⟨r.1, fun k hk => (r.2 k hk).trans (q.2 k hk)⟩
theorem zq_wk_keep {M0 : MM} (hw : CW M0) : ∀ (f : Nat) (v : Int) (dp ps : Nat) (M : MM), dp + f = 4 → ZKI M0 dp M → ZKI M0 dp (zqk f v dp ps M) ∧ ∀ k, k < dp → zqk f v dp ps M 17 k = M 17 k := by
  intro f
  induction f with
  | zero => intro v dp ps M _ h; exact ⟨h, fun _ _ => rfl⟩
  | succ f ih =>
    intro v dp ps M hd h
    have h0 := hw.2.1
    exact zq_wi_keep hw (by omega) (fun t p X hX => ih t (dp + 1) p X (by omega) hX) _ 0 M h (by rw [h.size]; omega)
set_option maxRecDepth 100000 in
set_option maxHeartbeats 4000000 in
theorem wk_loop3 {f : Nat} {G : GG} {E : EE} {P : MM → Prop} (A : AmM G E cX3_walk 8 yX3_walk.cls (f + 6)) (T0 : RT E G yX3_walk 108 0 0 none (fun r rf' M' => rf' = rF ∧ r = none ∧ P M')) (w' : Int → Nat → MM → MM) (v : Int) (dp ps : Nat) (M0 : MM) (hw : CW M0) (h6 : M0 16 6 = 0 ∨ M0 16 6 = 1) (hg : I32 (M0 16 5)) (hv : I32 v) (hd : dp < 4) (hps : ps < 32) (hW : ∀ t p X, ZKI M0 (dp + 1) X → ZKI M0 (dp + 1) (w' t p X) ∧ ∀ k, k < dp + 1 → w' t p X 17 k = X 17 k) (hrec : ∀ (t : Int) (p : Nat) (X : MM), I32 t → p < 32 → ZKI M0 (dp + 1) X → CMv G (eL E) yX3_walk cX3_walk 8 none (f + 5) [.ref 16, .ref 1, vi t, vi ((dp : Int) + 1), vi (p : Int)] X (fun M' => M' = w' t p X)) : ∀ (n : Nat) (i : Nat) (M : MM) (w1 w2 : Value), (M0 1 1).toNat - i < n → ZKI M0 dp M → (i : Int) ≤ M0 1 1 → P (zqi w' v dp ps ((M0 1 1).toNat - i) i M) → AM G E 8 9 [.ref 16, .ref 1, vi v, vi (dp : Int), vi (ps : Int), vi (i : Int), w1, w2] [] M := by
  intro n
  induction n with
  | zero => intro i M w1 w2 hn hI hi hp; exfalso; omega
  | succ n ih =>
    intro i M w1 w2 hn hI hi hp
    have hL := hw.2.1
    have hsz := hI.size
    have hcw := hI.1.cw hw
    have hP5 := hcw.1
    have hl0 : (i : Int) < M 1 1 → CL M i := hcw.2.2 i
    unfold CL at hl0
    have hgM : I32 (M 16 5) := by rw [hI.2.1.1]; exact hg
    have hp0 : (i : Int) < M 1 1 → ZKI M0 (dp + 1) (up2 M 17 dp i) := fun q => hI.put q
    have hbl : (i : Int) < M 1 1 → (ps &&& zqb (M (3 + i) 1)) < 32 := fun q => (zq_bt_lt hps (by omega)).1
    refine a_iload (z := (i : Int)) A dX3_walk_9 rfl ?_
    refine a_aload_n (z := 1) A dX3_walk_11 rfl ?_
    refine gf_X3_58 (x := M 1 1) A dX3_walk_12 rfl (by decide) rfl ?_
    refine a_icmp_ge (tgt := 105) A dX3_walk_15 (by decide) (by omega) (by omega) (fun h15 => ?_) (fun h15 => ?_)
    · exact m_return A T0 dX3_walk_105 (by rw [show (M0 1 1).toNat - i = 0 by omega] at hp; exact hp)
    · refine a_aload_n (z := 1) A dX3_walk_18 rfl ?_
      refine gf_X3_61 (r := 2) A dX3_walk_19 rfl (by decide) rfl ?_
      refine a_iload (z := (i : Int)) A dX3_walk_22 rfl ?_
      refine a_aaload (i := (i : Int)) (r := (3 + i)) A dX3_walk_24 rfl (Or.inr rfl) (by decide) (by decide) (by omega) (rf2 (by omega)) ?_
      refine a_astore (lv' := [.ref 16, .ref 1, vi v, vi (dp : Int), vi (ps : Int), vi (i : Int), .ref (3 + i), w2]) A dX3_walk_25 (by decide) rfl ?_
      refine a_aload (z := (3 + i)) A dX3_walk_27 rfl ?_
      refine a_iconst A dX3_walk_29 ?_
      refine a_iaload (i := 0) (x := M (3 + i) 0) A dX3_walk_30 (ly3 (by omega)) (by omega) (by decide) (by omega) rfl ?_
      refine a_iload_n (z := v) A dX3_walk_31 rfl ?_
      refine a_icmp_eq (tgt := 38) A dX3_walk_32 (by decide) (by omega) (by omega) (fun h32 => ?_) (fun h32 => ?_)
      · refine a_aload (z := (3 + i)) A dX3_walk_38 rfl ?_
        refine a_iconst A dX3_walk_40 ?_
        refine a_iaload (i := 1) (x := M (3 + i) 1) A dX3_walk_41 (ly3 (by omega)) (by omega) (by decide) (by omega) rfl ?_
        refine a_istore (lv' := [.ref 16, .ref 1, vi v, vi (dp : Int), vi (ps : Int), vi (i : Int), .ref (3 + i), vi (M (3 + i) 1)]) A dX3_walk_42 (by decide) rfl ?_
        refine a_aload_n (z := 16) A dX3_walk_44 rfl ?_
        refine gf_X3_9 (r := 17) A dX3_walk_45 rfl (by decide) rfl ?_
        refine a_iload_n (z := (dp : Int)) A dX3_walk_48 rfl ?_
        refine a_iload (z := (i : Int)) A dX3_walk_49 rfl ?_
        refine a_iastore (i := (dp : Int)) (j := dp) A dX3_walk_51 rfl (by decide) (by decide) (by omega) rfl ?_
        refine a_iload (z := (M (3 + i) 1)) A dX3_walk_52 rfl ?_
        refine a_aload_n (z := 16) A dX3_walk_54 rfl ?_
        refine gf_X3_32 (x := M 16 5) A dX3_walk_55 rfl (by decide) rfl ?_
        refine a_icmp_ne (tgt := 72) A dX3_walk_58 (by decide) (by omega) (by omega) (fun h58 => ?_) (fun h58 => ?_)
        · refine a_iload (z := (ps : Int)) A dX3_walk_72 rfl ?_
          refine a_iconst A dX3_walk_74 ?_
          refine a_iload (z := (M (3 + i) 1)) A dX3_walk_75 rfl ?_
          refine a_ishl (z := (zqb (M (3 + i) 1) : Int)) A dX3_walk_77 (zq_bt_shl (by omega)) ?_
          refine a_iand (z := ((ps &&& zqb (M (3 + i) 1) : Nat) : Int)) A dX3_walk_78 (zq_bt_and hps (by omega)) ?_
          refine a_if_ne (tgt := 99) A dX3_walk_79 (by decide) (zq_I (hbl (by omega))) (fun h79 => ?_) (fun h79 => ?_)
          · refine a_iinc (z := (i : Int)) (lv' := [.ref 16, .ref 1, vi v, vi (dp : Int), vi (ps : Int), vi ((i : Int) + 1), .ref (3 + i), vi (M (3 + i) 1)]) A dX3_walk_99 rfl (by decide) rfl ?_
            refine a_goto (tgt := 9) A dX3_walk_102 (by decide) ?_
            have hs : zqw w' v dp ps i M = (up2 M 17 dp (i : Int)) := by unfold zqw; rw [cif_f (fun q => q h32), cif_f h58, cif_f (fun q => h79 (zq_c0.mpr q))]
            have hq := zq_wb_keep (v := v) (ps := ps) (i := i) hw hd hW hI (by omega)
            rw [hs] at hq
            rw [show (M0 1 1).toNat - i = ((M0 1 1).toNat - (i + 1)) + 1 by omega] at hp
            have hp : P (zqi w' v dp ps ((M0 1 1).toNat - (i + 1)) (i + 1) (zqw w' v dp ps i M)) := hp
            rw [hs] at hp
            exact ih (i + 1) _ _ _ (by omega) hq.1 (by omega) hp
          · refine a_aload_n (z := 16) A dX3_walk_82 rfl ?_
            refine a_aload_n (z := 1) A dX3_walk_83 rfl ?_
            refine a_iload (z := (M (3 + i) 1)) A dX3_walk_84 rfl ?_
            refine a_iload_n (z := (dp : Int)) A dX3_walk_86 rfl ?_
            refine a_iconst A dX3_walk_87 ?_
            refine a_iadd (x := (dp : Int)) (y := 1) A dX3_walk_88 ?_
            refine a_iload (z := (ps : Int)) A dX3_walk_89 rfl ?_
            refine a_iconst A dX3_walk_91 ?_
            refine a_iload (z := (M (3 + i) 1)) A dX3_walk_92 rfl ?_
            refine a_ishl (z := (zqb (M (3 + i) 1) : Int)) A dX3_walk_94 (zq_bt_shl (by omega)) ?_
            refine a_ior (z := ((ps ||| zqb (M (3 + i) 1) : Nat) : Int)) A dX3_walk_95 (zq_bt_or hps (by omega)) ?_
            refine m_invVv A (hrec (M (3 + i) 1) (ps ||| zqb (M (3 + i) 1)) (up2 M 17 dp (i : Int)) (by omega) (zq_bt_lt hps (by omega)).2 (hp0 (by omega))) (by omega) mi_X3_walk mv_X3_walk cs_X3_49 cf3 dX3_walk_96 rfl (by decide) rfl rfl (Nat.le_of_ble_eq_true rfl) (fun M96 h96 => ?_)
            have h96 := h96.symm
            subst h96
            refine a_iinc (z := (i : Int)) (lv' := [.ref 16, .ref 1, vi v, vi (dp : Int), vi (ps : Int), vi ((i : Int) + 1), .ref (3 + i), vi (M (3 + i) 1)]) A dX3_walk_99 rfl (by decide) rfl ?_
            refine a_goto (tgt := 9) A dX3_walk_102 (by decide) ?_
            have hs : zqw w' v dp ps i M = (w' (M (3 + i) 1) (ps ||| zqb (M (3 + i) 1)) (up2 M 17 dp i)) := by unfold zqw; rw [cif_f (fun q => q h32), cif_f h58, cif_t (zq_c0.mp h79)]
            have hq := zq_wb_keep (v := v) (ps := ps) (i := i) hw hd hW hI (by omega)
            rw [hs] at hq
            rw [show (M0 1 1).toNat - i = ((M0 1 1).toNat - (i + 1)) + 1 by omega] at hp
            have hp : P (zqi w' v dp ps ((M0 1 1).toNat - (i + 1)) (i + 1) (zqw w' v dp ps i M)) := hp
            rw [hs] at hp
            exact ih (i + 1) _ _ _ (by omega) hq.1 (by omega) hp
        · refine a_aload_n (z := 16) A dX3_walk_61 rfl ?_
          refine a_aload_n (z := 1) A dX3_walk_62 rfl ?_
          refine a_iload_n (z := (dp : Int)) A dX3_walk_63 rfl ?_
          refine a_iconst A dX3_walk_64 ?_
          refine a_iadd (x := (dp : Int)) (y := 1) A dX3_walk_65 ?_
          refine m_invVv A (c_X3_weigh G _ (dp + 1) (up2 M 17 dp (i : Int)) (by omega) ((hp0 (by omega)).1.cw hw) (hp0 (by omega)).rw (hp0 (by omega)).2.2.2 (by rw [(hp0 (by omega)).2.1.2]; exact h6)) (by omega) mi_X3_weigh mv_X3_weigh cs_X3_65 cf3 dX3_walk_66 rfl (by decide) rfl rfl (Nat.le_of_ble_eq_true rfl) (fun M66 h66 => ?_)
          have h66 := h66.symm
          subst h66
          refine a_goto (tgt := 99) A dX3_walk_69 (by decide) ?_
          refine a_iinc (z := (i : Int)) (lv' := [.ref 16, .ref 1, vi v, vi (dp : Int), vi (ps : Int), vi ((i : Int) + 1), .ref (3 + i), vi (M (3 + i) 1)]) A dX3_walk_99 rfl (by decide) rfl ?_
          refine a_goto (tgt := 9) A dX3_walk_102 (by decide) ?_
          have hs : zqw w' v dp ps i M = (wgM (up2 M 17 dp i) (dp + 1)) := by unfold zqw; rw [cif_f (fun q => q h32), cif_t h58]
          have hq := zq_wb_keep (v := v) (ps := ps) (i := i) hw hd hW hI (by omega)
          rw [hs] at hq
          rw [show (M0 1 1).toNat - i = ((M0 1 1).toNat - (i + 1)) + 1 by omega] at hp
          have hp : P (zqi w' v dp ps ((M0 1 1).toNat - (i + 1)) (i + 1) (zqw w' v dp ps i M)) := hp
          rw [hs] at hp
          exact ih (i + 1) _ _ _ (by omega) hq.1 (by omega) hp
      · refine a_goto (tgt := 99) A dX3_walk_35 (by decide) ?_
        refine a_iinc (z := (i : Int)) (lv' := [.ref 16, .ref 1, vi v, vi (dp : Int), vi (ps : Int), vi ((i : Int) + 1), .ref (3 + i), w2]) A dX3_walk_99 rfl (by decide) rfl ?_
        refine a_goto (tgt := 9) A dX3_walk_102 (by decide) ?_
        have hs : zqw w' v dp ps i M = M := by unfold zqw; rw [cif_t h32]
        have hq := zq_wb_keep (v := v) (ps := ps) (i := i) hw hd hW hI (by omega)
        rw [hs] at hq
        rw [show (M0 1 1).toNat - i = ((M0 1 1).toNat - (i + 1)) + 1 by omega] at hp
        have hp : P (zqi w' v dp ps ((M0 1 1).toNat - (i + 1)) (i + 1) (zqw w' v dp ps i M)) := hp
        rw [hs] at hp
        exact ih (i + 1) _ _ _ (by omega) hq.1 (by omega) hp
