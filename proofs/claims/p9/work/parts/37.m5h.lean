noncomputable def gb (g' : Nat → MM → MM) (b e g : Int) (n : Nat) (M : MM) : MM := cif (M 87 (M 105 n).toNat ≠ HR M n b) M (cif (M 88 (M 105 n).toNat = e) (vs g M (n + 1)) (cif (¬ ON M (n + 1) (M 88 (M 105 n).toNat) ∧ (g = 0 ∨ b < M 88 (M 105 n).toNat) ∧ n < 4) (g' (n + 1) (up2 M 105 (n + 1) (-1))) M))
noncomputable def itr (g' : Nat → MM → MM) (b e g : Int) (n : Nat) : Nat → Nat → MM → MM
  | 0, i, M => up2 M 105 n i
  | r + 1, i, M => itr g' b e g n r (i + 1) (gb g' b e g n (up2 M 105 n i))
noncomputable def gor (b e g : Int) (L : Nat) : Nat → Nat → MM → MM
  | 0, _, M => M
  | f + 1, n, M => itr (gor b e g L f) b e g n L 0 M
/-- what the search for rows leaves as it was, and what it keeps of the best row -/
def FZ (M0 M : MM) : Prop := (∀ c, c ≠ 84 → c ≠ 105 → c ≠ 106 → M c = M0 c) ∧ ∀ j, j < 27 ∨ 31 < j → M 84 j = M0 84 j
def BOK (M : MM) : Prop := (0 ≤ M 84 27 ∧ M 84 27 ≤ 5) ∧ (∀ k : Nat, (k : Int) < M 84 27 → 0 ≤ M 106 k ∧ M 106 k < M 86 0) ∧ (0 ≤ M 84 28 ∧ M 84 28 ≤ 59049) ∧ (0 ≤ M 84 29 ∧ M 84 29 ≤ 59049) ∧ (M 84 27 ≠ 0 → 1 ≤ M 84 28 ∧ 1 ≤ M 84 29)
def GI (M0 : MM) (n : Nat) (M : MM) : Prop := FZ M0 M ∧ (∀ k, k < n → 0 ≤ M 105 k ∧ M 105 k < M0 86 0) ∧ BOK M
def WM (M : MM) : Prop := (2 ≤ M 85 0 ∧ M 85 0 ≤ 5) ∧ (0 ≤ M 86 0 ∧ M 86 0 ≤ 10) ∧ ∀ i : Nat, (i : Int) < M 86 0 → LW M i
theorem FZ.at {M0 M : MM} (h : FZ M0 M) {c : Nat} (h1 : c ≠ 84) (h2 : c ≠ 105) (h3 : c ≠ 106) (j : Nat) : M c j = M0 c j := by rw [h.1 c h1 h2 h3]
theorem FZ.lw {M0 M : MM} (h : FZ M0 M) {i : Nat} (hl : LW M0 i) : LW M i := by
  unfold LW at hl ⊢
  rw [h.at (c := 85) (by decide) (by decide) (by decide), h.at (c := 87) (by decide) (by decide) (by decide), h.at (c := 88) (by decide) (by decide) (by decide), h.at (c := 89) (by decide) (by decide) (by decide), h.at (c := 90) (by decide) (by decide) (by decide), h.at (c := 91) (by decide) (by decide) (by decide), h.at (c := 92) (by decide) (by decide) (by decide), h.at (c := 93) (by decide) (by decide) (by decide), h.at (c := 94) (by decide) (by decide) (by decide)]
  exact hl
theorem FZ.wm {M0 M : MM} (h : FZ M0 M) (hw : WM M0) : WM M := by
  refine ⟨?_, ?_, fun i hi => ?_⟩
  · rw [h.at (c := 85) (by decide) (by decide) (by decide)]; exact hw.1
  · rw [h.at (c := 86) (by decide) (by decide) (by decide)]; exact hw.2.1
  · rw [h.at (c := 86) (by decide) (by decide) (by decide)] at hi; exact h.lw (hw.2.2 i hi)
theorem FZ.rf (M : MM) : FZ M M := ⟨fun _ _ _ _ => rfl, fun _ _ => rfl⟩
theorem FZ.up {M0 M : MM} (h : FZ M0 M) (n : Nat) (x : Int) : FZ M0 (up2 M 105 n x) := ⟨fun c h1 h2 h3 => by rw [up2_ne _ _ _ _ h2]; exact h.1 c h1 h2 h3, fun j hj => by rw [up2_ne _ _ _ _ (by decide)]; exact h.2 j hj⟩
theorem GI.up {M0 M : MM} {n : Nat} (h : GI M0 n M) (m : Nat) (hm : n ≤ m) (x : Int) : GI M0 n (up2 M 105 m x) := by
  refine ⟨h.1.up m x, fun k hk => ?_, ?_⟩
  · rw [up2_in, if_neg (by omega)]; exact h.2.1 k hk
  · have := h.2.2
    unfold BOK at this ⊢
    rw [up2_ne _ _ _ _ (show (84 : Nat) ≠ 105 by decide), up2_ne _ _ _ _ (show (106 : Nat) ≠ 105 by decide), up2_ne _ _ _ _ (show (86 : Nat) ≠ 105 by decide)]
    exact this
theorem GI.push {M0 M : MM} {n : Nat} (h : GI M0 n M) (hx : 0 ≤ M 105 n ∧ M 105 n < M0 86 0) : GI M0 (n + 1) M := ⟨h.1, lt_s h.2.1 hx, h.2.2⟩
theorem GI.pop {M0 M : MM} {n : Nat} (h : GI M0 (n + 1) M) : GI M0 n M := ⟨h.1, fun k hk => h.2.1 k (by omega), h.2.2⟩
/-- a row is weighed: rows and frozen cells stay, the best row stays a row of lanes -/
theorem tk_keep {M0 M : MM} {N : Nat} (hw : WM M0) (hN : 1 ≤ N ∧ N ≤ 5) (h : GI M0 N M) : GI M0 N (tk M N) ∧ tk M N 105 = M 105 := by
  unfold tk
  by_cases hb : BT M N
  · rw [cif_t hb]
    have hp : ∀ k, k < N → LW M (M 105 k).toNat := fun k hk => h.1.lw (hw.2.2 _ (by have := h.2.1 k hk; omega))
    have h90 := prodZ_bd (f := fun k => M 90 (M 105 k).toNat) hN.2 (fun k hk => by have := hp k hk; unfold LW at this; omega)
    have h91 := prodZ_bd (f := fun k => M 91 (M 105 k).toNat) hN.2 (fun k hk => by have := hp k hk; unfold LW at this; omega)
    have e105 : tkM M N 105 = M 105 := rfl
    have e106 : ∀ k, k < N → tkM M N 106 k = M 105 k := fun k hk => by
      show (if k < N then M 105 k else M 106 k) = M 105 k
      rw [if_pos hk]
    have e27 : tkM M N 84 27 = N := rfl
    have e28 : tkM M N 84 28 = prodZ (fun k => M 90 (M 105 k).toNat) N := rfl
    have e29 : tkM M N 84 29 = prodZ (fun k => M 91 (M 105 k).toNat) N := rfl
    have hfz : FZ M0 (tkM M N) := by
      refine ⟨fun c h1 h2 h3 => ?_, fun j hj => ?_⟩
      · have e : tkM M N c = M c := by
          unfold tkM cp2
          rw [if_neg h3, up2_ne _ _ _ _ h1, up2_ne _ _ _ _ h1, up2_ne _ _ _ _ h1]
        rw [e]; exact h.1.1 c h1 h2 h3
      · have e : tkM M N 84 j = M 84 j := by
          unfold tkM cp2
          rw [if_neg (by decide), up2_in, if_neg (by omega), up2_in, if_neg (by omega), up2_in, if_neg (by omega)]
        rw [e]; exact h.1.2 j hj
    refine ⟨⟨hfz, fun k hk => by rw [e105]; exact h.2.1 k hk, ?_⟩, e105⟩
    unfold BOK
    rw [e27, e28, e29, hfz.at (c := 86) (by decide) (by decide) (by decide)]
    refine ⟨by omega, fun k hk => by rw [e106 k (by omega)]; exact h.2.1 k (by omega), by omega, by omega, fun _ => by omega⟩
  · rw [cif_f hb]
    exact ⟨h, rfl⟩
theorem up84_keep {M0 M : MM} {n j : Nat} {x : Int} (h : GI M0 n M) (hj : j = 30 ∨ j = 31) : GI M0 n (up2 M 84 j x) := by
  refine ⟨⟨fun c h1 h2 h3 => by rw [up2_ne _ _ _ _ h1]; exact h.1.1 c h1 h2 h3, fun q hq => by rw [up2_in, if_neg (by omega)]; exact h.1.2 q hq⟩, fun k hk => by rw [up2_ne _ _ _ _ (by decide)]; exact h.2.1 k hk, ?_⟩
  have := h.2.2
  unfold BOK at this ⊢
  rw [up2_ne _ _ _ _ (show (106 : Nat) ≠ 84 by decide), up2_ne _ _ _ _ (show (86 : Nat) ≠ 84 by decide), up2_in, if_neg (by omega), up2_in, if_neg (by omega), up2_in, if_neg (by omega)]
  exact this
theorem vs_keep {M0 M : MM} {N : Nat} {g : Int} (hw : WM M0) (hN : 1 ≤ N ∧ N ≤ 5) (h : GI M0 N M) : GI M0 N (vs g M N) ∧ vs g M N 105 = M 105 := by
  unfold vs
  split
  · exact tk_keep hw hN h
  · split
    · have h1 := tk_keep hw hN (up84_keep (j := 31) (x := M 84 31 + 1) (up84_keep (j := 30) (x := M 84 30 + 1) h (Or.inl rfl)) (Or.inr rfl))
      exact ⟨h1.1, h1.2⟩
    · exact ⟨up84_keep h (Or.inl rfl), rfl⟩
theorem gb_keep {M0 : MM} {g' : Nat → MM → MM} {b e g : Int} {n : Nat} (hw : WM M0) (hn : n ≤ 4) (hg : ∀ M, GI M0 (n + 1) M → GI M0 (n + 1) (g' (n + 1) M) ∧ ∀ k, k < n + 1 → g' (n + 1) M 105 k = M 105 k) {M : MM} (h : GI M0 (n + 1) M) : GI M0 (n + 1) (gb g' b e g n M) ∧ ∀ k, k < n + 1 → gb g' b e g n M 105 k = M 105 k := by
  unfold gb
  by_cases c1 : M 87 (M 105 n).toNat ≠ HR M n b
  · rw [cif_t c1]; exact ⟨h, fun _ _ => rfl⟩
  · rw [cif_f c1]
    by_cases c2 : M 88 (M 105 n).toNat = e
    · rw [cif_t c2]
      have h1 := vs_keep (g := g) hw (by omega) h
      exact ⟨h1.1, fun k _ => by rw [h1.2]⟩
    · rw [cif_f c2]
      by_cases c3 : ¬ ON M (n + 1) (M 88 (M 105 n).toNat) ∧ (g = 0 ∨ b < M 88 (M 105 n).toNat) ∧ n < 4
      · rw [cif_t c3]
        have h1 := hg _ (h.up (n + 1) (Nat.le_refl _) (-1))
        exact ⟨h1.1, fun k hk => by rw [h1.2 k hk, up2_in, if_neg (by omega)]⟩
      · rw [cif_f c3]; exact ⟨h, fun _ _ => rfl⟩
theorem itr_keep {M0 : MM} {g' : Nat → MM → MM} {b e g : Int} {n L : Nat} (hw : WM M0) (hL : (L : Int) = M0 86 0) (hn : n ≤ 4) (hg : ∀ M, GI M0 (n + 1) M → GI M0 (n + 1) (g' (n + 1) M) ∧ ∀ k, k < n + 1 → g' (n + 1) M 105 k = M 105 k) : ∀ (r i : Nat) (M : MM), i + r = L → GI M0 n M → GI M0 n (itr g' b e g n r i M) ∧ ∀ k, k < n → itr g' b e g n r i M 105 k = M 105 k := by
  intro r
  induction r with
  | zero => intro i M _ h; exact ⟨h.up n (Nat.le_refl _) i, fun k hk => by show up2 M 105 n i 105 k = _; rw [up2_in, if_neg (by omega)]⟩
  | succ r ih =>
    intro i M hi h
    have h0 : GI M0 (n + 1) (up2 M 105 n i) := (h.up n (Nat.le_refl _) i).push (by rw [up2_self]; omega)
    have h1 := gb_keep (b := b) (e := e) (g := g) hw hn hg h0
    have h2 := ih (i + 1) _ (by omega) h1.1.pop
    exact ⟨h2.1, fun k hk => by show itr g' b e g n r (i + 1) _ 105 k = _; rw [h2.2 k hk, h1.2 k (by omega), up2_in, if_neg (by omega)]⟩
theorem gor_keep {M0 : MM} {b e g : Int} {L : Nat} (hw : WM M0) (hL : (L : Int) = M0 86 0) : ∀ (f n : Nat) (M : MM), n + f ≤ 5 → GI M0 n M → GI M0 n (gor b e g L f n M) ∧ ∀ k, k < n → gor b e g L f n M 105 k = M 105 k := by
  intro f
  induction f with
  | zero => intro n M _ h; exact ⟨h, fun _ _ => rfl⟩
  | succ f ih =>
    intro n M hn h
    exact itr_keep (g' := gor b e g L f) (b := b) (e := e) (g := g) hw hL (by omega) (fun M' h' => ih (n + 1) M' (by omega) h') L 0 M (by omega) h
theorem gb_skip {g' : Nat → MM → MM} {b e g : Int} {n : Nat} {M : MM} (h : M 87 (M 105 n).toNat ≠ HR M n b ∨ (M 88 (M 105 n).toNat ≠ e ∧ (ON M (n + 1) (M 88 (M 105 n).toNat) ∨ (g ≠ 0 ∧ M 88 (M 105 n).toNat ≤ b) ∨ 4 ≤ n))) : gb g' b e g n M = M := by
  unfold gb
  by_cases c1 : M 87 (M 105 n).toNat ≠ HR M n b
  · rw [cif_t c1]
  · rw [cif_f c1]
    rcases h with h | ⟨h1, h2⟩
    · exact absurd h c1
    · rw [cif_f h1]
      refine cif_f (fun q => ?_)
      rcases h2 with h2 | h2 | h2
      · exact q.1 h2
      · omega
      · omega
theorem gb_vis {g' : Nat → MM → MM} {b e g : Int} {n : Nat} {M : MM} (h1 : M 87 (M 105 n).toNat = HR M n b) (h2 : M 88 (M 105 n).toNat = e) : gb g' b e g n M = vs g M (n + 1) := by
  unfold gb
  rw [cif_f (fun q => q h1), cif_t h2]
theorem gb_go {g' : Nat → MM → MM} {b e g : Int} {n : Nat} {M : MM} (h1 : M 87 (M 105 n).toNat = HR M n b) (h2 : M 88 (M 105 n).toNat ≠ e) (h3 : ¬ ON M (n + 1) (M 88 (M 105 n).toNat)) (h4 : g = 0 ∨ b < M 88 (M 105 n).toNat) (h5 : n < 4) : gb g' b e g n M = g' (n + 1) (up2 M 105 (n + 1) (-1)) := by
  unfold gb
  rw [cif_f (fun q => q h1), cif_f h2, cif_t ⟨h3, h4, h5⟩]
set_option maxRecDepth 100000 in
set_option maxHeartbeats 4000000 in
theorem ga_head5 {G : GG} {E : EE} (A : AmM G E cX5_goAll 7 yX5_goAll.cls 3) (n : Nat) (b e g : Int) (M : MM) (hn : n ≤ 4) (w5 w6 : Value) (kk : AM G E 7 26 [.ref 84, vi b, vi e, vi g, vi (n : Int), w5, w6] [] (up2 M 105 n (M 105 n + 1))) : AM G E 7 10 [.ref 84, vi b, vi e, vi g, vi (n : Int), w5, w6] [] M := by
  refine a_iload (z := (n : Int)) A dX5_goAll_10 rfl ?_
  refine a_if_lt (tgt := 222) A dX5_goAll_12 (by decide) (by omega) (fun h12 => ?_) (fun h12 => ?_)
  · exfalso; omega
  · refine a_aload_n (z := 84) A dX5_goAll_15 rfl ?_
    refine gf_X5_71 (r := 105) A dX5_goAll_16 rfl (by decide) rfl ?_
    refine a_iload (z := (n : Int)) A dX5_goAll_19 rfl ?_
    refine a_dup2 A dX5_goAll_21 rfl rfl ?_
    refine a_iaload (i := (n : Int)) (x := M 105 n) A dX5_goAll_22 rfl (by decide) (by decide) (by omega) rfl ?_
    refine a_iconst A dX5_goAll_23 ?_
    refine a_iadd (x := (M 105 n)) (y := 1) A dX5_goAll_24 ?_
    refine a_iastore (i := (n : Int)) (j := n) A dX5_goAll_25 rfl (by decide) (by decide) (by omega) rfl ?_
    exact kk
theorem ga_rec5 {G : GG} {E : EE} (A : AmM G E cX5_goAll 7 yX5_goAll.cls 3) (b e g : Int) (M0 : MM) (L : Nat) (hw : WM M0) (hL : (L : Int) = M0 86 0) (hb : I32 b) (he : I32 e) (hg : g = 0 ∨ g = 1) : ∀ (f n : Nat), n + (f + 1) = 5 → ∀ (r i : Nat) (M : MM), i + r = L → GI M0 n M → M 105 n + 1 = (i : Int) → (∀ w5 w6 : Value, AM G E 7 10 [.ref 84, vi b, vi e, vi g, vi ((n : Int) + (-1)), w5, w6] [] (itr (gor b e g L f) b e g n r i M)) → ∀ w5 w6 : Value, AM G E 7 10 [.ref 84, vi b, vi e, vi g, vi (n : Int), w5, w6] [] M := by
  intro f
  induction f with
  | zero =>
    intro n hnf r
    induction r with
    | zero =>
      intro i M hi h hM K w5 w6
      refine ga_head5 A n b e g M (by omega) w5 w6 ?_
      rw [hM]
      have h1 := h.up n (Nat.le_refl _) i
      have hw1 := h1.1.wm hw
      have e86 := h1.1.at (c := 86) (by decide) (by decide) (by decide) 0
      have e105 : up2 M 105 n i 105 n = i := up2_self _ _ _ _
      exact ga_body5 A n b e g _ (by omega) hb he hg hw1.2.1 hw1.1 hw1.2.2 (fun k hk => by rw [e86]; exact h1.2.1 k hk) (by omega) h1.2.2.1 (fun k hk => by have := h1.2.2.2.1 k hk; have := hw1.2.1; omega) h1.2.2.2.2.1 h1.2.2.2.2.2.1 (fun _ w5 w6 => K w5 w6) (fun q => by omega) (fun q => by omega) (fun q => by omega) w5 w6
    | succ r ih =>
      intro i M hi h hM K w5 w6
      refine ga_head5 A n b e g M (by omega) w5 w6 ?_
      rw [hM]
      have h1 := h.up n (Nat.le_refl _) i
      have hw1 := h1.1.wm hw
      have e86 := h1.1.at (c := 86) (by decide) (by decide) (by decide) 0
      have e105 : up2 M 105 n i 105 n = i := up2_self _ _ _ _
      have h2 : GI M0 (n + 1) (up2 M 105 n i) := h1.push (by omega)
      refine ga_body5 A n b e g _ (by omega) hb he hg hw1.2.1 hw1.1 hw1.2.2 (fun k hk => by rw [e86]; exact h1.2.1 k hk) (by omega) h1.2.2.1 (fun k hk => by have := h1.2.2.2.1 k hk; have := hw1.2.1; omega) h1.2.2.2.2.1 h1.2.2.2.2.2.1 (fun q => by omega) (fun _ q => ?_) (fun _ q1 q2 => ?_) (fun _ q1 q2 q3 q4 q5 => by omega) w5 w6
      · exact ih (i + 1) _ (by omega) h1 (by rw [e105]; push_cast; rfl) (fun w5 w6 => by have := K w5 w6; unfold itr at this; rw [gb_skip q] at this; exact this)
      · have h3 := vs_keep (g := g) hw (by omega) h2
        exact ih (i + 1) _ (by omega) h3.1.pop (by rw [h3.2, e105]; push_cast; rfl) (fun w5 w6 => by have := K w5 w6; unfold itr at this; rw [gb_vis q1 q2] at this; exact this)
  | succ f ihf =>
    intro n hnf r
    induction r with
    | zero =>
      intro i M hi h hM K w5 w6
      refine ga_head5 A n b e g M (by omega) w5 w6 ?_
      rw [hM]
      have h1 := h.up n (Nat.le_refl _) i
      have hw1 := h1.1.wm hw
      have e86 := h1.1.at (c := 86) (by decide) (by decide) (by decide) 0
      have e105 : up2 M 105 n i 105 n = i := up2_self _ _ _ _
      exact ga_body5 A n b e g _ (by omega) hb he hg hw1.2.1 hw1.1 hw1.2.2 (fun k hk => by rw [e86]; exact h1.2.1 k hk) (by omega) h1.2.2.1 (fun k hk => by have := h1.2.2.2.1 k hk; have := hw1.2.1; omega) h1.2.2.2.2.1 h1.2.2.2.2.2.1 (fun _ w5 w6 => K w5 w6) (fun q => by omega) (fun q => by omega) (fun q => by omega) w5 w6
    | succ r ih =>
      intro i M hi h hM K w5 w6
      refine ga_head5 A n b e g M (by omega) w5 w6 ?_
      rw [hM]
      have h1 := h.up n (Nat.le_refl _) i
      have hw1 := h1.1.wm hw
      have e86 := h1.1.at (c := 86) (by decide) (by decide) (by decide) 0
      have e105 : up2 M 105 n i 105 n = i := up2_self _ _ _ _
      have h2 : GI M0 (n + 1) (up2 M 105 n i) := h1.push (by omega)
      refine ga_body5 A n b e g _ (by omega) hb he hg hw1.2.1 hw1.1 hw1.2.2 (fun k hk => by rw [e86]; exact h1.2.1 k hk) (by omega) h1.2.2.1 (fun k hk => by have := h1.2.2.2.1 k hk; have := hw1.2.1; omega) h1.2.2.2.2.1 h1.2.2.2.2.2.1 (fun q => by omega) (fun _ q => ?_) (fun _ q1 q2 => ?_) (fun _ q1 q2 q3 q4 q5 => ?_) w5 w6
      · exact ih (i + 1) _ (by omega) h1 (by rw [e105]; push_cast; rfl) (fun w5 w6 => by have := K w5 w6; unfold itr at this; rw [gb_skip q] at this; exact this)
      · have h3 := vs_keep (g := g) hw (by omega) h2
        exact ih (i + 1) _ (by omega) h3.1.pop (by rw [h3.2, e105]; push_cast; rfl) (fun w5 w6 => by have := K w5 w6; unfold itr at this; rw [gb_vis q1 q2] at this; exact this)
      · have h4 := h2.up (n + 1) (Nat.le_refl _) (-1)
        have h5 := gor_keep (b := b) (e := e) (g := g) hw hL (f + 1) (n + 1) _ (by omega) h4
        have h6 := ih (i + 1) (gor b e g L (f + 1) (n + 1) (up2 (up2 M 105 n i) 105 (n + 1) (-1))) (by omega) h5.1.pop (by rw [h5.2 n (by omega), up2_in, if_neg (by omega), e105]; push_cast; rfl) (fun w5 w6 => by have := K w5 w6; unfold itr at this; rw [gb_go q1 q2 q3 q4 q5] at this; exact this)
        have h7 := ihf (n + 1) (by omega) L 0 (up2 (up2 M 105 n i) 105 (n + 1) (-1)) (by omega) h4 (by rw [up2_self]; rfl) (fun w5 w6 => by have := h6 w5 w6; rw [show (((n + 1 : Nat) : Int) + (-1)) = (n : Int) by omega]; exact this)
        intro w5 w6
        have := h7 w5 w6
        rw [show ((n + 1 : Nat) : Int) = (n : Int) + 1 by omega] at this
        exact this
set_option maxRecDepth 100000 in
set_option maxHeartbeats 4000000 in
theorem c_X5_goAll (G : GG) (l : Launch) (b e g : Int) (M : MM) (hb : I32 b) (he : I32 e) (hg : g = 0 ∨ g = 1) (hw : WM M) (hbo : BOK M) : CMv G l yX5_goAll cX5_goAll 7 none 3 [.ref 84, vi b, vi e, vi g] M (fun M' => M' = gor b e g (M 86 0).toNat 5 0 (up2 M 105 0 (-1))) := by
  refine CT.intro (by decide) (Nat.le_of_ble_eq_true rfl) (fun E hE A T0 => ?_)
  subst hE
  refine a_iconst A dX5_goAll_0 ?_
  refine a_istore (lv' := [.ref 84, vi b, vi e, vi g, vi 0, jk, jk]) A dX5_goAll_1 (by decide) rfl ?_
  refine a_aload_n (z := 84) A dX5_goAll_3 rfl ?_
  refine gf_X5_71 (r := 105) A dX5_goAll_4 rfl (by decide) rfl ?_
  refine a_iconst A dX5_goAll_7 ?_
  refine a_iconst A dX5_goAll_8 ?_
  refine a_iastore (i := 0) (j := 0) A dX5_goAll_9 rfl (by decide) (by decide) (by omega) rfl ?_
  have h0 : GI M 0 M := ⟨FZ.rf M, fun k hk => by omega, hbo⟩
  refine ga_rec5 A b e g M (M 86 0).toNat hw (by have := hw.2.1; omega) hb he hg 4 0 rfl (M 86 0).toNat 0 (up2 M 105 0 (-1)) (by omega) (h0.up 0 (Nat.le_refl _) (-1)) (by rw [up2_self]; rfl) (fun w5 w6 => ?_) jk jk
  refine a_iload (z := (((0 : Nat) : Int) + (-1))) A dX5_goAll_10 rfl ?_
  refine a_if_lt (tgt := 222) A dX5_goAll_12 (by decide) (by omega) (fun h12 => ?_) (fun h12 => ?_)
  · exact m_return A T0 dX5_goAll_222 (by rfl)
  · exfalso; omega
