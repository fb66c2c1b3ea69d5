/-! way and ring answer alike -/
def zRg (fr tt pp qq : Nat → Int) (L : Nat) (X Y : MM) : Prop := zSt fr tt pp qq L X Y ∧ X 16 6 = 1 ∧ zBt X Y ∧ X 16 7 = Y 84 30 ∧ X 16 8 = Y 84 31
theorem zSM.lb {M : MM} (h : zSM M) : zLb (M 87) (M 88) (M 90) (M 91) (M 86 0).toNat := by
  intro i hi
  have hP := h.wm.1
  have l := h.wm.2.2 i (by omega)
  unfold LW at l
  omega
theorem zSM.st {M X Y : MM} (h : zSM M) (hx : ∀ c, c < 14 → c ≠ 1 → X c = M c) (h1 : X 1 1 = M 1 1) (hy : ∀ c, 86 ≤ c → c ≤ 91 → Y c = M c) : zSt (M 87) (M 88) (M 90) (M 91) (M 86 0).toNat X Y := by
  have hL := h.wm.2.1
  have hn := h.qn
  refine ⟨by omega, ⟨by rw [h1, hn.2.1]; omega, fun i hi => ?_⟩, fun i hi => ?_, by rw [hy 86 (by decide) (by decide)]; omega⟩
  · have q := hn.2.2 i (by omega)
    unfold zqS at q
    rw [hx (3 + i) (by omega) (by omega)]
    exact ⟨q.1, q.2.1, q.2.2.2.1, q.2.2.2.2.1⟩
  · rw [hy 87 (by decide) (by decide), hy 88 (by decide) (by decide), hy 90 (by decide) (by decide), hy 91 (by decide) (by decide)]
    exact ⟨rfl, rfl, rfl, rfl⟩
theorem zq_ps1 {fr tt : Nat → Int} {τ : Nat → Int} {v : Int} (hv : 0 ≤ v ∧ v < 5) : zPs fr v 0 (zv v tt τ 0) τ 0 (zqb v) := by
  refine ⟨zq_b32 hv, fun t t0 t5 => ?_⟩
  have h := zq_b1 v.toNat (by omega) t.toNat (by omega)
  have h2 : (zqb v &&& zqb t) ≠ 0 ↔ t.toNat = v.toNat := h
  rw [h2]
  show _ ↔ ((∃ k, k < 0 ∧ _) ∨ t = v ∨ ((0 : Int) = 1 ∧ t ≤ v))
  constructor
  · intro q; exact Or.inr (Or.inl (by omega))
  · rintro (⟨k, hk, -⟩ | q | ⟨q, -⟩)
    · omega
    · rw [q]
    · exact absurd q (by decide)
theorem zq_ps2 {fr tt : Nat → Int} {τ : Nat → Int} {v : Nat} (hv : v < 5) : zPs fr (v : Int) 1 (zv (v : Int) tt τ 0) τ 0 (2 ^ (v + 1) - 1) := by
  refine ⟨(zq_b2 v hv 0 (by decide)).2, fun t t0 t5 => ?_⟩
  have h := (zq_b2 v hv t.toNat (by omega)).1
  have h2 : ((2 ^ (v + 1) - 1) &&& zqb t) ≠ 0 ↔ t.toNat ≤ v := h
  rw [h2]
  show _ ↔ ((∃ k, k < 0 ∧ _) ∨ t = (v : Int) ∨ ((1 : Int) = 1 ∧ t ≤ (v : Int)))
  constructor
  · intro q; exact Or.inr (Or.inr ⟨rfl, by omega⟩)
  · rintro (⟨k, hk, -⟩ | q | ⟨-, q⟩)
    · omega
    · omega
    · omega
theorem zw_way {M M1 : MM} {f t : Int} (h : zSM M) (hf : zFr M M1) (hv : (0 ≤ f ∧ f < M 1 0) ∧ (0 ≤ t ∧ t < M 1 0) ∧ f ≠ t) : zBt (zqF (up2 M 1 4 0) f t) (wyM M1 f t) := by
  have hP := h.wm.1
  have e0 := h.qn.1
  have e85 : M1 85 0 = M 85 0 := by rw [hf 85 (by decide)]
  have e86 : M1 86 0 = M 86 0 := by rw [hf 86 (by decide)]
  have hy : wyM M1 f t = goR f t 0 (up2 (up2 M1 84 0 0) 84 27 0) := if_pos (by omega)
  rw [hy]
  unfold zqF goR
  have e862 : (up2 (up2 M1 84 0 0) 84 27 0 86 0).toNat = (M 86 0).toNat := by rw [up2_ne _ _ _ _ (by decide), up2_ne _ _ _ _ (by decide), e86]
  rw [e862]
  have h0 : zRl (M 87) (M 88) (M 90) (M 91) (M 86 0).toNat t 0 (fun _ => 0) 0 (up2 (zqg (up2 M 1 4 0) 0) 16 5 t) (up2 (up2 (up2 M1 84 0 0) 84 27 0) 105 0 (-1)) := by
    refine ⟨h.st (fun c hc c1 => ?_) rfl (fun c c1 c2 => ?_), ⟨rfl, rfl⟩, fun k hk => absurd hk (Nat.not_lt_zero k), ⟨rfl, Int.le_refl 0, fun k hk => ?_, fun q => absurd rfl q⟩, fun q => absurd q (by decide)⟩
    · rw [up2_ne _ _ _ _ (by omega), zq_fcg _ 0 c (by omega), up2_ne _ _ _ _ c1]
    · rw [up2_ne _ _ _ _ (by omega), up2_ne _ _ _ _ (by omega), up2_ne _ _ _ _ (by omega), hf c (by omega)]
    · exfalso
      have : (k : Int) < 0 := hk
      omega
  have r := zq_dfs (b := f) h.lb (Or.inl rfl) 4 0 (zqb f) (fun _ => 0) _ _ (by decide) h0 (fun k hk => absurd hk (Nat.not_lt_zero k)) (by show 0 ≤ f ∧ f < 5; omega) (zq_ps1 (by omega)) ⟨fun k hk => absurd hk (Nat.not_lt_zero k), fun j k _ hk => absurd hk (Nat.not_lt_zero k)⟩
  exact r.2.2.2.1
/-- no lane ends at the goal: nothing is weighed -/
theorem zq_nog : ∀ (f : Nat) (v : Int) (dp ps : Nat) (X : MM), (0 ≤ X 1 1 ∧ X 1 1 ≤ 10) → (∀ i : Nat, (i : Int) < X 1 1 → X (3 + i) 1 ≠ X 16 5) → ∀ c, c ≠ 17 → zqk f v dp ps X c = X c := by
  intro f
  induction f with
  | zero => intro v dp ps X h10 h c hc; rfl
  | succ f ih =>
    intro v dp ps X h10 h c hc
    have loop : ∀ (r i : Nat) (Z : MM), (i : Int) + r = X 1 1 → (∀ c, c ≠ 17 → Z c = X c) → ∀ c, c ≠ 17 → zqi (fun t p X => zqk f t (dp + 1) p X) v dp ps r i Z c = X c := by
      intro r
      induction r with
      | zero => intro i Z _ hz c hc; exact hz c hc
      | succ r ihr =>
        intro i Z hi hz c hc
        refine ihr (i + 1) _ (by omega) (fun c hc => ?_) c hc
        unfold zqw
        have e1 : Z (3 + i) = X (3 + i) := hz _ (by omega)
        have e16 : Z 16 = X 16 := hz 16 (by decide)
        rw [e1, e16]
        by_cases c1 : X (3 + i) 0 ≠ v
        · rw [cif_t c1]; exact hz c hc
        · rw [cif_f c1, cif_f (h i (by omega))]
          by_cases c2 : (ps &&& zqb (X (3 + i) 1)) = 0
          · rw [cif_t c2]
            have hu : ∀ c, c ≠ 17 → up2 Z 17 dp (i : Int) c = X c := fun c hc => by rw [up2_ne _ _ _ _ hc]; exact hz c hc
            show zqk f (X (3 + i) 1) (dp + 1) (ps ||| zqb (X (3 + i) 1)) (up2 Z 17 dp (i : Int)) c = X c
            rw [ih (X (3 + i) 1) (dp + 1) _ (up2 Z 17 dp (i : Int)) (by rw [hu 1 (by decide)]; exact h10) (fun j hj => ?_) c hc]
            · exact hu c hc
            · rw [hu 1 (by decide)] at hj
              rw [hu 16 (by decide), hu (3 + j) (by omega)]
              exact h j hj
          · rw [cif_f c2, up2_ne _ _ _ _ hc]; exact hz c hc
    exact loop (X 1 1).toNat 0 X (by omega) (fun _ _ => rfl) c hc
/-- no lane begins here -/
theorem zq_nof (f : Nat) (v : Int) (dp ps : Nat) (X : MM) (h10 : 0 ≤ X 1 1) (h : ∀ i : Nat, (i : Int) < X 1 1 → X (3 + i) 0 ≠ v) : zqk f v dp ps X = X := by
  cases f with
  | zero => rfl
  | succ f =>
    have loop : ∀ (r i : Nat), (i : Int) + r = X 1 1 → zqi (fun t p X => zqk f t (dp + 1) p X) v dp ps r i X = X := by
      intro r
      induction r with
      | zero => intro i _; rfl
      | succ r ihr =>
        intro i hi
        show zqi _ v dp ps r (i + 1) (zqw _ v dp ps i X) = X
        have e : zqw (fun t p X => zqk f t (dp + 1) p X) v dp ps i X = X := by
          unfold zqw
          rw [cif_t (h i (by omega))]
        rw [e]
        exact ihr (i + 1) (by omega)
    exact loop (X 1 1).toNat 0 (by omega)
theorem zRg.up5 {fr tt pp qq : Nat → Int} {L : Nat} {X Y : MM} (h : zRg fr tt pp qq L X Y) (x : Int) : zRg fr tt pp qq L (up2 X 16 5 x) Y := by
  obtain ⟨h1, h2, h3, h4, h5⟩ := h
  exact ⟨h1.to (fun c hc => up2_ne _ _ _ _ (by omega)) (fun _ _ _ => rfl), h2, h3, h4, h5⟩
theorem zw_rgs {fr tt pp qq : Nat → Int} {L : Nat} {X Y : MM} {v : Nat} (hb : zLb fr tt pp qq L) (hv : v < 5) (h : zRg fr tt pp qq L X Y) : zRg fr tt pp qq L (zqk 4 (v : Int) 0 (2 ^ (v + 1) - 1) (up2 X 16 5 (v : Int))) (goR (v : Int) (v : Int) 1 Y) := by
  obtain ⟨h1, h2, h3, h4, h5⟩ := h.up5 (v : Int)
  have hL : (Y 86 0).toNat = L := by have := h1.2.2.2; omega
  unfold goR
  rw [hL]
  have h0 : zRl fr tt pp qq L (v : Int) 1 (fun _ => 0) 0 (up2 X 16 5 (v : Int)) (up2 Y 105 0 (-1)) := ⟨h1.to (fun _ _ => rfl) (fun c c1 c2 => up2_ne _ _ _ _ (by omega)), ⟨by rw [up2_self], h2⟩, fun k hk => absurd hk (Nat.not_lt_zero k), h3, fun _ => ⟨h4, h5⟩⟩
  have r := zq_dfs (b := (v : Int)) hb (Or.inr rfl) 4 0 (2 ^ (v + 1) - 1) (fun _ => 0) _ _ (by decide) h0 (fun k hk => absurd hk (Nat.not_lt_zero k)) (by show 0 ≤ (v : Int) ∧ (v : Int) < 5; omega) (zq_ps2 hv) ⟨fun k hk => absurd hk (Nat.not_lt_zero k), fun j k _ hk => absurd hk (Nat.not_lt_zero k)⟩
  exact ⟨r.1, r.2.1.2, r.2.2.2.1, r.2.2.2.2 rfl⟩
theorem zw_rgr {fr tt pp qq : Nat → Int} {L P : Nat} (hb : zLb fr tt pp qq L) (hP : 2 ≤ P ∧ P ≤ 5) (hf : ∀ i, i < L → fr i < (P : Int) - 1) : ∀ (c v : Nat) (X Y : MM), c + 1 + v = P → 1 ≤ v → zRg fr tt pp qq L X Y → zRg fr tt pp qq L (zqr (c + 1) v X) (frg c v Y) := by
  intro c
  induction c with
  | zero =>
    intro v X Y hc hv h
    show zRg fr tt pp qq L (zqk 4 (v : Int) 0 (2 ^ (v + 1) - 1) (up2 X 16 5 (v : Int))) Y
    have hs := h.1
    rw [zq_nof 4 (v : Int) 0 _ (up2 X 16 5 (v : Int)) (by rw [up2_ne _ _ _ _ (by decide), hs.2.1.1]; omega) (fun i hi => ?_)]
    · exact h.up5 _
    · rw [up2_ne _ _ _ _ (by decide), hs.2.1.1] at hi
      have h10 := hs.1
      rw [up2_ne _ _ _ _ (by omega), (hs.2.1.2 i (by omega)).1]
      have := hf i (by omega)
      omega
  | succ c ih =>
    intro v X Y hc hv h
    exact ih (v + 1) _ _ (by omega) (by omega) (zw_rgs hb (by omega) h)
theorem zw_rg {M A B : MM} (h : zSM M) (hA : ∀ c, c < 14 → c ≠ 1 → A c = M c) (hA0 : A 1 0 = M 1 0) (hA1 : A 1 1 = M 1 1) (hB : ∀ c, 85 ≤ c → c ≤ 91 → B c = M c) : zRg (M 87) (M 88) (M 90) (M 91) (M 86 0).toNat (zqR A) (frM B) := by
  have hP := h.wm.1
  have hL := h.wm.2.1
  have e0 := h.qn.1
  have e1 := h.qn.2.1
  unfold zqR frM
  rw [hA0, hB 85 (by decide) (by decide), e0]
  obtain ⟨c, hc⟩ : ∃ c : Nat, (M 85 0).toNat = c + 2 := ⟨(M 85 0).toNat - 2, by omega⟩
  rw [hc, show c + 2 - 2 = c by omega]
  have h0 : zRg (M 87) (M 88) (M 90) (M 91) (M 86 0).toNat (zqg A 1) (up2 (up2 (up2 B 84 27 0) 84 30 0) 84 31 0) := by
    refine ⟨h.st (fun c hc c1 => ?_) ?_ (fun c c1 c2 => ?_), rfl, ⟨rfl, Int.le_refl 0, fun k hk => ?_, fun q => absurd rfl q⟩, rfl, rfl⟩
    · rw [zq_fcg A 1 c (by omega)]; exact hA c hc c1
    · rw [zq_fcg A 1 1 (by omega)]; exact hA1
    · rw [up2_ne _ _ _ _ (by omega), up2_ne _ _ _ _ (by omega), up2_ne _ _ _ _ (by omega)]; exact hB c (by omega) c2
    · exfalso
      have : (k : Int) < 0 := hk
      omega
  show zRg _ _ _ _ _ (zqr (c + 1) (0 + 1) (zqk 4 ((0 : Nat) : Int) 0 (2 ^ (0 + 1) - 1) (up2 (zqg A 1) 16 5 ((0 : Nat) : Int)))) _
  have hs := h0.1
  have hn := zq_nog 4 ((0 : Nat) : Int) 0 (2 ^ (0 + 1) - 1) (up2 (zqg A 1) 16 5 ((0 : Nat) : Int)) (by rw [up2_ne _ _ _ _ (by decide), hs.2.1.1]; have := hs.1; omega) (fun i hi => by
    rw [up2_ne _ _ _ _ (by decide), hs.2.1.1] at hi
    have h10 := hs.1
    rw [up2_self, up2_ne _ _ _ _ (by omega), (hs.2.1.2 i (by omega)).2.1]
    have := (h.lb i (by omega)).2.1
    omega)
  have h1 : zRg (M 87) (M 88) (M 90) (M 91) (M 86 0).toNat (zqk 4 ((0 : Nat) : Int) 0 (2 ^ (0 + 1) - 1) (up2 (zqg A 1) 16 5 ((0 : Nat) : Int))) (up2 (up2 (up2 B 84 27 0) 84 30 0) 84 31 0) := by
    obtain ⟨q1, q2, q3, q4, q5⟩ := h0.up5 ((0 : Nat) : Int)
    refine ⟨q1.to (fun c hc => hn c (by omega)) (fun _ _ _ => rfl), by rw [hn 16 (by decide)]; exact q2, ?_, by rw [hn 16 (by decide)]; exact q4, by rw [hn 16 (by decide)]; exact q5⟩
    unfold zBt at q3 ⊢
    rw [hn 16 (by decide), hn 19 (by decide), hn 20 (by decide)]
    exact q3
  refine zw_rgr (P := c + 2) h.lb (by omega) (fun i hi => ?_) c (0 + 1) _ _ (by omega) (by omega) h1
  have l := h.wm.2.2 i (by omega)
  unfold LW at l
  omega
section ZWQ
variable {M M1 M2 : MM} {z z2 : Int}
theorem zt_way {f t : Int} (h : zSM M) (h1 : pc_way f t M z M1) (h2 : pr_way f t M1 z2 M2) : z = z2 := by
  have hf := zf_way h.cw h1
  have e0 := h.qn.1
  have e85 : M1 85 0 = M 85 0 := by rw [hf 85 (by decide)]
  by_cases hv : (0 ≤ f ∧ f < M 1 0) ∧ (0 ≤ t ∧ t < M 1 0) ∧ f ≠ t
  · have hb := (zw_way h hf hv).1
    unfold pc_way at h1
    unfold pr_way at h2
    omega
  · have hw : wyM M1 f t 84 27 = 0 := by
      unfold wyM
      rw [if_neg (by omega)]
      rfl
    unfold pc_way at h1
    unfold pr_way at h2
    omega
theorem zt_ring (h : zSM M) (h1 : pc_ring M z M1) (h2 : pr_ring M1 z2 M2) : z = z2 := by
  have hf := zf_ring h.cw h1
  have hr := zw_rg (A := up2 M 1 4 0) (B := up2 M1 84 0 0) h (fun c hc c1 => up2_ne _ _ _ _ c1) rfl rfl (fun c c1 c2 => by rw [up2_ne _ _ _ _ (by omega), hf c (by omega)])
  have hb := hr.2.2.1.1
  unfold pc_ring at h1
  unfold pr_ring at h2
  omega
end ZWQ
