/-! both sides alike: what is told, the images; the row at hand only within its bounds -/
def zLn (M : MM) (c s x : Nat) : Prop := (0 ≤ M 87 x ∧ M 87 x < M 85 s - 1 ∧ 0 < M 88 x ∧ M 88 x < M 85 s ∧ M 87 x ≠ M 88 x ∧ 0 ≤ M 89 x ∧ M 89 x ≤ 100 ∧ 1 ≤ M 90 x ∧ M 90 x ≤ 9 ∧ 1 ≤ M 91 x ∧ M 91 x ≤ 9 ∧ 0 ≤ M 92 x ∧ M 92 x ≤ 8 ∧ 0 ≤ M 93 x ∧ M 93 x ≤ 1000 ∧ 1 ≤ M 94 x ∧ M 94 x ≤ 9) ∧ (M c 0 = M 87 x ∧ M c 1 = M 88 x ∧ M c 2 = M 89 x ∧ M c 3 = M 90 x ∧ M c 4 = M 91 x ∧ M c 5 = M 92 x ∧ M c 6 = nU (M 93 x) (M 94 x) ∧ M c 7 = nD (M 93 x) (M 94 x))
def zNt (M : MM) (b s : Nat) : Prop := (2 ≤ M 85 s ∧ M 85 s ≤ 5) ∧ (0 ≤ M 86 s ∧ M 86 s ≤ 10) ∧ (M b 0 = M 85 s ∧ M b 1 = M 86 s) ∧ (∀ k : Nat, (k : Int) < M 86 s → zLn M (b + 2 + k) s (10 * s + k)) ∧ (∃ N : Nat, N ≤ 4 ∧ M b 4 = (N : Int) ∧ ∀ k, k < N → 0 ≤ M (b + 12) k ∧ M (b + 12) k < M 86 s) ∧ (0 ≤ M 95 s ∧ M 95 s ≤ 5)
def zSM (M : MM) : Prop := zNt M 1 0 ∧ (∀ j, j < 3 → M 15 j = M 107 j ∧ (M 107 j = 0 ∨ M 107 j = 1) ∧ (M 107 j ≠ 0 → zNt M (45 + 13 * j) (j + 1))) ∧ zZ M ∧ BB M
theorem zLn.to {M M' : MM} {c c' s s' x x' : Nat} (h : zLn M c s x) (h0 : ∀ q, q < 8 → M' c' q = M c q) (h1 : M' 85 s' = M 85 s) (h2 : ∀ r, 87 ≤ r → r ≤ 94 → M' r x' = M r x) : zLn M' c' s' x' := by
  unfold zLn at h ⊢
  rw [h0 0 (by decide), h0 1 (by decide), h0 2 (by decide), h0 3 (by decide), h0 4 (by decide), h0 5 (by decide), h0 6 (by decide), h0 7 (by decide), h1, h2 87 (by decide) (by decide), h2 88 (by decide) (by decide), h2 89 (by decide) (by decide), h2 90 (by decide) (by decide), h2 91 (by decide) (by decide), h2 92 (by decide) (by decide), h2 93 (by decide) (by decide), h2 94 (by decide) (by decide)]
  exact h
theorem zNt.to {M M' : MM} {b b' s s' : Nat} (h : zNt M b s) (h0 : ∀ q, q = 0 ∨ q = 1 ∨ q = 4 → M' b' q = M b q) (hl : ∀ (k q : Nat), (k : Int) < M 86 s → q < 8 → M' (b' + 2 + k) q = M (b + 2 + k) q) (hh : ∀ k, k < 4 → M' (b' + 12) k = M (b + 12) k) (h1 : ∀ r, r = 85 ∨ r = 86 ∨ r = 95 → M' r s' = M r s) (h2 : ∀ r k, 87 ≤ r → r ≤ 94 → k < 10 → M' r (10 * s' + k) = M r (10 * s + k)) : zNt M' b' s' := by
  obtain ⟨a1, a2, a3, a4, ⟨N, n1, n2, n3⟩, a6⟩ := h
  have e5 := h1 85 (by decide)
  have e6 := h1 86 (by decide)
  refine ⟨by rw [e5]; exact a1, by rw [e6]; exact a2, by rw [e5, e6, h0 0 (by decide), h0 1 (by decide)]; exact a3, fun k hk => ?_, ⟨N, n1, by rw [h0 4 (by decide)]; exact n2, fun k hk => ?_⟩, by rw [h1 95 (by decide)]; exact a6⟩
  · rw [e6] at hk
    exact (a4 k hk).to (fun q hq => hl k q hk hq) e5 (fun r r1 r2 => h2 r k r1 r2 (by omega))
  · rw [hh k (by omega), e6]
    exact n3 k hk
/-- the relevant cells are as they were -/
theorem zNt.same {M M' : MM} {b s : Nat} (h : zNt M b s) (hb : ∀ c, b ≤ c → c ≤ b + 12 → M' c = M c) (hr : ∀ c, 85 ≤ c → c ≤ 95 → M' c = M c) : zNt M' b s := by
  have hL := h.2.1
  refine h.to (fun q _ => by rw [hb b (by omega) (by omega)]) (fun k q hk _ => by rw [hb (b + 2 + k) (by omega) (by omega)]) (fun k _ => by rw [hb (b + 12) (by omega) (by omega)]) (fun r hr2 => by rw [hr r (by omega) (by omega)]) (fun r k r1 r2 _ => by rw [hr r (by omega) (by omega)])
theorem zSM.keep {M M' : MM} (h : zSM M) (hc : ∀ c, c < 16 ∨ (45 ≤ c ∧ c < 84) ∨ (85 ≤ c ∧ c ≤ 95) ∨ c = 107 → M' c = M c) (hz : zZ M') (hb : BB M') : zSM M' := by
  refine ⟨h.1.same (fun c c1 c2 => hc c (by omega)) (fun c c1 c2 => hc c (by omega)), fun j hj => ?_, hz, hb⟩
  obtain ⟨q1, q2, q3⟩ := h.2.1 j hj
  rw [hc 15 (by decide), hc 107 (by decide)]
  exact ⟨q1, q2, fun q => (q3 q).same (fun c c1 c2 => hc c (by omega)) (fun c c1 c2 => hc c (by omega))⟩
theorem zq_nbd {u v : Int} (hu : 0 ≤ u ∧ u ≤ 1000) (hv : 1 ≤ v ∧ v ≤ 9) : (0 ≤ nU u v ∧ nU u v ≤ 1000) ∧ 1 ≤ nD u v ∧ nD u v ≤ 9 := by
  have h1 := nU_bd hu.1 (b := v) (by omega)
  have h2 := nD_bd (a := u) (b := v) (by omega)
  omega
theorem zSM.wm {M : MM} (h : zSM M) : WM M := by
  obtain ⟨h1, -⟩ := h
  refine ⟨h1.1, h1.2.1, fun i hi => ?_⟩
  have q := (h1.2.2.2.1 i hi).1
  rw [show 10 * 0 + i = i by omega] at q
  exact q
theorem zSM.qn {M : MM} (h : zSM M) : zqN M := by
  obtain ⟨h1, -⟩ := h
  refine ⟨h1.2.2.1.1, h1.2.2.1.2, fun i hi => ?_⟩
  have q := (h1.2.2.2.1 i hi).2
  rw [show 10 * 0 + i = i by omega, show 1 + 2 + i = 3 + i by omega] at q
  exact q
theorem zSM.cw {M : MM} (h : zSM M) : CW M := by
  have hw := h.wm
  have hn := h.qn
  refine ⟨by rw [hn.1]; exact hw.1, by rw [hn.2.1]; exact hw.2.1, fun i hi => ?_⟩
  rw [hn.2.1] at hi
  have l := hw.2.2 i hi
  have q := hn.2.2 i hi
  unfold LW at l
  have nb := zq_nbd (u := M 93 i) (v := M 94 i) (by omega) (by omega)
  unfold zqS at q
  unfold CL
  rw [hn.1]
  omega
theorem zSM.hand {M : MM} (h : zSM M) : ∃ N : Nat, N ≤ 4 ∧ M 1 4 = (N : Int) ∧ RW M 13 N := by
  obtain ⟨N, n1, n2, n3⟩ := h.1.2.2.2.2.1
  exact ⟨N, n1, n2, fun k hk => by rw [h.1.2.2.1.2]; exact n3 k hk⟩
/-- what the reference knows of itself, kept by the class's calls -/
def zRB (M : MM) : Prop := WM M ∧ BB M ∧ (0 ≤ M 95 0 ∧ M 95 0 ≤ 5) ∧ ∀ j : Nat, j < 3 → M 107 j = 0 ∨ M 107 j = 1
theorem zSM.rb {M M1 : MM} (h : zSM M) (hf : zFr M M1) : zRB M1 := by
  have hw := h.wm
  unfold zRB BB
  rw [hf 84 (by decide), hf 95 (by decide), hf 107 (by decide)]
  refine ⟨?_, h.2.2.2, h.1.2.2.2.2.2, fun j hj => (h.2.1 j hj).2.1⟩
  unfold WM LW at hw ⊢
  rw [hf 85 (by decide), hf 86 (by decide), hf 87 (by decide), hf 88 (by decide), hf 89 (by decide), hf 90 (by decide), hf 91 (by decide), hf 92 (by decide), hf 93 (by decide), hf 94 (by decide)]
  exact hw
theorem zSM.im {M : MM} (h : zSM M) : (∀ j, j < 3 → M 15 j = 0 ∨ M 15 j = 1) ∧ ∀ j, j < 3 → M 15 j ≠ 0 → 0 ≤ M (45 + 13 * j) 1 ∧ M (45 + 13 * j) 1 ≤ 10 := by
  refine ⟨fun j hj => ?_, fun j hj q => ?_⟩
  · obtain ⟨q1, q2, -⟩ := h.2.1 j hj
    rw [q1]; exact q2
  · obtain ⟨q1, q2, q3⟩ := h.2.1 j hj
    rw [q1] at q
    have r := q3 q
    rw [r.2.2.1.2]
    exact r.2.1
/-! the reference leaves the class alone -/
def zFq (M M1 : MM) : Prop := ∀ c, c < 84 → M1 c = M c
/-- calls that leave all that is told as it was -/
theorem zSM.quiet {M M1 M2 : MM} (h : zSM M) (h1 : ∀ c, c < 16 ∨ (45 ≤ c ∧ c < 84) ∨ 84 ≤ c → M1 c = M c) (hz : zZ M1) (h2 : ∀ c, c < 84 ∨ (85 ≤ c ∧ c ≤ 95) ∨ c = 107 → M2 c = M1 c) (hb : BB M2) : zSM M2 := by
  refine h.keep (fun c hc => by rw [h2 c (by omega)]; exact h1 c (by omega)) ?_ hb
  unfold zZ at hz ⊢
  rw [h2 41 (by decide), h2 21 (by decide)]
  exact hz
theorem BB.up {M : MM} (h : BB M) {j : Nat} (hj : j ≠ 28) (hj2 : j ≠ 29) (x : Int) : BB (up2 M 84 j x) := by
  unfold BB at h ⊢
  rw [up2_in, if_neg (by omega), up2_in, if_neg (by omega)]
  exact h
theorem BB.fo {M M' : MM} (h : BB M) (hf : FO M M') : BB M' := by
  unfold BB at h ⊢
  rw [hf.2 28 (by decide) (by decide) (by decide) (by decide) (by decide), hf.2 29 (by decide) (by decide) (by decide) (by decide) (by decide)]
  exact h
section ZSO
variable {M M1 M2 : MM} {z z2 : Int}
theorem zs_posts {n : Int} (h : zSM M) (h1 : pc_posts n M z M1) (h2 : pr_posts n M1 z2 M2) : z = z2 ∧ zSM M2 := by
  rcases h1 with ⟨a1, a2, rfl⟩ | ⟨a1, a2, rfl⟩
  · rcases h2 with ⟨b1, b2, b3, -⟩ | ⟨b1, b2, rfl⟩
    · omega
    · exact ⟨by omega, h.quiet (fun _ _ => rfl) h.2.2.1 (fun c hc => up2_ne _ _ _ _ (by omega)) (h.2.2.2.up (by decide) (by decide) _)⟩
  · rcases h2 with ⟨b1, b2, b3, rfl⟩ | ⟨b1, b2, -⟩
    · refine ⟨by omega, ?_, fun j hj => ?_, h.2.2.1, h.2.2.2⟩
      · exact ⟨⟨b2, b3⟩, ⟨Int.le_refl 0, by show (0 : Int) ≤ 10; decide⟩, ⟨rfl, rfl⟩, fun k hk => by have hk2 : (k : Int) < 0 := hk; omega, ⟨0, Nat.zero_le _, rfl, fun k hk => absurd hk (Nat.not_lt_zero k)⟩, ⟨Int.le_refl 0, by show (0 : Int) ≤ 5; decide⟩⟩
      · obtain ⟨q1, q2, q3⟩ := h.2.1 j hj
        refine ⟨q1, q2, fun q => (q3 q).to (fun q' _ => ?_) (fun k q' hk _ => ?_) (fun k _ => ?_) (fun r hr => ?_) (fun r k r1 r2 hk => ?_)⟩
        · simp only [up2_ne _ _ _ _ (show 45 + 13 * j ≠ 1 by omega), up2_ne _ _ _ _ (show 45 + 13 * j ≠ 84 by omega), up2_ne _ _ _ _ (show 45 + 13 * j ≠ 85 by omega), up2_ne _ _ _ _ (show 45 + 13 * j ≠ 86 by omega), up2_ne _ _ _ _ (show 45 + 13 * j ≠ 95 by omega)]
        · have := (q3 q).2.1
          simp only [up2_ne _ _ _ _ (show 45 + 13 * j + 2 + k ≠ 1 by omega), up2_ne _ _ _ _ (show 45 + 13 * j + 2 + k ≠ 84 by omega), up2_ne _ _ _ _ (show 45 + 13 * j + 2 + k ≠ 85 by omega), up2_ne _ _ _ _ (show 45 + 13 * j + 2 + k ≠ 86 by omega), up2_ne _ _ _ _ (show 45 + 13 * j + 2 + k ≠ 95 by omega)]
        · simp only [up2_ne _ _ _ _ (show 45 + 13 * j + 12 ≠ 1 by omega), up2_ne _ _ _ _ (show 45 + 13 * j + 12 ≠ 84 by omega), up2_ne _ _ _ _ (show 45 + 13 * j + 12 ≠ 85 by omega), up2_ne _ _ _ _ (show 45 + 13 * j + 12 ≠ 86 by omega), up2_ne _ _ _ _ (show 45 + 13 * j + 12 ≠ 95 by omega)]
        · rcases hr with rfl | rfl | rfl
          · show (if j + 1 = 0 then n else M 85 (j + 1)) = M 85 (j + 1)
            rw [if_neg (by omega)]
          · show (if j + 1 = 0 then 0 else M 86 (j + 1)) = M 86 (j + 1)
            rw [if_neg (by omega)]
          · show (if j + 1 = 0 then 0 else M 95 (j + 1)) = M 95 (j + 1)
            rw [if_neg (by omega)]
        · simp only [up2_ne _ _ _ _ (show r ≠ 1 by omega), up2_ne _ _ _ _ (show r ≠ 84 by omega), up2_ne _ _ _ _ (show r ≠ 85 by omega), up2_ne _ _ _ _ (show r ≠ 86 by omega), up2_ne _ _ _ _ (show r ≠ 95 by omega)]
    · omega
theorem zs_tell {k w : Int} (h : zSM M) (h1 : pc_tell k w M z M1) (h2 : pr_tell k w M1 z2 M2) : z = z2 ∧ zSM M2 := by
  obtain ⟨rfl, h1⟩ := h1
  have hn := h.qn
  have e86 := hn.2.1
  have hq : (∀ c, c < 84 ∨ (85 ≤ c ∧ c ≤ 95) ∨ c = 107 → M2 c = M1 c) ∧ BB M2 := by
    rcases h2 with ⟨-, -, rfl⟩ | ⟨-, rfl, -⟩ | ⟨-, rfl, -⟩
    · exact ⟨fun c hc => up2_ne _ _ _ _ (by omega), h.2.2.2.up (by decide) (by decide) _⟩
    · exact ⟨fun c hc => up2_ne _ _ _ _ (by omega), h.2.2.2.up (by decide) (by decide) _⟩
    · exact ⟨fun c hc => by rw [up2_ne _ _ _ _ (by omega), up2_ne _ _ _ _ (by omega), up2_ne _ _ _ _ (by omega)], ((h.2.2.2.up (by decide) (by decide) _).up (by decide) (by decide) _).up (by decide) (by decide) _⟩
  refine ⟨?_, h.quiet (fun _ _ => rfl) h.2.2.1 hq.1 hq.2⟩
  unfold pr_tell at h2
  by_cases hk : 0 ≤ k ∧ k < M1 86 0
  · have q := hn.2.2 k.toNat (by omega)
    unfold zqS at q
    rcases h1 with ⟨b1, b2⟩ | ⟨b1, b2⟩
    · omega
    · have hw : w = 0 ∨ w = 1 ∨ w = 2 ∨ w = 3 ∨ w = 4 ∨ w = 5 ∨ w = 6 ∨ w = 7 := by omega
      rcases hw with rfl | rfl | rfl | rfl | rfl | rfl | rfl | rfl
      · have b3 : z = M1 (3 + k.toNat) 0 := b2
        omega
      · have b3 : z = M1 (3 + k.toNat) 1 := b2
        omega
      · have b3 : z = M1 (3 + k.toNat) 2 := b2
        omega
      · have b3 : z = M1 (3 + k.toNat) 3 := b2
        omega
      · have b3 : z = M1 (3 + k.toNat) 4 := b2
        omega
      · have b3 : z = M1 (3 + k.toNat) 5 := b2
        omega
      · have b3 : z = M1 (3 + k.toNat) 6 := b2
        omega
      · have b3 : z = M1 (3 + k.toNat) 7 := b2
        omega
  · omega
theorem zs_most {w b : Int} (h : zSM M) (h1 : pc_most w b M z M1) (h2 : pr_most w b M1 z2 M2) : zSM M2 := by
  have hc : (∀ c, c < 16 ∨ (45 ≤ c ∧ c < 84) ∨ 84 ≤ c → M1 c = M c) ∧ zZ M1 := by
    rcases h1 with ⟨-, -, rfl⟩ | ⟨-, s, u, L, -, -, hco⟩
    · exact ⟨fun _ _ => rfl, h.2.2.1⟩
    · exact ⟨fun c hc => hco.1 c (by omega), hco.2⟩
  have hb : BB M1 := (h.rb (fun c hc2 => hc.1 c (by omega))).2.1
  exact h.quiet hc.1 hc.2 (fun c hc2 => h2.1.1 c (by omega) (by omega)) (hb.fo h2.1)
theorem zs_more {k r b : Int} (h : zSM M) (h1 : pc_more k r b M z M1) (h2 : pr_more k r b M1 z2 M2) : zSM M2 := by
  have hc : (∀ c, c < 16 ∨ (45 ≤ c ∧ c < 84) ∨ 84 ≤ c → M1 c = M c) ∧ zZ M1 := by
    rcases h1 with ⟨-, -, rfl⟩ | ⟨-, s, u, s2, u2, L, L2, Mx, -, -, -, -, hco⟩
    · exact ⟨fun _ _ => rfl, h.2.2.1⟩
    · exact ⟨fun c hc => hco.1 c (by omega), hco.2⟩
  have hb : BB M1 := (h.rb (fun c hc2 => hc.1 c (by omega))).2.1
  exact h.quiet hc.1 hc.2 (fun c hc2 => h2.1.1 c (by omega) (by omega)) (hb.fo h2.1)
theorem zs_row {k : Int} (h : zSM M) (h1 : pc_row k M z M1) (h2 : pr_row k M1 z2 M2) : zSM M2 := by
  obtain ⟨rfl, -⟩ := h1
  obtain ⟨rfl, -⟩ := h2
  exact h.quiet (fun _ _ => rfl) h.2.2.1 (fun c hc => up2_ne _ _ _ _ (by omega)) (h.2.2.2.up (by decide) (by decide) _)
theorem zs_gain {b : Int} {N : Nat} (h : zSM M) (h1 : pc_gain b N M z M1) (h2 : pr_gain b M1 z2 M2) : zSM M2 := by
  have hc : (∀ c, c < 16 ∨ (45 ≤ c ∧ c < 84) ∨ 84 ≤ c → M1 c = M c) ∧ zZ M1 := by
    rcases h1 with ⟨-, -, rfl⟩ | ⟨-, rfl, -⟩
    · exact ⟨fun _ _ => rfl, h.2.2.1⟩
    · exact ⟨fun c hc => by rw [up2_ne _ _ _ _ (by omega), up2_ne _ _ _ _ (by omega)], h.2.2.1⟩
  have hb : BB M1 := (h.rb (fun c hc2 => hc.1 c (by omega))).2.1
  obtain ⟨rfl, -⟩ := h2
  exact h.quiet hc.1 hc.2 (fun c hc => up2_ne _ _ _ _ (by omega)) (hb.up (by decide) (by decide) _)
theorem zs_right (h : zSM M) (h1 : pc_right M z M1) (h2 : pr_right M1 z2 M2) : z = z2 ∧ zSM M2 := by
  obtain ⟨rfl, h1⟩ := h1
  obtain ⟨rfl, h2⟩ := h2
  refine ⟨?_, h.quiet (fun _ _ => rfl) h.2.2.1 (fun c hc => up2_ne _ _ _ _ (by omega)) (h.2.2.2.up (by decide) (by decide) _)⟩
  have hi := zq_right h.qn h.wm
  rcases h1 with ⟨a, b⟩ | ⟨a, b⟩
  · rcases h2 with ⟨c, d⟩ | ⟨c, d⟩
    · rw [a, c]
    · exact absurd (hi.mp b) d
  · rcases h2 with ⟨c, d⟩ | ⟨c, d⟩
    · exact absurd (hi.mpr d) b
    · rw [a, c]
theorem zs_left {v b : Int} (h : zSM M) (h1 : pc_left v b M z M1) (h2 : pr_left v b M1 z2 M2) : z = z2 ∧ zSM M2 := by
  have hc : (∀ c, c < 16 ∨ (45 ≤ c ∧ c < 84) ∨ 84 ≤ c → M1 c = M c) ∧ zZ M1 := by
    rcases h1 with ⟨-, -, rfl⟩ | ⟨-, s, -, rfl, -⟩
    · exact ⟨fun _ _ => rfl, h.2.2.1⟩
    · exact ⟨fun c hc => by rw [up2_ne _ _ _ _ (by omega), up2_ne _ _ _ _ (by omega)], h.2.2.1⟩
  have hf : zFr M M1 := fun c hc2 => hc.1 c (by omega)
  have hb : BB M1 := (h.rb hf).2.1
  have hq : (∀ c, c < 84 ∨ (85 ≤ c ∧ c ≤ 95) ∨ c = 107 → M2 c = M1 c) ∧ BB M2 := by
    rcases h2 with ⟨-, -, rfl⟩ | ⟨-, s, -, rfl, -⟩
    · exact ⟨fun c hc => up2_ne _ _ _ _ (by omega), hb.up (by decide) (by decide) _⟩
    · exact ⟨fun c hc => by rw [up2_ne _ _ _ _ (by omega), up2_ne _ _ _ _ (by omega), up2_ne _ _ _ _ (by omega)], ((hb.up (by decide) (by decide) _).up (by decide) (by decide) _).up (by decide) (by decide) _⟩
  refine ⟨?_, h.quiet hc.1 hc.2 hq.1 hq.2⟩
  have e85 : M1 85 0 = M 85 0 := by rw [hf 85 (by decide)]
  have e0 := h.qn.1
  have eS : ∀ x, sumZ (arrF M1 x) (M1 86 0).toNat = sumZ (arrF M x) (M 86 0).toNat ∧ sumZ (levF M1 x) (M1 86 0).toNat = sumZ (levF M x) (M 86 0).toNat := fun x => by
    unfold arrF levF
    rw [hf 86 (by decide), hf 87 (by decide), hf 88 (by decide), hf 90 (by decide), hf 91 (by decide), hf 93 (by decide), hf 94 (by decide)]
    exact ⟨rfl, rfl⟩
  rcases h1 with ⟨a1, a2, -⟩ | ⟨a1, s, a2, -, a3⟩
  · rcases h2 with ⟨b1, b2, -⟩ | ⟨b1, -⟩
    · rw [a2, b2]
    · rw [e85] at b1; rw [e0] at a1; omega
  · rcases h2 with ⟨b1, b2, -⟩ | ⟨b1, s2, b2, -, b3⟩
    · rw [e85] at b1; rw [e0] at a1; omega
    · rw [(eS 0).2, (eS v).1, (eS v).2, e85] at b2
      have es := zq_left h.qn h.wm b2 a2
      subst es
      omega
end ZSO
