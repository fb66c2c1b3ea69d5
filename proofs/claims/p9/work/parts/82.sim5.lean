/-! both sides alike, behind lane, way, ring, count, image, again -/
theorem nU_01 : nU 0 1 = 0 := by decide
theorem nD_01 : nD 0 1 = 1 := by decide
/-- the row at hand has changed, within its bounds -/
theorem zq_hand {M M1 M2 : MM} (h : zSM M) (hf : zFr M M1) (h1 : ∀ c, c < 84 → c ≠ 1 → c ≠ 13 → c < 16 ∨ 20 < c → M1 c = M c) (e0 : M1 1 0 = M 1 0) (e1 : M1 1 1 = M 1 1) (hN : ∃ N : Nat, N ≤ 4 ∧ M1 1 4 = (N : Int) ∧ ∀ k, k < N → 0 ≤ M1 13 k ∧ M1 13 k < M 1 1) (h2 : ∀ c, c < 84 ∨ (85 ≤ c ∧ c ≤ 94) ∨ c = 107 → M2 c = M1 c) (h95 : ∀ j, 1 ≤ j → M2 95 j = M1 95 j) (hb5 : 0 ≤ M2 95 0 ∧ M2 95 0 ≤ 5) (hB : BB M2) : zSM M2 := by
  have hr : ∀ c, (85 ≤ c ∧ c ≤ 94) ∨ c = 107 → M2 c = M c := fun c hc => by rw [h2 c (by omega), hf c (by omega)]
  have hc : ∀ c, c < 84 → c ≠ 1 → c ≠ 13 → c < 16 ∨ 20 < c → M2 c = M c := fun c c0 c1 c2 c3 => by rw [h2 c (by omega), h1 c c0 c1 c2 c3]
  have hL := h.wm.2.1
  refine ⟨?_, h.imk (fun c c1 c2 => hc c (by omega) (by omega) (by omega) (by omega)) (hc 15 (by decide) (by decide) (by decide) (by decide)) (hr 107 (by decide)) (fun r s hr2 hs => ?_) (fun r x r1 r2 _ => by rw [hr r (by omega)]), h.2.2.1.at (by rw [hc 41 (by decide) (by decide) (by decide) (by decide)]) (by rw [hc 21 (by decide) (by decide) (by decide) (by decide)]), hB⟩
  · obtain ⟨a1, a2, a3, a4, -, a6⟩ := h.1
    obtain ⟨N, n1, n2, n3⟩ := hN
    have m1 : M2 1 = M1 1 := h2 1 (by decide)
    have m13 : M2 13 = M1 13 := h2 13 (by decide)
    have m85 := hr 85 (by decide)
    have m86 := hr 86 (by decide)
    refine ⟨by rw [m85]; exact a1, by rw [m86]; exact a2, by rw [m1, m85, m86, e0, e1]; exact a3, fun k hk => ?_, ⟨N, n1, by rw [m1]; exact n2, fun k hk => ?_⟩, hb5⟩
    · rw [m86] at hk
      exact (a4 k hk).to (fun q _ => by rw [hc _ (by omega) (by omega) (by omega) (by omega)]) (by rw [m85]) (fun r r1 r2 => by rw [hr r (by omega)])
    · show 0 ≤ M2 13 k ∧ M2 13 k < M2 86 0
      rw [m13, m86, ← a3.2]
      exact n3 k hk
  · rcases hr2 with rfl | rfl | rfl
    · rw [hr 85 (by decide)]
    · rw [hr 86 (by decide)]
    · rw [h95 s hs, hf 95 (by decide)]
theorem wyM_keep {M : MM} {f t : Int} (hw : WM M) (hbb : BB M) : GI (up2 (up2 M 84 0 0) 84 27 0) 0 (wyM M f t) := by
  have h0 : GI (up2 (up2 M 84 0 0) 84 27 0) 0 (up2 (up2 M 84 0 0) 84 27 0) := ⟨FZ.rf _, fun k hk => by omega, BOK.zero rfl hbb.1 hbb.2⟩
  unfold wyM
  split
  · exact goR_keep (M0 := up2 (up2 M 84 0 0) 84 27 0) hw h0
  · exact h0
theorem zq_gi {M X M1 : MM} (hX : ∀ c, c ≠ 84 → X c = M1 c) (hg : GI X 0 M) : (∀ c, c < 84 ∨ (85 ≤ c ∧ c ≤ 104) ∨ c = 107 → M c = M1 c) ∧ (0 ≤ M 84 27 ∧ M 84 27 ≤ 5) ∧ BB M := by
  obtain ⟨g1, -, g3⟩ := hg
  exact ⟨fun c hc => by rw [g1.1 c (by omega) (by omega) (by omega)]; exact hX c (by omega), g3.1, g3.2.2.1, g3.2.2.2.1⟩
theorem zq_kpM {M : MM} : (∀ c, c < 84 ∨ (85 ≤ c ∧ c ≤ 94) ∨ c = 107 → kpM M c = M c) ∧ (∀ j, 1 ≤ j → kpM M 95 j = M 95 j) ∧ kpM M 95 0 = M 84 27 ∧ ∀ j, j = 28 ∨ j = 29 → kpM M 84 j = M 84 j := by
  unfold kpM
  refine ⟨fun c hc => ?_, fun j hj => ?_, ?_, fun j hj => ?_⟩
  · rw [up2_ne _ _ _ _ (by omega), up2_ne _ _ _ _ (by omega), up2_ne _ _ _ _ (by omega), up2_ne _ _ _ _ (by omega), cp2_ne _ (by omega), up2_ne _ _ _ _ (by omega)]
  · rw [up2_ne _ _ _ _ (by decide), up2_ne _ _ _ _ (by decide), up2_ne _ _ _ _ (by decide), up2_ne _ _ _ _ (by decide), cp2_ne _ (by decide), up2_in, if_neg (by omega)]
  · rw [up2_ne _ _ _ _ (by decide), up2_ne _ _ _ _ (by decide), up2_ne _ _ _ _ (by decide), up2_ne _ _ _ _ (by decide), cp2_ne _ (by decide), up2_in, if_pos rfl]
  · rw [up2_ne _ _ _ _ (by decide), up2_ne _ _ _ _ (by decide), up2_in, if_neg (by omega), up2_in, if_neg (by omega), cp2_ne _ (by decide), up2_ne _ _ _ _ (by decide)]
/-- the reference's end of way and ring -/
theorem zq_wk3 {X Y M1 M2 : MM} {z2 : Int} (hX : ∀ c, c ≠ 84 → X c = M1 c) (hg : GI X 0 Y) (h2 : (Y 84 27 = 0 ∧ z2 = -1 ∧ M2 = up2 Y 95 0 (Y 84 27)) ∨ (Y 84 27 ≠ 0 ∧ z2 = Y 84 27 ∧ M2 = kpM Y)) : (∀ c, c < 84 ∨ (85 ≤ c ∧ c ≤ 94) ∨ c = 107 → M2 c = M1 c) ∧ (∀ j, 1 ≤ j → M2 95 j = M1 95 j) ∧ (0 ≤ M2 95 0 ∧ M2 95 0 ≤ 5) ∧ BB M2 := by
  obtain ⟨q1, q2, q3⟩ := zq_gi hX hg
  rcases h2 with ⟨-, -, rfl⟩ | ⟨-, -, rfl⟩
  · refine ⟨fun c hc => by rw [up2_ne _ _ _ _ (by omega)]; exact q1 c (by omega), fun j hj => by rw [up2_in, if_neg (by omega), q1 95 (by decide)], by rw [up2_self]; exact q2, q3⟩
  · obtain ⟨k1, k2, k3, k4⟩ := zq_kpM (M := Y)
    exact ⟨fun c hc => by rw [k1 c hc]; exact q1 c (by omega), fun j hj => by rw [k2 j hj, q1 95 (by decide)], by rw [k3]; exact q2, q3.at k4⟩
theorem zq_wk2 {M1 M2 : MM} {f t z2 : Int} (hg : GI (up2 (up2 M1 84 0 0) 84 27 0) 0 (wyM M1 f t)) (h2 : pr_way f t M1 z2 M2) : (∀ c, c < 84 ∨ (85 ≤ c ∧ c ≤ 94) ∨ c = 107 → M2 c = M1 c) ∧ (∀ j, 1 ≤ j → M2 95 j = M1 95 j) ∧ (0 ≤ M2 95 0 ∧ M2 95 0 ≤ 5) ∧ BB M2 := zq_wk3 (fun c hc => by rw [up2_ne _ _ _ _ hc, up2_ne _ _ _ _ hc]) hg h2
section ZSQ
variable {M M1 M2 : MM} {z z2 : Int}
theorem zs_lane {f t r p q : Int} (h : zSM M) (h1 : pc_lane f t r p q M z M1) (h2 : pr_lane f t r p q M1 z2 M2) : z = z2 ∧ zSM M2 := by
  have e0 := h.qn.1
  have e1 := h.qn.2.1
  have hL := h.wm.2.1
  have hP := h.wm.1
  rcases h1 with ⟨a1, a2, rfl⟩ | ⟨a2, a1, h1⟩
  · rcases h2 with ⟨b1, b2, -⟩ | ⟨b1, b2, rfl⟩
    · omega
    · exact ⟨by omega, h.quiet (fun _ _ => rfl) h.2.2.1 (fun c hc => up2_ne _ _ _ _ (by omega)) (h.2.2.2.up (by decide) (by decide) _)⟩
  · have g1 : ∀ c, c ≠ 1 → c ≠ (3 + (M 1 1).toNat) → M1 c = M c := fun c c1 c2 => by rw [h1, up2_ne _ _ _ _ c1, up2_ne _ _ _ _ c2, up2_ne _ _ _ _ c2, up2_ne _ _ _ _ c2, up2_ne _ _ _ _ c2, up2_ne _ _ _ _ c2, up2_ne _ _ _ _ c2, up2_ne _ _ _ _ c2, up2_ne _ _ _ _ c2]
    have g2 : ∀ i, M1 1 i = if i = 1 then M 1 1 + 1 else M 1 i := fun i => by rw [h1, up2_in, up2_ne _ _ _ _ (show (1 : Nat) ≠ (3 + (M 1 1).toNat) by omega), up2_ne _ _ _ _ (show (1 : Nat) ≠ (3 + (M 1 1).toNat) by omega), up2_ne _ _ _ _ (show (1 : Nat) ≠ (3 + (M 1 1).toNat) by omega), up2_ne _ _ _ _ (show (1 : Nat) ≠ (3 + (M 1 1).toNat) by omega), up2_ne _ _ _ _ (show (1 : Nat) ≠ (3 + (M 1 1).toNat) by omega), up2_ne _ _ _ _ (show (1 : Nat) ≠ (3 + (M 1 1).toNat) by omega), up2_ne _ _ _ _ (show (1 : Nat) ≠ (3 + (M 1 1).toNat) by omega), up2_ne _ _ _ _ (show (1 : Nat) ≠ (3 + (M 1 1).toNat) by omega)]
    have gk0 : M1 (3 + (M 1 1).toNat) 0 = f := by rw [h1, up2_ne _ _ _ _ (show (3 + (M 1 1).toNat) ≠ 1 by omega), up2_in, if_neg (by decide), up2_in, if_neg (by decide), up2_in, if_neg (by decide), up2_in, if_neg (by decide), up2_in, if_neg (by decide), up2_in, if_neg (by decide), up2_in, if_neg (by decide), up2_in, if_pos rfl]
    have gk1 : M1 (3 + (M 1 1).toNat) 1 = t := by rw [h1, up2_ne _ _ _ _ (show (3 + (M 1 1).toNat) ≠ 1 by omega), up2_in, if_neg (by decide), up2_in, if_neg (by decide), up2_in, if_neg (by decide), up2_in, if_neg (by decide), up2_in, if_neg (by decide), up2_in, if_neg (by decide), up2_in, if_pos rfl]
    have gk2 : M1 (3 + (M 1 1).toNat) 2 = r := by rw [h1, up2_ne _ _ _ _ (show (3 + (M 1 1).toNat) ≠ 1 by omega), up2_in, if_neg (by decide), up2_in, if_neg (by decide), up2_in, if_neg (by decide), up2_in, if_neg (by decide), up2_in, if_neg (by decide), up2_in, if_pos rfl]
    have gk3 : M1 (3 + (M 1 1).toNat) 3 = p := by rw [h1, up2_ne _ _ _ _ (show (3 + (M 1 1).toNat) ≠ 1 by omega), up2_in, if_neg (by decide), up2_in, if_neg (by decide), up2_in, if_neg (by decide), up2_in, if_neg (by decide), up2_in, if_pos rfl]
    have gk4 : M1 (3 + (M 1 1).toNat) 4 = q := by rw [h1, up2_ne _ _ _ _ (show (3 + (M 1 1).toNat) ≠ 1 by omega), up2_in, if_neg (by decide), up2_in, if_neg (by decide), up2_in, if_neg (by decide), up2_in, if_pos rfl]
    have gk5 : M1 (3 + (M 1 1).toNat) 5 = 0 := by rw [h1, up2_ne _ _ _ _ (show (3 + (M 1 1).toNat) ≠ 1 by omega), up2_in, if_neg (by decide), up2_in, if_neg (by decide), up2_in, if_pos rfl]
    have gk6 : M1 (3 + (M 1 1).toNat) 6 = 0 := by rw [h1, up2_ne _ _ _ _ (show (3 + (M 1 1).toNat) ≠ 1 by omega), up2_in, if_neg (by decide), up2_in, if_pos rfl]
    have gk7 : M1 (3 + (M 1 1).toNat) 7 = 1 := by rw [h1, up2_ne _ _ _ _ (show (3 + (M 1 1).toNat) ≠ 1 by omega), up2_in, if_pos rfl]
    have e86 : M1 86 0 = M 86 0 := by rw [g1 86 (by decide) (by omega)]
    have e85 : M1 85 0 = M 85 0 := by rw [g1 85 (by decide) (by omega)]
    clear h1
    rcases h2 with ⟨b1, b2, h2⟩ | ⟨b1, b2, -⟩
    · rw [e86] at h2
      have hc : ∀ c, c ≠ 84 → c ≠ 86 → c < 87 ∨ 94 < c → M2 c = M1 c := fun c c1 c2 c3 => by rw [h2, up2_ne _ _ _ _ (by omega), up2_ne _ _ _ _ (by omega), up2_ne _ _ _ _ (by omega), up2_ne _ _ _ _ (by omega), up2_ne _ _ _ _ (by omega), up2_ne _ _ _ _ (by omega), up2_ne _ _ _ _ (by omega), up2_ne _ _ _ _ (by omega), up2_ne _ _ _ _ c2, up2_ne _ _ _ _ c1]
      have hc6 : ∀ i, M2 86 i = if i = 0 then M 86 0 + 1 else M 86 i := fun i => by rw [h2, up2_ne _ _ _ _ (by decide), up2_ne _ _ _ _ (by decide), up2_ne _ _ _ _ (by decide), up2_ne _ _ _ _ (by decide), up2_ne _ _ _ _ (by decide), up2_ne _ _ _ _ (by decide), up2_ne _ _ _ _ (by decide), up2_ne _ _ _ _ (by decide), up2_in, up2_ne _ _ _ _ (by decide), g1 86 (by decide) (by omega)]
      have hc4 : ∀ i, i ≠ 0 → M2 84 i = M 84 i := fun i hi => by rw [h2, up2_ne _ _ _ _ (by decide), up2_ne _ _ _ _ (by decide), up2_ne _ _ _ _ (by decide), up2_ne _ _ _ _ (by decide), up2_ne _ _ _ _ (by decide), up2_ne _ _ _ _ (by decide), up2_ne _ _ _ _ (by decide), up2_ne _ _ _ _ (by decide), up2_ne _ _ _ _ (by decide), up2_in, if_neg hi, g1 84 (by decide) (by omega)]
      have r87 : ∀ i, M2 87 i = if i = (M 86 0).toNat then f else M 87 i := fun i => by rw [h2, up2_ne _ _ _ _ (show (87 : Nat) ≠ 94 by decide), up2_ne _ _ _ _ (show (87 : Nat) ≠ 93 by decide), up2_ne _ _ _ _ (show (87 : Nat) ≠ 92 by decide), up2_ne _ _ _ _ (show (87 : Nat) ≠ 91 by decide), up2_ne _ _ _ _ (show (87 : Nat) ≠ 90 by decide), up2_ne _ _ _ _ (show (87 : Nat) ≠ 89 by decide), up2_ne _ _ _ _ (show (87 : Nat) ≠ 88 by decide), up2_in, up2_ne _ _ _ _ (show (87 : Nat) ≠ 86 by decide), up2_ne _ _ _ _ (show (87 : Nat) ≠ 84 by decide), g1 87 (by decide) (by omega)]
      have r88 : ∀ i, M2 88 i = if i = (M 86 0).toNat then t else M 88 i := fun i => by rw [h2, up2_ne _ _ _ _ (show (88 : Nat) ≠ 94 by decide), up2_ne _ _ _ _ (show (88 : Nat) ≠ 93 by decide), up2_ne _ _ _ _ (show (88 : Nat) ≠ 92 by decide), up2_ne _ _ _ _ (show (88 : Nat) ≠ 91 by decide), up2_ne _ _ _ _ (show (88 : Nat) ≠ 90 by decide), up2_ne _ _ _ _ (show (88 : Nat) ≠ 89 by decide), up2_in, up2_ne _ _ _ _ (show (88 : Nat) ≠ 87 by decide), up2_ne _ _ _ _ (show (88 : Nat) ≠ 86 by decide), up2_ne _ _ _ _ (show (88 : Nat) ≠ 84 by decide), g1 88 (by decide) (by omega)]
      have r89 : ∀ i, M2 89 i = if i = (M 86 0).toNat then r else M 89 i := fun i => by rw [h2, up2_ne _ _ _ _ (show (89 : Nat) ≠ 94 by decide), up2_ne _ _ _ _ (show (89 : Nat) ≠ 93 by decide), up2_ne _ _ _ _ (show (89 : Nat) ≠ 92 by decide), up2_ne _ _ _ _ (show (89 : Nat) ≠ 91 by decide), up2_ne _ _ _ _ (show (89 : Nat) ≠ 90 by decide), up2_in, up2_ne _ _ _ _ (show (89 : Nat) ≠ 88 by decide), up2_ne _ _ _ _ (show (89 : Nat) ≠ 87 by decide), up2_ne _ _ _ _ (show (89 : Nat) ≠ 86 by decide), up2_ne _ _ _ _ (show (89 : Nat) ≠ 84 by decide), g1 89 (by decide) (by omega)]
      have r90 : ∀ i, M2 90 i = if i = (M 86 0).toNat then p else M 90 i := fun i => by rw [h2, up2_ne _ _ _ _ (show (90 : Nat) ≠ 94 by decide), up2_ne _ _ _ _ (show (90 : Nat) ≠ 93 by decide), up2_ne _ _ _ _ (show (90 : Nat) ≠ 92 by decide), up2_ne _ _ _ _ (show (90 : Nat) ≠ 91 by decide), up2_in, up2_ne _ _ _ _ (show (90 : Nat) ≠ 89 by decide), up2_ne _ _ _ _ (show (90 : Nat) ≠ 88 by decide), up2_ne _ _ _ _ (show (90 : Nat) ≠ 87 by decide), up2_ne _ _ _ _ (show (90 : Nat) ≠ 86 by decide), up2_ne _ _ _ _ (show (90 : Nat) ≠ 84 by decide), g1 90 (by decide) (by omega)]
      have r91 : ∀ i, M2 91 i = if i = (M 86 0).toNat then q else M 91 i := fun i => by rw [h2, up2_ne _ _ _ _ (show (91 : Nat) ≠ 94 by decide), up2_ne _ _ _ _ (show (91 : Nat) ≠ 93 by decide), up2_ne _ _ _ _ (show (91 : Nat) ≠ 92 by decide), up2_in, up2_ne _ _ _ _ (show (91 : Nat) ≠ 90 by decide), up2_ne _ _ _ _ (show (91 : Nat) ≠ 89 by decide), up2_ne _ _ _ _ (show (91 : Nat) ≠ 88 by decide), up2_ne _ _ _ _ (show (91 : Nat) ≠ 87 by decide), up2_ne _ _ _ _ (show (91 : Nat) ≠ 86 by decide), up2_ne _ _ _ _ (show (91 : Nat) ≠ 84 by decide), g1 91 (by decide) (by omega)]
      have r92 : ∀ i, M2 92 i = if i = (M 86 0).toNat then 0 else M 92 i := fun i => by rw [h2, up2_ne _ _ _ _ (show (92 : Nat) ≠ 94 by decide), up2_ne _ _ _ _ (show (92 : Nat) ≠ 93 by decide), up2_in, up2_ne _ _ _ _ (show (92 : Nat) ≠ 91 by decide), up2_ne _ _ _ _ (show (92 : Nat) ≠ 90 by decide), up2_ne _ _ _ _ (show (92 : Nat) ≠ 89 by decide), up2_ne _ _ _ _ (show (92 : Nat) ≠ 88 by decide), up2_ne _ _ _ _ (show (92 : Nat) ≠ 87 by decide), up2_ne _ _ _ _ (show (92 : Nat) ≠ 86 by decide), up2_ne _ _ _ _ (show (92 : Nat) ≠ 84 by decide), g1 92 (by decide) (by omega)]
      have r93 : ∀ i, M2 93 i = if i = (M 86 0).toNat then 0 else M 93 i := fun i => by rw [h2, up2_ne _ _ _ _ (show (93 : Nat) ≠ 94 by decide), up2_in, up2_ne _ _ _ _ (show (93 : Nat) ≠ 92 by decide), up2_ne _ _ _ _ (show (93 : Nat) ≠ 91 by decide), up2_ne _ _ _ _ (show (93 : Nat) ≠ 90 by decide), up2_ne _ _ _ _ (show (93 : Nat) ≠ 89 by decide), up2_ne _ _ _ _ (show (93 : Nat) ≠ 88 by decide), up2_ne _ _ _ _ (show (93 : Nat) ≠ 87 by decide), up2_ne _ _ _ _ (show (93 : Nat) ≠ 86 by decide), up2_ne _ _ _ _ (show (93 : Nat) ≠ 84 by decide), g1 93 (by decide) (by omega)]
      have r94 : ∀ i, M2 94 i = if i = (M 86 0).toNat then 1 else M 94 i := fun i => by rw [h2, up2_in, up2_ne _ _ _ _ (show (94 : Nat) ≠ 93 by decide), up2_ne _ _ _ _ (show (94 : Nat) ≠ 92 by decide), up2_ne _ _ _ _ (show (94 : Nat) ≠ 91 by decide), up2_ne _ _ _ _ (show (94 : Nat) ≠ 90 by decide), up2_ne _ _ _ _ (show (94 : Nat) ≠ 89 by decide), up2_ne _ _ _ _ (show (94 : Nat) ≠ 88 by decide), up2_ne _ _ _ _ (show (94 : Nat) ≠ 87 by decide), up2_ne _ _ _ _ (show (94 : Nat) ≠ 86 by decide), up2_ne _ _ _ _ (show (94 : Nat) ≠ 84 by decide), g1 94 (by decide) (by omega)]
      clear h2
      have hrr : ∀ q i, 87 ≤ q → q ≤ 94 → i ≠ (M 86 0).toNat → M2 q i = M q i := fun q i q1 q2 hi => by
        have hq : q = 87 ∨ q = 88 ∨ q = 89 ∨ q = 90 ∨ q = 91 ∨ q = 92 ∨ q = 93 ∨ q = 94 := by omega
        rcases hq with rfl | rfl | rfl | rfl | rfl | rfl | rfl | rfl
        · rw [r87, if_neg hi]
        · rw [r88, if_neg hi]
        · rw [r89, if_neg hi]
        · rw [r90, if_neg hi]
        · rw [r91, if_neg hi]
        · rw [r92, if_neg hi]
        · rw [r93, if_neg hi]
        · rw [r94, if_neg hi]
      have m85 : M2 85 = M 85 := by rw [hc 85 (by decide) (by decide) (by decide), g1 85 (by decide) (by omega)]
      have m95 : M2 95 = M 95 := by rw [hc 95 (by decide) (by decide) (by decide), g1 95 (by decide) (by omega)]
      have m1 : ∀ i, M2 1 i = if i = 1 then M 1 1 + 1 else M 1 i := fun i => by rw [hc 1 (by decide) (by decide) (by decide), g2]
      have m13 : M2 13 = M 13 := by rw [hc 13 (by decide) (by decide) (by decide), g1 13 (by decide) (by omega)]
      refine ⟨by omega, ?_, h.imk (fun c c1 c2 => by rw [hc c (by omega) (by omega) (by omega), g1 c (by omega) (by omega)]) (by rw [hc 15 (by decide) (by decide) (by decide), g1 15 (by decide) (by omega)]) (by rw [hc 107 (by decide) (by decide) (by decide), g1 107 (by decide) (by omega)]) (fun q s hq hs => ?_) (fun q x q1 q2 hx => hrr q x q1 q2 (by omega)), h.2.2.1.at (by rw [hc 41 (by decide) (by decide) (by decide), g1 41 (by decide) (by omega)]) (by rw [hc 21 (by decide) (by decide) (by decide), g1 21 (by decide) (by omega)]), h.2.2.2.at (fun j hj => hc4 j (by omega))⟩
      · obtain ⟨a1, a2, a3, a4, ⟨N, n1, n2, n3⟩, a6⟩ := h.1
        have n86 : M2 86 0 = M 86 0 + 1 := by rw [hc6, if_pos rfl]
        refine ⟨by rw [m85]; exact a1, by rw [n86]; omega, ⟨by rw [m1, m85, if_neg (by decide)]; exact a3.1, by rw [m1, n86, if_pos rfl]; omega⟩, fun k hk => ?_, ⟨N, n1, by rw [m1, if_neg (by decide)]; exact n2, fun k hk => ?_⟩, by rw [m95]; exact a6⟩
        · rw [n86] at hk
          by_cases c : k = (M 86 0).toNat
          · have ek : 1 + 2 + k = 3 + (M 1 1).toNat := by omega
            have ex : 10 * 0 + k = k := by omega
            rw [ek, ex]
            unfold zLn
            rw [m85, hc (3 + (M 1 1).toNat) (by omega) (by omega) (by omega), gk0, gk1, gk2, gk3, gk4, gk5, gk6, gk7, r87, r88, r89, r90, r91, r92, r93, r94, if_pos c, if_pos c, if_pos c, if_pos c, if_pos c, if_pos c, if_pos c, if_pos c, nU_01, nD_01]
            omega
          · refine (a4 k (by omega)).to (fun q' hq => ?_) (by rw [m85]) (fun q' q1 q2 => ?_)
            · rw [hc _ (by omega) (by omega) (by omega), g1 _ (by omega) (by omega)]
            · exact hrr q' _ q1 q2 (by omega)
        · have := n3 k hk
          show 0 ≤ M2 13 k ∧ M2 13 k < M2 86 0
          rw [m13, n86]
          have e13 : M (1 + 12) k = M 13 k := rfl
          omega
      · rcases hq with rfl | rfl | rfl
        · rw [m85]
        · rw [hc6, if_neg (by omega)]
        · rw [m95]
    · omega
theorem zs_way {f t : Int} (h : zSM M) (h1 : pc_way f t M z M1) (h2 : pr_way f t M1 z2 M2) : zSM M2 := by
  have hW := h.cw
  have hf := zf_way hW h1
  have hrb := h.rb hf
  have hW4 := zq_CW4 hW 0
  have e11 := h.1.2.2.1.2
  have hK := zq_F_keep hW4 f t
  have hcl : (∀ c, c < 84 → c ≠ 1 → c ≠ 13 → c < 16 ∨ 20 < c → M1 c = M c) ∧ M1 1 0 = M 1 0 ∧ M1 1 1 = M 1 1 ∧ ∃ N : Nat, N ≤ 4 ∧ M1 1 4 = (N : Int) ∧ ∀ k, k < N → 0 ≤ M1 13 k ∧ M1 13 k < M 1 1 := by
    have hne : ∀ c, c < 16 ∨ 20 < c → zqF (up2 M 1 4 0) f t c = up2 M 1 4 0 c := fun c hc => zqF_ne hW4 f t hc
    rcases h1 with ⟨-, -, rfl⟩ | ⟨-, ⟨-, -, rfl⟩ | ⟨-, -, rfl⟩⟩
    · exact ⟨fun c _ c1 _ _ => up2_ne _ _ _ _ c1, rfl, rfl, 0, Nat.zero_le _, rfl, fun k hk => absurd hk (Nat.not_lt_zero k)⟩
    · refine ⟨fun c _ c1 _ c3 => by rw [hne c c3, up2_ne _ _ _ _ c1], by rw [hne 1 (by decide)]; rfl, by rw [hne 1 (by decide)]; rfl, 0, Nat.zero_le _, by rw [hne 1 (by decide)]; rfl, fun k hk => absurd hk (Nat.not_lt_zero k)⟩
    · obtain ⟨k1, k2, -⟩ := hK.2.2.2
      have e1 : zqF (up2 M 1 4 0) f t 1 1 = M 1 1 := by rw [hne 1 (by decide)]; rfl
      refine ⟨fun c _ c1 c2 c3 => by rw [up2_ne _ _ _ _ c1, cp2_ne _ c2, hne c c3, up2_ne _ _ _ _ c1], ?_, ?_, (zqF (up2 M 1 4 0) f t 16 4).toNat, by omega, ?_, fun k hk => ?_⟩
      · rw [up2_in, if_neg (by decide), cp2_ne _ (by decide), hne 1 (by decide)]; rfl
      · rw [up2_in, if_neg (by decide), cp2_ne _ (by decide), hne 1 (by decide)]; rfl
      · rw [up2_self]; omega
      · have e13 : up2 (cp2 (zqF (up2 M 1 4 0) f t) 19 13 4) 1 4 (zqF (up2 M 1 4 0) f t 16 4) 13 k = zqF (up2 M 1 4 0) f t 19 k := by
          rw [up2_ne _ _ _ _ (by decide)]
          show (if k < 4 then _ else _) = _
          rw [if_pos (by omega)]
        rw [e13, ← e1]
        exact k2 k (by omega)
  have hg := wyM_keep (f := f) (t := t) hrb.1 hrb.2.1
  have hrf : (∀ c, c < 84 ∨ (85 ≤ c ∧ c ≤ 94) ∨ c = 107 → M2 c = M1 c) ∧ (∀ j, 1 ≤ j → M2 95 j = M1 95 j) ∧ (0 ≤ M2 95 0 ∧ M2 95 0 ≤ 5) ∧ BB M2 := zq_wk2 hg h2
  exact zq_hand h hf hcl.1 hcl.2.1 hcl.2.2.1 hcl.2.2.2 hrf.1 hrf.2.1 hrf.2.2.1 hrf.2.2.2
theorem zs_ring (h : zSM M) (h1 : pc_ring M z M1) (h2 : pr_ring M1 z2 M2) : zSM M2 := by
  have hW := h.cw
  have hf := zf_ring hW h1
  have hrb := h.rb hf
  have hW4 := zq_CW4 hW 0
  have hK := zqR_keep hW4
  have hcl : (∀ c, c < 84 → c ≠ 1 → c ≠ 13 → c < 16 ∨ 20 < c → M1 c = M c) ∧ M1 1 0 = M 1 0 ∧ M1 1 1 = M 1 1 ∧ ∃ N : Nat, N ≤ 4 ∧ M1 1 4 = (N : Int) ∧ ∀ k, k < N → 0 ≤ M1 13 k ∧ M1 13 k < M 1 1 := by
    have hne : ∀ c, c < 16 ∨ 20 < c → zqR (up2 M 1 4 0) c = up2 M 1 4 0 c := fun c hc => zqR_ne hW4 hc
    rcases h1 with ⟨-, -, rfl⟩ | ⟨-, -, rfl⟩
    · refine ⟨fun c _ c1 _ c3 => by rw [hne c c3, up2_ne _ _ _ _ c1], by rw [hne 1 (by decide)]; rfl, by rw [hne 1 (by decide)]; rfl, 0, Nat.zero_le _, by rw [hne 1 (by decide)]; rfl, fun k hk => absurd hk (Nat.not_lt_zero k)⟩
    · obtain ⟨k1, k2, -⟩ := hK.2.2
      have e1 : zqR (up2 M 1 4 0) 1 1 = M 1 1 := by rw [hne 1 (by decide)]; rfl
      refine ⟨fun c _ c1 c2 c3 => by rw [up2_ne _ _ _ _ c1, cp2_ne _ c2, hne c c3, up2_ne _ _ _ _ c1], ?_, ?_, (zqR (up2 M 1 4 0) 16 4).toNat, by omega, ?_, fun k hk => ?_⟩
      · rw [up2_in, if_neg (by decide), cp2_ne _ (by decide), hne 1 (by decide)]; rfl
      · rw [up2_in, if_neg (by decide), cp2_ne _ (by decide), hne 1 (by decide)]; rfl
      · rw [up2_self]; omega
      · have e13 : up2 (cp2 (zqR (up2 M 1 4 0)) 19 13 4) 1 4 (zqR (up2 M 1 4 0) 16 4) 13 k = zqR (up2 M 1 4 0) 19 k := by
          rw [up2_ne _ _ _ _ (by decide)]
          show (if k < 4 then _ else _) = _
          rw [if_pos (by omega)]
        rw [e13, ← e1]
        exact k2 k (by omega)
  have hg := frM_keep (M := up2 M1 84 0 0) hrb.1 (hrb.2.1.up (by decide) (by decide) _)
  have hrf := zq_wk3 (M1 := M1) (fun c hc => by rw [up2_ne _ _ _ _ hc, up2_ne _ _ _ _ hc, up2_ne _ _ _ _ hc, up2_ne _ _ _ _ hc]) hg h2
  exact zq_hand h hf hcl.1 hcl.2.1 hcl.2.2.1 hcl.2.2.2 hrf.1 hrf.2.1 hrf.2.2.1 hrf.2.2.2
theorem zs_count {w : Int} (h : zSM M) (h1 : pc_count w M z M1) (h2 : pr_count w M1 z2 M2) : zSM M2 := by
  have hW := h.cw
  have hf := zf_count hW h1
  have hrb := h.rb hf
  have hc : (∀ c, c < 16 ∨ (45 ≤ c ∧ c < 84) ∨ 84 ≤ c → M1 c = M c) ∧ zZ M1 := by
    have hq : (∀ c, c < 16 ∨ (45 ≤ c ∧ c < 84) ∨ 84 ≤ c → zqR M c = M c) ∧ zZ (zqR M) := ⟨fun c hc => zqR_ne hW (by omega), h.2.2.1.at (by rw [zqR_ne hW (by decide)]) (by rw [zqR_ne hW (by decide)])⟩
    have hid : (∀ c, c < 16 ∨ (45 ≤ c ∧ c < 84) ∨ 84 ≤ c → M c = M c) ∧ zZ M := ⟨fun _ _ => rfl, h.2.2.1⟩
    rcases h1 with ⟨-, -, rfl⟩ | ⟨-, -, rfl⟩ | ⟨-, -, rfl⟩ | ⟨-, -, rfl⟩ | ⟨-, -, rfl⟩ | ⟨-, -, rfl⟩
    · exact hid
    · exact hid
    · exact hq
    · exact hq
    · exact hid
    · exact hid
  have hr : (∀ c, c < 84 ∨ (85 ≤ c ∧ c ≤ 95) ∨ c = 107 → M2 c = M1 c) ∧ BB M2 := by
    have hid : (∀ c, c < 84 ∨ (85 ≤ c ∧ c ≤ 95) ∨ c = 107 → up2 M1 84 0 0 c = M1 c) ∧ BB (up2 M1 84 0 0) := ⟨fun c hc => up2_ne _ _ _ _ (by omega), hrb.2.1.up (by decide) (by decide) _⟩
    have hq : (∀ c, c < 84 ∨ (85 ≤ c ∧ c ≤ 95) ∨ c = 107 → frM (up2 M1 84 0 0) c = M1 c) ∧ BB (frM (up2 M1 84 0 0)) := by
      have hg := frM_keep (M := up2 M1 84 0 0) hrb.1 (hrb.2.1.up (by decide) (by decide) _)
      obtain ⟨q1, q2, q3⟩ := zq_gi (M1 := M1) (fun c hc => by rw [up2_ne _ _ _ _ hc, up2_ne _ _ _ _ hc, up2_ne _ _ _ _ hc, up2_ne _ _ _ _ hc]) hg
      exact ⟨fun c hc => q1 c (by omega), q3⟩
    rcases h2 with ⟨-, -, rfl⟩ | ⟨-, -, rfl⟩ | ⟨-, -, rfl⟩ | ⟨-, -, rfl⟩ | ⟨-, -, rfl⟩ | ⟨-, -, rfl⟩
    · exact hid
    · exact hid
    · exact hq
    · exact hq
    · exact hid
    · exact hid
  exact h.quiet hc.1 hc.2 hr.1 hr.2
end ZSQ
