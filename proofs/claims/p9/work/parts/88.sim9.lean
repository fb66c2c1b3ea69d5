/-! the row at hand, alike, behind way, ring, image, again -/
theorem cpM_5 (M : MM) (a b : Nat) : cpM M a b 96 = mvK M 96 5 a b 5 96 := by
  unfold cpM
  rw [up2_ne _ _ _ _ (by decide), up2_ne _ _ _ _ (by decide)]
  rfl
theorem cpM_5b (M : MM) {a b k : Nat} (hk : k < 5) : cpM M a b 96 (5 * b + k) = M 96 (5 * a + k) := by
  rw [cpM_5 M a b]
  exact zq_mv M hk
theorem cpM_5o (M : MM) {a b s k : Nat} (hk : k < 5) (hs : s ≠ b) : cpM M a b 96 (5 * s + k) = M 96 (5 * s + k) := by
  rw [cpM_5 M a b]
  exact zq_mvo M (by omega)
section ZI
variable {M M1 M2 : MM} {z z2 : Int}
theorem zu_way {f t : Int} (h : zS1 M) (h1 : pc_way f t M z M1) (h2 : pr_way f t M1 z2 M2) : z = z2 ∧ zS1 M2 := by
  have hs := zs_way h.1 h1 h2
  have hW := h.1.cw
  have hW4 := zq_CW4 hW 0
  have hf := zf_way hW h1
  have hrb := h.1.rb hf
  have hg := wyM_keep (f := f) (t := t) hrb.1 hrb.2.1
  obtain ⟨g1, g2, -⟩ := zq_gi (M1 := M1) (fun c hc => by rw [up2_ne _ _ _ _ hc, up2_ne _ _ _ _ hc]) hg
  have hk := zq_wk2 hg h2
  have e0 := h.1.qn.1
  have e85 : M1 85 0 = M 85 0 := by rw [hf 85 (by decide)]
  have hne : ∀ c, c < 16 ∨ 20 < c → zqF (up2 M 1 4 0) f t c = up2 M 1 4 0 c := fun c hc => zqF_ne hW4 f t hc
  have hX : ∀ c, 45 ≤ c → c < 84 → M1 c = M c := fun c c1 c2 => by
    rcases h1 with ⟨-, -, rfl⟩ | ⟨-, ⟨-, -, rfl⟩ | ⟨-, -, rfl⟩⟩
    · exact up2_ne _ _ _ _ (by omega)
    · rw [hne c (by omega), up2_ne _ _ _ _ (by omega)]
    · rw [up2_ne _ _ _ _ (by omega), cp2_ne _ (by omega), hne c (by omega), up2_ne _ _ _ _ (by omega)]
  refine ⟨zt_way h.1 h1 h2, ?_⟩
  have key : zHd M2 1 0 ∧ M2 107 = M1 107 ∧ (∀ j, 1 ≤ j → M2 95 j = M1 95 j) ∧ ∀ x, 5 ≤ x → M2 96 x = M1 96 x := by
    by_cases hv : (0 ≤ f ∧ f < M 1 0) ∧ (0 ≤ t ∧ t < M 1 0) ∧ f ≠ t
    · have hb := zw_way h.1 hf hv
      have h4 := ((zq_F_keep hW4 f t).2.2.2).1
      refine zq_endh hb g2 (fun c hc => g1 c (by omega)) (fun c hc => g1 c (by omega)) h4.2 ?_ h2
      rcases h1 with ⟨q, -⟩ | ⟨-, ⟨q1, -, q2⟩ | ⟨q1, -, q2⟩⟩
      · exact absurd hv q
      · exact Or.inl ⟨q1, by rw [q2, hne 1 (by decide)]; rfl⟩
      · exact Or.inr ⟨q1, q2⟩
    · have hw : wyM M1 f t = up2 (up2 M1 84 0 0) 84 27 0 := if_neg (by omega)
      have h27 : wyM M1 f t 84 27 = 0 := by rw [hw]; rfl
      refine zq_endh (X := zqg M 0) (Y := wyM M1 f t) ⟨h27.symm, by omega, fun k hk => by omega, fun q => absurd h27 q⟩ g2 (fun c hc => g1 c (by omega)) (fun c hc => g1 c (by omega)) (by show (0 : Int) ≤ 4; decide) (Or.inl ⟨rfl, ?_⟩) h2
      rcases h1 with ⟨-, -, rfl⟩ | ⟨q, -⟩
      · rfl
      · exact absurd q hv
  exact zq_newh h hs hf (fun c c1 c2 => by rw [hk.1 c (by omega)]; exact hX c c1 c2) (by rw [key.2.1, hf 107 (by decide)]) (fun j hj => by rw [key.2.2.1 j hj, hf 95 (by decide)]) (fun x hx => by rw [key.2.2.2 x hx, hf 96 (by decide)]) key.1
theorem zu_ring (h : zS1 M) (h1 : pc_ring M z M1) (h2 : pr_ring M1 z2 M2) : z = z2 ∧ zS1 M2 := by
  have hs := zs_ring h.1 h1 h2
  have hW := h.1.cw
  have hW4 := zq_CW4 hW 0
  have hf := zf_ring hW h1
  have hrb := h.1.rb hf
  have hg := frM_keep (M := up2 M1 84 0 0) hrb.1 (hrb.2.1.up (by decide) (by decide) _)
  have hx0 : ∀ c, c ≠ 84 → up2 (up2 (up2 (up2 M1 84 0 0) 84 27 0) 84 30 0) 84 31 0 c = M1 c := fun c hc => by rw [up2_ne _ _ _ _ hc, up2_ne _ _ _ _ hc, up2_ne _ _ _ _ hc, up2_ne _ _ _ _ hc]
  obtain ⟨g1, g2, -⟩ := zq_gi (M1 := M1) hx0 hg
  have hk := zq_wk3 (M1 := M1) hx0 hg h2
  have hne : ∀ c, c < 16 ∨ 20 < c → zqR (up2 M 1 4 0) c = up2 M 1 4 0 c := fun c hc => zqR_ne hW4 hc
  have hr := zw_rg (A := up2 M 1 4 0) (B := up2 M1 84 0 0) h.1 (fun c hc c1 => up2_ne _ _ _ _ c1) rfl rfl (fun c c1 c2 => by rw [up2_ne _ _ _ _ (by omega), hf c (by omega)])
  have hX : ∀ c, 45 ≤ c → c < 84 → M1 c = M c := fun c c1 c2 => by
    rcases h1 with ⟨-, -, rfl⟩ | ⟨-, -, rfl⟩
    · rw [hne c (by omega), up2_ne _ _ _ _ (by omega)]
    · rw [up2_ne _ _ _ _ (by omega), cp2_ne _ (by omega), hne c (by omega), up2_ne _ _ _ _ (by omega)]
  refine ⟨zt_ring h.1 h1 h2, ?_⟩
  have h4 := ((zqR_keep hW4).2.2).1
  have key : zHd M2 1 0 ∧ M2 107 = M1 107 ∧ (∀ j, 1 ≤ j → M2 95 j = M1 95 j) ∧ ∀ x, 5 ≤ x → M2 96 x = M1 96 x := by
    refine zq_endh hr.2.2.1 g2 (fun c hc => g1 c (by omega)) (fun c hc => g1 c (by omega)) h4.2 ?_ h2
    rcases h1 with ⟨q1, -, q2⟩ | ⟨q1, -, q2⟩
    · exact Or.inl ⟨q1, by rw [q2, hne 1 (by decide)]; rfl⟩
    · exact Or.inr ⟨q1, q2⟩
  exact zq_newh h hs hf (fun c c1 c2 => by rw [hk.1 c (by omega)]; exact hX c c1 c2) (by rw [key.2.1, hf 107 (by decide)]) (fun j hj => by rw [key.2.2.1 j hj, hf 95 (by decide)]) (fun x hx => by rw [key.2.2.2 x hx, hf 96 (by decide)]) key.1
theorem zu_image {k : Int} (h : zS1 M) (h1 : pc_image k M z M1) (h2 : pr_image k M1 z2 M2) : z = z2 ∧ zS1 M2 := by
  have hsm := zs_image h.1 h1 h2
  refine ⟨hsm.1, ?_⟩
  have hW := h.1.cw
  have hs : (M 1 1).toNat ≤ 10 := by have := hW.2.1; omega
  rcases h1 with ⟨a1, a2, rfl⟩ | ⟨a1, a2, rfl⟩
  · rcases h2 with ⟨b1, b2, rfl⟩ | ⟨b1, b2, -⟩
    · exact h.quiet hsm.2 (zHq.of (zFr.rf _) zc_rf (zr_84 _ _))
    · omega
  · rcases h2 with ⟨b1, b2, -⟩ | ⟨b1, b2, h2⟩
    · omega
    · obtain ⟨j, rfl⟩ : ∃ j : Nat, k = (j : Int) := ⟨k.toNat, by omega⟩
      rw [show (j : Int).toNat = j by omega] at h2
      have hj : j < 3 := by omega
      generalize hX : up2 (tkN M (45 + 13 * j) 1) 15 j 1 = X at h2
      have x1 : ∀ c, c ≠ 15 → c < 45 + 13 * j ∨ 45 + 13 * j + 12 < c → X c = M c := fun c c1 c2 => by rw [← hX, up2_ne _ _ _ _ c1, tkN_ne _ hs c2]
      have xb := tkN_0 M (b := 45 + 13 * j) hs (by omega)
      have xe : ∀ c, c ≠ 15 → X c = tkN M (45 + 13 * j) 1 c := fun c c1 => by rw [← hX, up2_ne _ _ _ _ c1]
      have y1 : ∀ c, c < 84 ∨ c = 84 ∨ 98 < c → c ≠ 107 → c ≠ 84 → M2 c = X c := fun c c1 c2 c3 => by rw [h2, up2_ne _ _ _ _ c2, cpM_o _ _ _ (by omega), up2_ne _ _ _ _ c3]
      have y107 : ∀ i, M2 107 i = if i = j then 1 else X 107 i := fun i => by rw [h2, up2_in, cpM_o _ _ _ (by decide), up2_ne _ _ _ _ (by decide)]
      have y2 : ∀ s, s ≠ j + 1 → M2 95 s = M 95 s := fun s hs2 => by rw [h2, up2_ne _ _ _ _ (by decide), cpM_1o _ (by decide) hs2, up2_ne _ _ _ _ (by decide), x1 95 (by decide) (by omega)]
      have y3 : M2 95 (j + 1) = M 95 0 := by rw [h2, up2_ne _ _ _ _ (by decide), cpM_1b _ (by decide), up2_ne _ _ _ _ (by decide), x1 95 (by decide) (by omega)]
      have y4 : ∀ s i, i < 5 → s ≠ j + 1 → M2 96 (5 * s + i) = M 96 (5 * s + i) := fun s i hi hs2 => by rw [h2, up2_ne _ _ _ _ (by decide), cpM_5o _ hi hs2, up2_ne _ _ _ _ (by decide), x1 96 (by decide) (by omega)]
      have y5 : ∀ i, i < 5 → M2 96 (5 * (j + 1) + i) = M 96 (5 * 0 + i) := fun i hi => by rw [h2, up2_ne _ _ _ _ (by decide), cpM_5b _ hi, up2_ne _ _ _ _ (by decide), x1 96 (by decide) (by omega)]
      have yo : ∀ c, c < 84 → c ≠ 15 → c < 45 + 13 * j ∨ 45 + 13 * j + 12 < c → M2 c = M c := fun c c1 c2 c3 => by rw [y1 c (by omega) (by omega) (by omega), x1 c c2 c3]
      have hd := h.2.1
      have hN := h.1.1.h4 hd
      refine ⟨hsm.2, hd.to hN (by rw [yo 1 (by decide) (by decide) (by omega)]) (fun i _ => by rw [yo (1 + 12) (by decide) (by decide) (by omega)]) (y2 0 (by omega)) (fun i hi => y4 0 i hi (by omega)), fun j2 hj2 q => ?_⟩
      by_cases c : j2 = j
      · subst c
        refine hd.to hN ?_ (fun i hi => ?_) y3 (fun i hi => y5 i hi)
        · rw [y1 _ (by omega) (by omega) (by omega), xe _ (by omega)]; exact xb.2.2
        · rw [y1 _ (by omega) (by omega) (by omega), xe _ (by omega)]; exact tkN_h M hs (by omega) hi
      · rw [y107, if_neg c, x1 107 (by decide) (by omega)] at q
        have hd2 := h.2.2 j2 hj2 q
        have hN2 := ((h.1.2.1 j2 hj2).2.2 q).h4 hd2
        exact hd2.to hN2 (by rw [yo _ (by omega) (by omega) (by omega)]) (fun i _ => by rw [yo _ (by omega) (by omega) (by omega)]) (y2 _ (by omega)) (fun i hi => y4 _ i hi (by omega))
theorem zu_again {k : Int} (h : zS1 M) (h1 : pc_again k M z M1) (h2 : pr_again k M1 z2 M2) : z = z2 ∧ zS1 M2 := by
  have hsm := zs_again h.1 h1 h2
  refine ⟨hsm.1, ?_⟩
  have hI := h.1.im
  have hf := zf_again hI.2 h1
  have e107 : ∀ i, M1 107 i = M 107 i := fun i => by rw [hf 107 (by decide)]
  rcases h1 with ⟨a1, a2, rfl⟩ | ⟨a1, a2, h1⟩
  · rcases h2 with ⟨b1, b2, rfl⟩ | ⟨b1, b2, -⟩
    · exact h.quiet hsm.2 (zHq.of (zFr.rf _) zc_rf (zr_84 _ _))
    · have := (h.1.2.1 k.toNat (by omega)).1
      omega
  · obtain ⟨j, rfl⟩ : ∃ j : Nat, k = (j : Int) := ⟨k.toNat, by omega⟩
    rw [show (j : Int).toNat = j by omega] at h1 a2
    have hj : j < 3 := by omega
    obtain ⟨q1, q2, q3⟩ := h.1.2.1 j hj
    have qj : M 107 j ≠ 0 := by omega
    rcases h2 with ⟨b1, b2, -⟩ | ⟨b1, b2, h2⟩
    · rw [show (j : Int).toNat = j by omega, e107] at b2
      omega
    · rw [show (j : Int).toNat = j by omega] at h2
      have hs : (M (45 + 13 * j) 1).toNat ≤ 10 := by have := hI.2 j hj a2.2; omega
      have x1 : ∀ c, c < 1 ∨ 1 + 12 < c → M1 c = M c := fun c c1 => by rw [h1, tkN_ne _ hs c1]
      have xb := tkN_0 M (b := 1) (e := 45 + 13 * j) hs (by omega)
      have y1 : ∀ c, c < 84 ∨ 98 < c → M2 c = M1 c := fun c c1 => by rw [h2, cpM_o _ _ _ (by omega), up2_ne _ _ _ _ (by omega)]
      have y2 : ∀ s, s ≠ 0 → M2 95 s = M 95 s := fun s hs2 => by rw [h2, cpM_1o _ (by decide) hs2, up2_ne _ _ _ _ (by decide), x1 95 (by decide)]
      have y3 : M2 95 0 = M 95 (j + 1) := by rw [h2, cpM_1b _ (by decide), up2_ne _ _ _ _ (by decide), x1 95 (by decide)]
      have y4 : ∀ s i, i < 5 → s ≠ 0 → M2 96 (5 * s + i) = M 96 (5 * s + i) := fun s i hi hs2 => by rw [h2, cpM_5o _ hi hs2, up2_ne _ _ _ _ (by decide), x1 96 (by decide)]
      have y5 : ∀ i, i < 5 → M2 96 (5 * 0 + i) = M 96 (5 * (j + 1) + i) := fun i hi => by rw [h2, cpM_5b _ hi, up2_ne _ _ _ _ (by decide), x1 96 (by decide)]
      have yo : ∀ c, 1 + 12 < c → c < 84 → M2 c = M c := fun c c1 c2 => by rw [y1 c (by omega), x1 c (by omega)]
      have hd := h.2.2 j hj qj
      have hN := (q3 qj).h4 hd
      refine ⟨hsm.2, hd.to hN ?_ (fun i hi => ?_) y3 (fun i hi => y5 i hi), fun j2 hj2 q => ?_⟩
      · rw [y1 1 (by decide), h1]; exact xb.2.2
      · rw [y1 _ (by decide), h1]; exact tkN_h M hs (by omega) hi
      · rw [y1 107 (by decide), x1 107 (by decide)] at q
        have hd2 := h.2.2 j2 hj2 q
        have hN2 := ((h.1.2.1 j2 hj2).2.2 q).h4 hd2
        exact hd2.to hN2 (by rw [yo _ (by omega) (by omega)]) (fun i _ => by rw [yo _ (by omega) (by omega)]) (y2 _ (by omega)) (fun i hi => y4 _ i hi (by omega))
end ZI
theorem zS1_I : zS1 mI := by
  refine ⟨zSM_I, ⟨by decide +kernel, fun k hk => ?_⟩, fun j hj q => absurd (zP1_I.2.2.2.2.2.2.2.2.2 j hj) q⟩
  have : mI 95 0 = 0 := zP1_I.2.2.2.2.2.2.2.1
  omega
