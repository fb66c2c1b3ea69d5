/-! both sides alike, behind image and again -/
theorem zq_mv (M : MM) {c n a b m : Nat} {k : Nat} (hk : k < m) : mvK M c n a b m c (n * b + k) = M c (n * a + k) := by
  unfold mvK
  rw [if_pos rfl]
  show (if n * b ≤ n * b + k ∧ n * b + k < n * b + m then M c (n * a + (n * b + k - n * b)) else M c (n * b + k)) = _
  rw [if_pos (by omega), show n * b + k - n * b = k by omega]
theorem zq_mvo (M : MM) {c n a b m : Nat} {x : Nat} (hx : x < n * b ∨ n * b + m ≤ x) : mvK M c n a b m c x = M c x := by
  unfold mvK
  rw [if_pos rfl]
  show (if n * b ≤ x ∧ x < n * b + m then M c (n * a + (x - n * b)) else M c x) = _
  rw [if_neg (by omega)]
theorem cpM_o (M : MM) (a b : Nat) {c : Nat} (hc : c < 85 ∨ 98 < c) : cpM M a b c = M c := by
  unfold cpM
  rw [up2_ne _ _ _ _ (by omega), up2_ne _ _ _ _ (by omega), mvK_ne _ (by omega), mvK_ne _ (by omega), mvK_ne _ (by omega), mvK_ne _ (by omega), mvK_ne _ (by omega), mvK_ne _ (by omega), mvK_ne _ (by omega), mvK_ne _ (by omega), mvK_ne _ (by omega), mvK_ne _ (by omega), mvK_ne _ (by omega), mvK_ne _ (by omega)]
theorem cpM_1 (M : MM) (a b : Nat) {r : Nat} (hr : r = 85 ∨ r = 86 ∨ r = 95) : cpM M a b r = mvK M r 1 a b 1 r := by
  unfold cpM
  rcases hr with rfl | rfl | rfl
  · rw [up2_ne _ _ _ _ (by omega), up2_ne _ _ _ _ (by omega), mvK_ne _ (by omega), mvK_ne _ (by omega), mvK_ne _ (by omega), mvK_ne _ (by omega), mvK_ne _ (by omega), mvK_ne _ (by omega), mvK_ne _ (by omega), mvK_ne _ (by omega), mvK_ne _ (by omega), mvK_ne _ (by omega), mvK_ne _ (by omega)]
  · rw [up2_ne _ _ _ _ (by omega), up2_ne _ _ _ _ (by omega), mvK_ne _ (by omega), mvK_ne _ (by omega), mvK_ne _ (by omega), mvK_ne _ (by omega), mvK_ne _ (by omega), mvK_ne _ (by omega), mvK_ne _ (by omega), mvK_ne _ (by omega), mvK_ne _ (by omega), mvK_ne _ (by omega)]
    rfl
  · rw [up2_ne _ _ _ _ (by omega), up2_ne _ _ _ _ (by omega), mvK_ne _ (by omega)]
    rfl
theorem cpM_10 (M : MM) (a b : Nat) {r : Nat} (h1 : 87 ≤ r) (h2 : r ≤ 94) : cpM M a b r = mvK M r 10 a b 10 r := by
  unfold cpM
  have hr : r = 87 ∨ r = 88 ∨ r = 89 ∨ r = 90 ∨ r = 91 ∨ r = 92 ∨ r = 93 ∨ r = 94 := by omega
  rw [up2_ne _ _ _ _ (by omega), up2_ne _ _ _ _ (by omega), mvK_ne _ (by omega), mvK_ne _ (by omega)]
  rcases hr with rfl | rfl | rfl | rfl | rfl | rfl | rfl | rfl <;> rfl
theorem cpM_1b (M : MM) {a b : Nat} {r : Nat} (hr : r = 85 ∨ r = 86 ∨ r = 95) : cpM M a b r b = M r a := by
  rw [cpM_1 M a b hr]
  have := zq_mv M (c := r) (n := 1) (a := a) (b := b) (m := 1) (k := 0) (by decide)
  rw [show 1 * b + 0 = b by omega, show 1 * a + 0 = a by omega] at this
  exact this
theorem cpM_1o (M : MM) {a b s : Nat} {r : Nat} (hr : r = 85 ∨ r = 86 ∨ r = 95) (hs : s ≠ b) : cpM M a b r s = M r s := by
  rw [cpM_1 M a b hr]
  exact zq_mvo M (by omega)
theorem cpM_10b (M : MM) {a b k : Nat} {r : Nat} (h1 : 87 ≤ r) (h2 : r ≤ 94) (hk : k < 10) : cpM M a b r (10 * b + k) = M r (10 * a + k) := by
  rw [cpM_10 M a b h1 h2]
  exact zq_mv M hk
theorem cpM_10o (M : MM) {a b s k : Nat} {r : Nat} (h1 : 87 ≤ r) (h2 : r ≤ 94) (hk : k < 10) (hs : s ≠ b) : cpM M a b r (10 * s + k) = M r (10 * s + k) := by
  rw [cpM_10 M a b h1 h2]
  exact zq_mvo M (by omega)
theorem tkN_0 (M : MM) {b e : Nat} (hs : (M e 1).toNat ≤ 10) (hbe : e < b ∨ b + 12 < e) : tkN M b e b 0 = M e 0 ∧ tkN M b e b 1 = M e 1 ∧ tkN M b e b 4 = M e 4 := by
  unfold tkN
  refine ⟨?_, ?_, ?_⟩
  · rw [up2_in, if_neg (by decide), cp2_ne _ (by omega), tnK_ne _ (by omega), up2_in, if_neg (by decide), up2_self]
  · rw [up2_in, if_neg (by decide), cp2_ne _ (by omega), tnK_ne _ (by omega), up2_self]
  · rw [up2_self]
theorem tkN_l (M : MM) {b e k q : Nat} (hs : (M e 1).toNat ≤ 10) (hbe : e + 12 < b ∨ b + 12 < e) (hk : k < (M e 1).toNat) (hq : q < 8) : tkN M b e (b + 2 + k) q = M (e + 2 + k) q := by
  unfold tkN
  rw [up2_ne _ _ _ _ (by omega), cp2_ne _ (by omega), tnK_in _ hk hq, up2_ne _ _ _ _ (by omega), up2_ne _ _ _ _ (by omega)]
theorem tkN_h (M : MM) {b e k : Nat} (hs : (M e 1).toNat ≤ 10) (hbe : e + 12 < b ∨ b + 12 < e) (hk : k < 4) : tkN M b e (b + 12) k = M (e + 12) k := by
  unfold tkN
  rw [up2_ne _ _ _ _ (by omega)]
  show (if b + 12 = b + 12 then (fun j => if j < 4 then _ else _) else _) k = _
  rw [if_pos rfl]
  show (if k < 4 then _ else _) = _
  rw [if_pos hk, tnK_ne _ (by omega), up2_ne _ _ _ _ (by omega), up2_ne _ _ _ _ (by omega)]
section ZSR
variable {M M1 M2 : MM} {z z2 : Int}
theorem zs_image {k : Int} (h : zSM M) (h1 : pc_image k M z M1) (h2 : pr_image k M1 z2 M2) : z = z2 ∧ zSM M2 := by
  have hW := h.cw
  have hs : (M 1 1).toNat ≤ 10 := by have := hW.2.1; omega
  rcases h1 with ⟨a1, a2, rfl⟩ | ⟨a1, a2, rfl⟩
  · rcases h2 with ⟨b1, b2, rfl⟩ | ⟨b1, b2, -⟩
    · exact ⟨by omega, h.quiet (fun _ _ => rfl) h.2.2.1 (fun c hc => up2_ne _ _ _ _ (by omega)) (h.2.2.2.up (by decide) (by decide) _)⟩
    · omega
  · rcases h2 with ⟨b1, b2, -⟩ | ⟨b1, b2, h2⟩
    · omega
    · obtain ⟨j, rfl⟩ : ∃ j : Nat, k = (j : Int) := ⟨k.toNat, by omega⟩
      rw [show (j : Int).toNat = j by omega] at h2
      have hj : j < 3 := by omega
      generalize hX : up2 (tkN M (45 + 13 * j) 1) 15 j 1 = X at h2
      have x1 : ∀ c, c ≠ 15 → c < 45 + 13 * j ∨ 45 + 13 * j + 12 < c → X c = M c := fun c c1 c2 => by rw [← hX, up2_ne _ _ _ _ c1, tkN_ne _ hs c2]
      have x15 : ∀ i, X 15 i = if i = j then 1 else M 15 i := fun i => by rw [← hX, up2_in, tkN_ne _ hs (by omega)]
      have xb := tkN_0 M (b := 45 + 13 * j) hs (by omega)
      have xe : ∀ c, c ≠ 15 → X c = tkN M (45 + 13 * j) 1 c := fun c c1 => by rw [← hX, up2_ne _ _ _ _ c1]
      have y1 : ∀ c, c < 84 ∨ c = 84 ∨ 98 < c → c ≠ 107 → c ≠ 84 → M2 c = X c := fun c c1 c2 c3 => by rw [h2, up2_ne _ _ _ _ c2, cpM_o _ _ _ (by omega), up2_ne _ _ _ _ c3]
      have y107 : ∀ i, M2 107 i = if i = j then 1 else X 107 i := fun i => by rw [h2, up2_in, cpM_o _ _ _ (by decide), up2_ne _ _ _ _ (by decide)]
      have y84 : ∀ i, i ≠ 0 → M2 84 i = X 84 i := fun i hi => by rw [h2, up2_ne _ _ _ _ (by decide), cpM_o _ _ _ (by decide), up2_in, if_neg hi]
      have y2 : ∀ r s, r = 85 ∨ r = 86 ∨ r = 95 → s ≠ j + 1 → M2 r s = M r s := fun r s hr hs2 => by rw [h2, up2_ne _ _ _ _ (by omega), cpM_1o _ hr hs2, up2_ne _ _ _ _ (by omega), x1 r (by omega) (by omega)]
      have y3 : ∀ r, r = 85 ∨ r = 86 ∨ r = 95 → M2 r (j + 1) = M r 0 := fun r hr => by rw [h2, up2_ne _ _ _ _ (by omega), cpM_1b _ hr, up2_ne _ _ _ _ (by omega), x1 r (by omega) (by omega)]
      have y4 : ∀ r s i, 87 ≤ r → r ≤ 94 → i < 10 → s ≠ j + 1 → M2 r (10 * s + i) = M r (10 * s + i) := fun r s i r1 r2 hi hs2 => by rw [h2, up2_ne _ _ _ _ (by omega), cpM_10o _ r1 r2 hi hs2, up2_ne _ _ _ _ (by omega), x1 r (by omega) (by omega)]
      have y5 : ∀ r i, 87 ≤ r → r ≤ 94 → i < 10 → M2 r (10 * (j + 1) + i) = M r (10 * 0 + i) := fun r i r1 r2 hi => by rw [h2, up2_ne _ _ _ _ (by omega), cpM_10b _ r1 r2 hi, up2_ne _ _ _ _ (by omega), x1 r (by omega) (by omega)]
      have yo : ∀ c, c < 84 → c ≠ 15 → c < 45 + 13 * j ∨ 45 + 13 * j + 12 < c → M2 c = M c := fun c c1 c2 c3 => by rw [y1 c (by omega) (by omega) (by omega), x1 c c2 c3]
      refine ⟨by omega, h.1.to (fun q _ => by rw [yo 1 (by decide) (by decide) (by omega)]) (fun i q hi _ => ?_) (fun i _ => by rw [yo (1 + 12) (by decide) (by decide) (by omega)]) (fun r hr => y2 r 0 hr (by omega)) (fun r i r1 r2 hi => y4 r 0 i r1 r2 hi (by omega)), fun j2 hj2 => ?_, h.2.2.1.at (by rw [yo 41 (by decide) (by decide) (by omega)]) (by rw [yo 21 (by decide) (by decide) (by omega)]), h.2.2.2.at (fun i hi => by rw [y84 i (by omega), x1 84 (by decide) (by omega)])⟩
      · have := h.1.2.1
        rw [yo _ (by omega) (by omega) (by omega)]
      · have e15 : M2 15 j2 = if j2 = j then 1 else M 15 j2 := by rw [y1 15 (by decide) (by decide) (by decide), x15]
        have e107 : M2 107 j2 = if j2 = j then 1 else M 107 j2 := by rw [y107, x1 107 (by decide) (by omega)]
        rw [e15, e107]
        by_cases c : j2 = j
        · subst c
          rw [if_pos rfl, if_pos rfl]
          refine ⟨rfl, Or.inr rfl, fun _ => h.1.to (fun q hq => ?_) (fun i q hi hq => ?_) (fun i hi => ?_) (fun r hr => y3 r hr) (fun r i r1 r2 hi => y5 r i r1 r2 hi)⟩
          · rw [y1 _ (by omega) (by omega) (by omega), xe _ (by omega)]
            rcases hq with rfl | rfl | rfl
            · exact xb.1
            · exact xb.2.1
            · exact xb.2.2
          · have hi2 : i < (M 1 1).toNat := by rw [h.1.2.2.1.2]; omega
            rw [y1 _ (by omega) (by omega) (by omega), xe _ (by omega)]
            exact tkN_l M hs (by omega) hi2 hq
          · rw [y1 _ (by omega) (by omega) (by omega), xe _ (by omega)]
            exact tkN_h M hs (by omega) hi
        · rw [if_neg c, if_neg c]
          obtain ⟨q1, q2, q3⟩ := h.2.1 j2 hj2
          refine ⟨q1, q2, fun q => (q3 q).to (fun q' _ => ?_) (fun i q' hi _ => ?_) (fun i _ => ?_) (fun r hr => y2 r (j2 + 1) hr (by omega)) (fun r i r1 r2 hi => y4 r (j2 + 1) i r1 r2 hi (by omega))⟩
          · rw [yo _ (by omega) (by omega) (by omega)]
          · have := (q3 q).2.1
            rw [yo _ (by omega) (by omega) (by omega)]
          · rw [yo _ (by omega) (by omega) (by omega)]
theorem zs_again {k : Int} (h : zSM M) (h1 : pc_again k M z M1) (h2 : pr_again k M1 z2 M2) : z = z2 ∧ zSM M2 := by
  have hI := h.im
  have hf := zf_again hI.2 h1
  have e107 : ∀ i, M1 107 i = M 107 i := fun i => by rw [hf 107 (by decide)]
  rw [show pr_again k M1 z2 M2 = pr_again k M1 z2 M2 from rfl] at h2
  rcases h1 with ⟨a1, a2, rfl⟩ | ⟨a1, a2, h1⟩
  · rcases h2 with ⟨b1, b2, rfl⟩ | ⟨b1, b2, -⟩
    · exact ⟨by omega, h.quiet (fun _ _ => rfl) h.2.2.1 (fun c hc => up2_ne _ _ _ _ (by omega)) (h.2.2.2.up (by decide) (by decide) _)⟩
    · have := (h.2.1 k.toNat (by omega)).1
      omega
  · obtain ⟨j, rfl⟩ : ∃ j : Nat, k = (j : Int) := ⟨k.toNat, by omega⟩
    rw [show (j : Int).toNat = j by omega] at h1 a2
    have hj : j < 3 := by omega
    obtain ⟨q1, q2, q3⟩ := h.2.1 j hj
    rcases h2 with ⟨b1, b2, -⟩ | ⟨b1, b2, h2⟩
    · rw [show (j : Int).toNat = j by omega, e107] at b2
      omega
    · rw [show (j : Int).toNat = j by omega] at h2
      have hN := q3 (by omega)
      have hs : (M (45 + 13 * j) 1).toNat ≤ 10 := by have := hI.2 j hj a2.2; omega
      have x1 : ∀ c, c < 1 ∨ 1 + 12 < c → M1 c = M c := fun c c1 => by rw [h1, tkN_ne _ hs c1]
      have xb := tkN_0 M (b := 1) (e := 45 + 13 * j) hs (by omega)
      have y1 : ∀ c, c < 84 ∨ 98 < c → M2 c = M1 c := fun c c1 => by rw [h2, cpM_o _ _ _ (by omega), up2_ne _ _ _ _ (by omega)]
      have y84 : ∀ i, i ≠ 0 → M2 84 i = M1 84 i := fun i hi => by rw [h2, cpM_o _ _ _ (by decide), up2_in, if_neg hi]
      have y2 : ∀ r s, r = 85 ∨ r = 86 ∨ r = 95 → s ≠ 0 → M2 r s = M r s := fun r s hr hs2 => by rw [h2, cpM_1o _ hr hs2, up2_ne _ _ _ _ (by omega), x1 r (by omega)]
      have y3 : ∀ r, r = 85 ∨ r = 86 ∨ r = 95 → M2 r 0 = M r (j + 1) := fun r hr => by rw [h2, cpM_1b _ hr, up2_ne _ _ _ _ (by omega), x1 r (by omega)]
      have y4 : ∀ r s i, 87 ≤ r → r ≤ 94 → i < 10 → s ≠ 0 → M2 r (10 * s + i) = M r (10 * s + i) := fun r s i r1 r2 hi hs2 => by rw [h2, cpM_10o _ r1 r2 hi hs2, up2_ne _ _ _ _ (by omega), x1 r (by omega)]
      have y5 : ∀ r i, 87 ≤ r → r ≤ 94 → i < 10 → M2 r (10 * 0 + i) = M r (10 * (j + 1) + i) := fun r i r1 r2 hi => by rw [h2, cpM_10b _ r1 r2 hi, up2_ne _ _ _ _ (by omega), x1 r (by omega)]
      have yo : ∀ c, 1 + 12 < c → c < 84 → M2 c = M c := fun c c1 c2 => by rw [y1 c (by omega), x1 c (by omega)]
      refine ⟨by omega, hN.to (fun q hq => ?_) (fun i q hi hq => ?_) (fun i hi => ?_) (fun r hr => y3 r hr) (fun r i r1 r2 hi => y5 r i r1 r2 hi), fun j2 hj2 => ?_, h.2.2.1.at (by rw [yo 41 (by decide) (by decide)]) (by rw [yo 21 (by decide) (by decide)]), h.2.2.2.at (fun i hi => by rw [y84 i (by omega), x1 84 (by decide)])⟩
      · rw [y1 1 (by decide), h1]
        rcases hq with rfl | rfl | rfl
        · exact xb.1
        · exact xb.2.1
        · exact xb.2.2
      · have hi2 : i < (M (45 + 13 * j) 1).toNat := by rw [hN.2.2.1.2]; omega
        have := hN.2.1
        rw [y1 _ (by omega), h1]
        exact tkN_l M hs (by omega) hi2 hq
      · rw [y1 _ (by decide), h1]
        exact tkN_h M hs (by omega) hi
      · have e15 : M2 15 = M 15 := yo 15 (by decide) (by decide)
        have f107 : M2 107 = M 107 := by rw [y1 107 (by decide), x1 107 (by decide)]
        rw [e15, f107]
        obtain ⟨p1, p2, p3⟩ := h.2.1 j2 hj2
        refine ⟨p1, p2, fun q => (p3 q).to (fun q' _ => ?_) (fun i q' hi _ => ?_) (fun i _ => ?_) (fun r hr => y2 r (j2 + 1) hr (by omega)) (fun r i r1 r2 hi => y4 r (j2 + 1) i r1 r2 hi (by omega))⟩
        · rw [yo _ (by omega) (by omega)]
        · have := (p3 q).2.1
          rw [yo _ (by omega) (by omega)]
        · rw [yo _ (by omega) (by omega)]
end ZSR
theorem zSM_I : zSM mI := by
  refine ⟨⟨by decide +kernel, by decide +kernel, by decide +kernel, fun k hk => ?_, ⟨0, by decide, by decide +kernel, fun k hk => absurd hk (Nat.not_lt_zero k)⟩, by decide +kernel⟩, fun j hj => ?_, zP1_I.2.2.2.1, zP1_I.2.2.2.2.2.2.2.2.1⟩
  · have : mI 86 0 = 0 := zP1_I.2.2.2.2.2.2.1
    omega
  · have e1 := zP1_I.2.2.2.2.1 j hj
    have e2 := zP1_I.2.2.2.2.2.2.2.2.2 j hj
    exact ⟨by rw [e1, e2], Or.inl e2, fun q => absurd e2 q⟩
