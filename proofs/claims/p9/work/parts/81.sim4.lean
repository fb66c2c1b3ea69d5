/-! both sides alike, behind lane, room, share, send, image, again, way, ring, count -/
theorem zSM.imk {M M2 : MM} (h : zSM M) (hc : ∀ c, 45 ≤ c → c < 84 → M2 c = M c) (h15 : M2 15 = M 15) (h107 : M2 107 = M 107) (h1 : ∀ r s, r = 85 ∨ r = 86 ∨ r = 95 → 1 ≤ s → M2 r s = M r s) (h2 : ∀ r x, 87 ≤ r → r ≤ 94 → 10 ≤ x → M2 r x = M r x) : ∀ j, j < 3 → M2 15 j = M2 107 j ∧ (M2 107 j = 0 ∨ M2 107 j = 1) ∧ (M2 107 j ≠ 0 → zNt M2 (45 + 13 * j) (j + 1)) := by
  intro j hj
  obtain ⟨q1, q2, q3⟩ := h.2.1 j hj
  rw [h15, h107]
  refine ⟨q1, q2, fun q => (q3 q).to (fun q' _ => by rw [hc _ (by omega) (by omega)]) (fun k q' hk _ => ?_) (fun k _ => by rw [hc _ (by omega) (by omega)]) (fun r hr => h1 r (j + 1) hr (by omega)) (fun r k r1 r2 hk => h2 r _ r1 r2 (by omega))⟩
  have := (q3 q).2.1
  rw [hc _ (by omega) (by omega)]
/-- one lane of the net that is has changed -/
theorem zNt.mod {M M2 : MM} {k : Nat} (h : zNt M 1 0) (h0 : M2 1 = M 1) (h13 : M2 13 = M 13) (h1 : ∀ r, r = 85 ∨ r = 86 ∨ r = 95 → M2 r 0 = M r 0) (hl : ∀ i, i < 10 → i ≠ k → M2 (3 + i) = M (3 + i)) (hr : ∀ r i, 87 ≤ r → r ≤ 94 → i < 10 → i ≠ k → M2 r i = M r i) (hk : zLn M2 (3 + k) 0 k) : zNt M2 1 0 := by
  obtain ⟨a1, a2, a3, a4, ⟨N, n1, n2, n3⟩, a6⟩ := h
  have e5 := h1 85 (by decide)
  have e6 := h1 86 (by decide)
  refine ⟨by rw [e5]; exact a1, by rw [e6]; exact a2, by rw [e5, e6, h0]; exact a3, fun i hi => ?_, ⟨N, n1, by rw [h0]; exact n2, fun i hi => ?_⟩, by rw [h1 95 (by decide)]; exact a6⟩
  · rw [e6] at hi
    by_cases c : i = k
    · subst c
      rw [show 1 + 2 + i = 3 + i by omega, show 10 * 0 + i = i by omega]
      exact hk
    · refine (a4 i hi).to (fun q hq => ?_) e5 (fun r r1 r2 => ?_)
      · rw [show 1 + 2 + i = 3 + i by omega, hl i (by omega) c]
      · rw [show 10 * 0 + i = i by omega]
        exact hr r i r1 r2 (by omega) c
  · rw [e6]
    show 0 ≤ M2 13 i ∧ M2 13 i < M 86 0
    rw [h13]
    exact n3 i hi
theorem zSM.ln {M : MM} (h : zSM M) {k : Nat} (hk : (k : Int) < M 86 0) : zLn M (3 + k) 0 k := by
  have q := h.1.2.2.2.1 k hk
  rw [show 1 + 2 + k = 3 + k by omega, show 10 * 0 + k = k by omega] at q
  exact q
theorem BB.at {M M2 : MM} (h : BB M) (he : ∀ j, j = 28 ∨ j = 29 → M2 84 j = M 84 j) : BB M2 := by
  unfold BB at h ⊢
  rw [he 28 (by decide), he 29 (by decide)]
  exact h
theorem zZ.at {M M2 : MM} (h : zZ M) (h1 : M2 41 0 = M 41 0) (h2 : M2 21 15 = M 21 15) : zZ M2 := by
  unfold zZ at h ⊢
  rw [h1, h2]
  exact h
section ZSP
variable {M M1 M2 : MM} {z z2 : Int}
theorem zs_room {k r : Int} (h : zSM M) (h1 : pc_room k r M z M1) (h2 : pr_room k r M1 z2 M2) : z = z2 ∧ zSM M2 := by
  have e1 := h.qn.2.1
  have hL := h.wm.2.1
  rcases h1 with ⟨a1, a2, rfl⟩ | ⟨a1, a2, rfl⟩
  · rcases h2 with ⟨b1, b2, b3, b4, b5, -⟩ | ⟨b1, b2, rfl⟩
    · omega
    · exact ⟨by omega, h.quiet (fun _ _ => rfl) h.2.2.1 (fun c hc => up2_ne _ _ _ _ (by omega)) (h.2.2.2.up (by decide) (by decide) _)⟩
  · have e86 : (up2 M (3 + k.toNat) 2 r) 86 0 = M 86 0 := by rw [up2_ne _ _ _ _ (by omega)]
    rcases h2 with ⟨b1, b2, b3, b4, b5, rfl⟩ | ⟨b1, b2, -⟩
    · have hc : ∀ c, c ≠ 3 + k.toNat → c ≠ 84 → c ≠ 89 → (up2 (up2 (up2 M (3 + k.toNat) 2 r) 84 0 0) 89 k.toNat r) c = M c := fun c c1 c2 c3 => by rw [up2_ne _ _ _ _ c3, up2_ne _ _ _ _ c2, up2_ne _ _ _ _ c1]
      have h89 : ∀ i, (up2 (up2 (up2 M (3 + k.toNat) 2 r) 84 0 0) 89 k.toNat r) 89 i = if i = k.toNat then r else M 89 i := fun i => by rw [up2_in, up2_ne _ _ _ _ (show (89 : Nat) ≠ 84 by decide), up2_ne _ _ _ _ (show (89 : Nat) ≠ 3 + k.toNat by omega)]
      have hk3 : ∀ i, (up2 (up2 (up2 M (3 + k.toNat) 2 r) 84 0 0) 89 k.toNat r) (3 + k.toNat) i = if i = 2 then r else M (3 + k.toNat) i := fun i => by rw [up2_ne _ _ _ _ (show 3 + k.toNat ≠ 89 by omega), up2_ne _ _ _ _ (show 3 + k.toNat ≠ 84 by omega), up2_in]
      refine ⟨by omega, h.1.mod (k := k.toNat) (hc 1 (by omega) (by omega) (by omega)) (hc 13 (by omega) (by omega) (by omega)) (fun q hq => by rw [hc q (by omega) (by omega) (by omega)]) (fun i hi hne => hc _ (by omega) (by omega) (by omega)) (fun q i q1 q2 hi hne => ?_) ?_, h.imk (fun c c1 c2 => hc c (by omega) (by omega) (by omega)) (hc 15 (by omega) (by omega) (by omega)) (hc 107 (by omega) (by omega) (by omega)) (fun q s hq _ => by rw [hc q (by omega) (by omega) (by omega)]) (fun q x q1 q2 hx => ?_), ?_, ?_⟩
      · by_cases c89 : q = 89
        · subst c89; rw [h89, if_neg hne]
        rw [hc q (by omega) (by omega) (by omega)]
      · have l := h.ln (k := k.toNat) (by omega)
        have q0 : (up2 (up2 (up2 M (3 + k.toNat) 2 r) 84 0 0) 89 k.toNat r) (3 + k.toNat) 0 = M (3 + k.toNat) 0 := hk3 0
        have q1 : (up2 (up2 (up2 M (3 + k.toNat) 2 r) 84 0 0) 89 k.toNat r) (3 + k.toNat) 1 = M (3 + k.toNat) 1 := hk3 1
        have q2 : (up2 (up2 (up2 M (3 + k.toNat) 2 r) 84 0 0) 89 k.toNat r) (3 + k.toNat) 2 = r := hk3 2
        have q3 : (up2 (up2 (up2 M (3 + k.toNat) 2 r) 84 0 0) 89 k.toNat r) (3 + k.toNat) 3 = M (3 + k.toNat) 3 := hk3 3
        have q4 : (up2 (up2 (up2 M (3 + k.toNat) 2 r) 84 0 0) 89 k.toNat r) (3 + k.toNat) 4 = M (3 + k.toNat) 4 := hk3 4
        have q5 : (up2 (up2 (up2 M (3 + k.toNat) 2 r) 84 0 0) 89 k.toNat r) (3 + k.toNat) 5 = M (3 + k.toNat) 5 := hk3 5
        have q6 : (up2 (up2 (up2 M (3 + k.toNat) 2 r) 84 0 0) 89 k.toNat r) (3 + k.toNat) 6 = M (3 + k.toNat) 6 := hk3 6
        have q7 : (up2 (up2 (up2 M (3 + k.toNat) 2 r) 84 0 0) 89 k.toNat r) (3 + k.toNat) 7 = M (3 + k.toNat) 7 := hk3 7
        have p89 := h89 k.toNat
        rw [if_pos rfl] at p89
        unfold zLn at l ⊢
        rw [q0, q1, q2, q3, q4, q5, q6, q7, p89, hc 85 (by omega) (by omega) (by omega), hc 87 (by omega) (by omega) (by omega), hc 88 (by omega) (by omega) (by omega), hc 90 (by omega) (by omega) (by omega), hc 91 (by omega) (by omega) (by omega), hc 92 (by omega) (by omega) (by omega), hc 93 (by omega) (by omega) (by omega), hc 94 (by omega) (by omega) (by omega)]
        omega
      · by_cases c89 : q = 89
        · subst c89; rw [h89, if_neg (by omega)]
        rw [hc q (by omega) (by omega) (by omega)]
      · exact h.2.2.1.at (by rw [hc 41 (by omega) (by omega) (by omega)]) (by rw [hc 21 (by omega) (by omega) (by omega)])
      · exact h.2.2.2.at (fun j hj => by rw [up2_ne _ _ _ _ (show (84 : Nat) ≠ 89 by decide), up2_in, if_neg (by omega), up2_ne _ _ _ _ (show (84 : Nat) ≠ 3 + k.toNat by omega)])
    · omega
theorem zs_share {k p q d : Int} (h : zSM M) (h1 : pc_share k p q d M z M1) (h2 : pr_share k p q d M1 z2 M2) : z = z2 ∧ zSM M2 := by
  have e1 := h.qn.2.1
  have hL := h.wm.2.1
  rcases h1 with ⟨a1, a2, rfl⟩ | ⟨a1, a2, rfl⟩
  · rcases h2 with ⟨b1, b2, -⟩ | ⟨b1, b2, rfl⟩
    · omega
    · exact ⟨by omega, h.quiet (fun _ _ => rfl) h.2.2.1 (fun c hc => up2_ne _ _ _ _ (by omega)) (h.2.2.2.up (by decide) (by decide) _)⟩
  · have e86 : (up2 (up2 (up2 M (3 + k.toNat) 3 p) (3 + k.toNat) 4 q) (3 + k.toNat) 5 d) 86 0 = M 86 0 := by rw [up2_ne _ _ _ _ (by omega), up2_ne _ _ _ _ (by omega), up2_ne _ _ _ _ (by omega)]
    rcases h2 with ⟨b1, b2, rfl⟩ | ⟨b1, b2, -⟩
    · have hc : ∀ c, c ≠ 3 + k.toNat → c ≠ 84 → c ≠ 90 → c ≠ 91 → c ≠ 92 → (up2 (up2 (up2 (up2 (up2 (up2 (up2 M (3 + k.toNat) 3 p) (3 + k.toNat) 4 q) (3 + k.toNat) 5 d) 84 0 0) 90 k.toNat p) 91 k.toNat q) 92 k.toNat d) c = M c := fun c c1 c2 c3 c4 c5 => by rw [up2_ne _ _ _ _ c5, up2_ne _ _ _ _ c4, up2_ne _ _ _ _ c3, up2_ne _ _ _ _ c2, up2_ne _ _ _ _ c1, up2_ne _ _ _ _ c1, up2_ne _ _ _ _ c1]
      have h90 : ∀ i, (up2 (up2 (up2 (up2 (up2 (up2 (up2 M (3 + k.toNat) 3 p) (3 + k.toNat) 4 q) (3 + k.toNat) 5 d) 84 0 0) 90 k.toNat p) 91 k.toNat q) 92 k.toNat d) 90 i = if i = k.toNat then p else M 90 i := fun i => by rw [up2_ne _ _ _ _ (show (90 : Nat) ≠ 92 by decide), up2_ne _ _ _ _ (show (90 : Nat) ≠ 91 by decide), up2_in, up2_ne _ _ _ _ (show (90 : Nat) ≠ 84 by decide), up2_ne _ _ _ _ (show (90 : Nat) ≠ 3 + k.toNat by omega), up2_ne _ _ _ _ (show (90 : Nat) ≠ 3 + k.toNat by omega), up2_ne _ _ _ _ (show (90 : Nat) ≠ 3 + k.toNat by omega)]
      have h91 : ∀ i, (up2 (up2 (up2 (up2 (up2 (up2 (up2 M (3 + k.toNat) 3 p) (3 + k.toNat) 4 q) (3 + k.toNat) 5 d) 84 0 0) 90 k.toNat p) 91 k.toNat q) 92 k.toNat d) 91 i = if i = k.toNat then q else M 91 i := fun i => by rw [up2_ne _ _ _ _ (show (91 : Nat) ≠ 92 by decide), up2_in, up2_ne _ _ _ _ (show (91 : Nat) ≠ 90 by decide), up2_ne _ _ _ _ (show (91 : Nat) ≠ 84 by decide), up2_ne _ _ _ _ (show (91 : Nat) ≠ 3 + k.toNat by omega), up2_ne _ _ _ _ (show (91 : Nat) ≠ 3 + k.toNat by omega), up2_ne _ _ _ _ (show (91 : Nat) ≠ 3 + k.toNat by omega)]
      have h92 : ∀ i, (up2 (up2 (up2 (up2 (up2 (up2 (up2 M (3 + k.toNat) 3 p) (3 + k.toNat) 4 q) (3 + k.toNat) 5 d) 84 0 0) 90 k.toNat p) 91 k.toNat q) 92 k.toNat d) 92 i = if i = k.toNat then d else M 92 i := fun i => by rw [up2_in, up2_ne _ _ _ _ (show (92 : Nat) ≠ 91 by decide), up2_ne _ _ _ _ (show (92 : Nat) ≠ 90 by decide), up2_ne _ _ _ _ (show (92 : Nat) ≠ 84 by decide), up2_ne _ _ _ _ (show (92 : Nat) ≠ 3 + k.toNat by omega), up2_ne _ _ _ _ (show (92 : Nat) ≠ 3 + k.toNat by omega), up2_ne _ _ _ _ (show (92 : Nat) ≠ 3 + k.toNat by omega)]
      have hk3 : ∀ i, (up2 (up2 (up2 (up2 (up2 (up2 (up2 M (3 + k.toNat) 3 p) (3 + k.toNat) 4 q) (3 + k.toNat) 5 d) 84 0 0) 90 k.toNat p) 91 k.toNat q) 92 k.toNat d) (3 + k.toNat) i = if i = 5 then d else if i = 4 then q else if i = 3 then p else M (3 + k.toNat) i := fun i => by rw [up2_ne _ _ _ _ (show 3 + k.toNat ≠ 92 by omega), up2_ne _ _ _ _ (show 3 + k.toNat ≠ 91 by omega), up2_ne _ _ _ _ (show 3 + k.toNat ≠ 90 by omega), up2_ne _ _ _ _ (show 3 + k.toNat ≠ 84 by omega), up2_in, up2_in, up2_in]
      refine ⟨by omega, h.1.mod (k := k.toNat) (hc 1 (by omega) (by omega) (by omega) (by omega) (by omega)) (hc 13 (by omega) (by omega) (by omega) (by omega) (by omega)) (fun q hq => by rw [hc q (by omega) (by omega) (by omega) (by omega) (by omega)]) (fun i hi hne => hc _ (by omega) (by omega) (by omega) (by omega) (by omega)) (fun q i q1 q2 hi hne => ?_) ?_, h.imk (fun c c1 c2 => hc c (by omega) (by omega) (by omega) (by omega) (by omega)) (hc 15 (by omega) (by omega) (by omega) (by omega) (by omega)) (hc 107 (by omega) (by omega) (by omega) (by omega) (by omega)) (fun q s hq _ => by rw [hc q (by omega) (by omega) (by omega) (by omega) (by omega)]) (fun q x q1 q2 hx => ?_), ?_, ?_⟩
      · by_cases c90 : q = 90
        · subst c90; rw [h90, if_neg hne]
        by_cases c91 : q = 91
        · subst c91; rw [h91, if_neg hne]
        by_cases c92 : q = 92
        · subst c92; rw [h92, if_neg hne]
        rw [hc q (by omega) (by omega) (by omega) (by omega) (by omega)]
      · have l := h.ln (k := k.toNat) (by omega)
        have q0 : (up2 (up2 (up2 (up2 (up2 (up2 (up2 M (3 + k.toNat) 3 p) (3 + k.toNat) 4 q) (3 + k.toNat) 5 d) 84 0 0) 90 k.toNat p) 91 k.toNat q) 92 k.toNat d) (3 + k.toNat) 0 = M (3 + k.toNat) 0 := hk3 0
        have q1 : (up2 (up2 (up2 (up2 (up2 (up2 (up2 M (3 + k.toNat) 3 p) (3 + k.toNat) 4 q) (3 + k.toNat) 5 d) 84 0 0) 90 k.toNat p) 91 k.toNat q) 92 k.toNat d) (3 + k.toNat) 1 = M (3 + k.toNat) 1 := hk3 1
        have q2 : (up2 (up2 (up2 (up2 (up2 (up2 (up2 M (3 + k.toNat) 3 p) (3 + k.toNat) 4 q) (3 + k.toNat) 5 d) 84 0 0) 90 k.toNat p) 91 k.toNat q) 92 k.toNat d) (3 + k.toNat) 2 = M (3 + k.toNat) 2 := hk3 2
        have q3 : (up2 (up2 (up2 (up2 (up2 (up2 (up2 M (3 + k.toNat) 3 p) (3 + k.toNat) 4 q) (3 + k.toNat) 5 d) 84 0 0) 90 k.toNat p) 91 k.toNat q) 92 k.toNat d) (3 + k.toNat) 3 = p := hk3 3
        have q4 : (up2 (up2 (up2 (up2 (up2 (up2 (up2 M (3 + k.toNat) 3 p) (3 + k.toNat) 4 q) (3 + k.toNat) 5 d) 84 0 0) 90 k.toNat p) 91 k.toNat q) 92 k.toNat d) (3 + k.toNat) 4 = q := hk3 4
        have q5 : (up2 (up2 (up2 (up2 (up2 (up2 (up2 M (3 + k.toNat) 3 p) (3 + k.toNat) 4 q) (3 + k.toNat) 5 d) 84 0 0) 90 k.toNat p) 91 k.toNat q) 92 k.toNat d) (3 + k.toNat) 5 = d := hk3 5
        have q6 : (up2 (up2 (up2 (up2 (up2 (up2 (up2 M (3 + k.toNat) 3 p) (3 + k.toNat) 4 q) (3 + k.toNat) 5 d) 84 0 0) 90 k.toNat p) 91 k.toNat q) 92 k.toNat d) (3 + k.toNat) 6 = M (3 + k.toNat) 6 := hk3 6
        have q7 : (up2 (up2 (up2 (up2 (up2 (up2 (up2 M (3 + k.toNat) 3 p) (3 + k.toNat) 4 q) (3 + k.toNat) 5 d) 84 0 0) 90 k.toNat p) 91 k.toNat q) 92 k.toNat d) (3 + k.toNat) 7 = M (3 + k.toNat) 7 := hk3 7
        have p90 := h90 k.toNat
        rw [if_pos rfl] at p90
        have p91 := h91 k.toNat
        rw [if_pos rfl] at p91
        have p92 := h92 k.toNat
        rw [if_pos rfl] at p92
        unfold zLn at l ⊢
        rw [q0, q1, q2, q3, q4, q5, q6, q7, p90, p91, p92, hc 85 (by omega) (by omega) (by omega) (by omega) (by omega), hc 87 (by omega) (by omega) (by omega) (by omega) (by omega), hc 88 (by omega) (by omega) (by omega) (by omega) (by omega), hc 89 (by omega) (by omega) (by omega) (by omega) (by omega), hc 93 (by omega) (by omega) (by omega) (by omega) (by omega), hc 94 (by omega) (by omega) (by omega) (by omega) (by omega)]
        omega
      · by_cases c90 : q = 90
        · subst c90; rw [h90, if_neg (by omega)]
        by_cases c91 : q = 91
        · subst c91; rw [h91, if_neg (by omega)]
        by_cases c92 : q = 92
        · subst c92; rw [h92, if_neg (by omega)]
        rw [hc q (by omega) (by omega) (by omega) (by omega) (by omega)]
      · exact h.2.2.1.at (by rw [hc 41 (by omega) (by omega) (by omega) (by omega) (by omega)]) (by rw [hc 21 (by omega) (by omega) (by omega) (by omega) (by omega)])
      · exact h.2.2.2.at (fun j hj => by rw [up2_ne _ _ _ _ (show (84 : Nat) ≠ 92 by decide), up2_ne _ _ _ _ (show (84 : Nat) ≠ 91 by decide), up2_ne _ _ _ _ (show (84 : Nat) ≠ 90 by decide), up2_in, if_neg (by omega), up2_ne _ _ _ _ (show (84 : Nat) ≠ 3 + k.toNat by omega), up2_ne _ _ _ _ (show (84 : Nat) ≠ 3 + k.toNat by omega), up2_ne _ _ _ _ (show (84 : Nat) ≠ 3 + k.toNat by omega)])
    · omega
theorem zs_send {k u v : Int} (h : zSM M) (h1 : pc_send k u v M z M1) (h2 : pr_send k u v M1 z2 M2) : z = z2 ∧ zSM M2 := by
  have e1 := h.qn.2.1
  have hL := h.wm.2.1
  rcases h1 with ⟨a1, a2, rfl⟩ | ⟨a1, a2, rfl⟩
  · rcases h2 with ⟨b1, b2, -⟩ | ⟨b1, b2, rfl⟩
    · omega
    · exact ⟨by omega, h.quiet (fun _ _ => rfl) h.2.2.1 (fun c hc => up2_ne _ _ _ _ (by omega)) (h.2.2.2.up (by decide) (by decide) _)⟩
  · have e86 : (up2 (up2 (up2 (up2 M 42 0 (nU u v)) 42 1 (nD u v)) (3 + k.toNat) 6 (nU u v)) (3 + k.toNat) 7 (nD u v)) 86 0 = M 86 0 := by rw [up2_ne _ _ _ _ (by omega), up2_ne _ _ _ _ (by omega), up2_ne _ _ _ _ (by omega), up2_ne _ _ _ _ (by omega)]
    rcases h2 with ⟨b1, b2, rfl⟩ | ⟨b1, b2, -⟩
    · have hc : ∀ c, c ≠ 3 + k.toNat → c ≠ 84 → c ≠ 42 → c ≠ 93 → c ≠ 94 → (up2 (up2 (up2 (up2 (up2 (up2 (up2 M 42 0 (nU u v)) 42 1 (nD u v)) (3 + k.toNat) 6 (nU u v)) (3 + k.toNat) 7 (nD u v)) 84 0 0) 93 k.toNat u) 94 k.toNat v) c = M c := fun c c1 c2 c0 c3 c4 => by rw [up2_ne _ _ _ _ c4, up2_ne _ _ _ _ c3, up2_ne _ _ _ _ c2, up2_ne _ _ _ _ c1, up2_ne _ _ _ _ c1, up2_ne _ _ _ _ c0, up2_ne _ _ _ _ c0]
      have h93 : ∀ i, (up2 (up2 (up2 (up2 (up2 (up2 (up2 M 42 0 (nU u v)) 42 1 (nD u v)) (3 + k.toNat) 6 (nU u v)) (3 + k.toNat) 7 (nD u v)) 84 0 0) 93 k.toNat u) 94 k.toNat v) 93 i = if i = k.toNat then u else M 93 i := fun i => by rw [up2_ne _ _ _ _ (show (93 : Nat) ≠ 94 by decide), up2_in, up2_ne _ _ _ _ (show (93 : Nat) ≠ 84 by decide), up2_ne _ _ _ _ (show (93 : Nat) ≠ 3 + k.toNat by omega), up2_ne _ _ _ _ (show (93 : Nat) ≠ 3 + k.toNat by omega), up2_ne _ _ _ _ (show (93 : Nat) ≠ 42 by decide), up2_ne _ _ _ _ (show (93 : Nat) ≠ 42 by decide)]
      have h94 : ∀ i, (up2 (up2 (up2 (up2 (up2 (up2 (up2 M 42 0 (nU u v)) 42 1 (nD u v)) (3 + k.toNat) 6 (nU u v)) (3 + k.toNat) 7 (nD u v)) 84 0 0) 93 k.toNat u) 94 k.toNat v) 94 i = if i = k.toNat then v else M 94 i := fun i => by rw [up2_in, up2_ne _ _ _ _ (show (94 : Nat) ≠ 93 by decide), up2_ne _ _ _ _ (show (94 : Nat) ≠ 84 by decide), up2_ne _ _ _ _ (show (94 : Nat) ≠ 3 + k.toNat by omega), up2_ne _ _ _ _ (show (94 : Nat) ≠ 3 + k.toNat by omega), up2_ne _ _ _ _ (show (94 : Nat) ≠ 42 by decide), up2_ne _ _ _ _ (show (94 : Nat) ≠ 42 by decide)]
      have hk3 : ∀ i, (up2 (up2 (up2 (up2 (up2 (up2 (up2 M 42 0 (nU u v)) 42 1 (nD u v)) (3 + k.toNat) 6 (nU u v)) (3 + k.toNat) 7 (nD u v)) 84 0 0) 93 k.toNat u) 94 k.toNat v) (3 + k.toNat) i = if i = 7 then (nD u v) else if i = 6 then (nU u v) else M (3 + k.toNat) i := fun i => by rw [up2_ne _ _ _ _ (show 3 + k.toNat ≠ 94 by omega), up2_ne _ _ _ _ (show 3 + k.toNat ≠ 93 by omega), up2_ne _ _ _ _ (show 3 + k.toNat ≠ 84 by omega), up2_in, up2_in, up2_ne _ _ _ _ (show 3 + k.toNat ≠ 42 by omega), up2_ne _ _ _ _ (show 3 + k.toNat ≠ 42 by omega)]
      refine ⟨by omega, h.1.mod (k := k.toNat) (hc 1 (by omega) (by omega) (by omega) (by omega) (by omega)) (hc 13 (by omega) (by omega) (by omega) (by omega) (by omega)) (fun q hq => by rw [hc q (by omega) (by omega) (by omega) (by omega) (by omega)]) (fun i hi hne => hc _ (by omega) (by omega) (by omega) (by omega) (by omega)) (fun q i q1 q2 hi hne => ?_) ?_, h.imk (fun c c1 c2 => hc c (by omega) (by omega) (by omega) (by omega) (by omega)) (hc 15 (by omega) (by omega) (by omega) (by omega) (by omega)) (hc 107 (by omega) (by omega) (by omega) (by omega) (by omega)) (fun q s hq _ => by rw [hc q (by omega) (by omega) (by omega) (by omega) (by omega)]) (fun q x q1 q2 hx => ?_), ?_, ?_⟩
      · by_cases c93 : q = 93
        · subst c93; rw [h93, if_neg hne]
        by_cases c94 : q = 94
        · subst c94; rw [h94, if_neg hne]
        rw [hc q (by omega) (by omega) (by omega) (by omega) (by omega)]
      · have l := h.ln (k := k.toNat) (by omega)
        have q0 : (up2 (up2 (up2 (up2 (up2 (up2 (up2 M 42 0 (nU u v)) 42 1 (nD u v)) (3 + k.toNat) 6 (nU u v)) (3 + k.toNat) 7 (nD u v)) 84 0 0) 93 k.toNat u) 94 k.toNat v) (3 + k.toNat) 0 = M (3 + k.toNat) 0 := hk3 0
        have q1 : (up2 (up2 (up2 (up2 (up2 (up2 (up2 M 42 0 (nU u v)) 42 1 (nD u v)) (3 + k.toNat) 6 (nU u v)) (3 + k.toNat) 7 (nD u v)) 84 0 0) 93 k.toNat u) 94 k.toNat v) (3 + k.toNat) 1 = M (3 + k.toNat) 1 := hk3 1
        have q2 : (up2 (up2 (up2 (up2 (up2 (up2 (up2 M 42 0 (nU u v)) 42 1 (nD u v)) (3 + k.toNat) 6 (nU u v)) (3 + k.toNat) 7 (nD u v)) 84 0 0) 93 k.toNat u) 94 k.toNat v) (3 + k.toNat) 2 = M (3 + k.toNat) 2 := hk3 2
        have q3 : (up2 (up2 (up2 (up2 (up2 (up2 (up2 M 42 0 (nU u v)) 42 1 (nD u v)) (3 + k.toNat) 6 (nU u v)) (3 + k.toNat) 7 (nD u v)) 84 0 0) 93 k.toNat u) 94 k.toNat v) (3 + k.toNat) 3 = M (3 + k.toNat) 3 := hk3 3
        have q4 : (up2 (up2 (up2 (up2 (up2 (up2 (up2 M 42 0 (nU u v)) 42 1 (nD u v)) (3 + k.toNat) 6 (nU u v)) (3 + k.toNat) 7 (nD u v)) 84 0 0) 93 k.toNat u) 94 k.toNat v) (3 + k.toNat) 4 = M (3 + k.toNat) 4 := hk3 4
        have q5 : (up2 (up2 (up2 (up2 (up2 (up2 (up2 M 42 0 (nU u v)) 42 1 (nD u v)) (3 + k.toNat) 6 (nU u v)) (3 + k.toNat) 7 (nD u v)) 84 0 0) 93 k.toNat u) 94 k.toNat v) (3 + k.toNat) 5 = M (3 + k.toNat) 5 := hk3 5
        have q6 : (up2 (up2 (up2 (up2 (up2 (up2 (up2 M 42 0 (nU u v)) 42 1 (nD u v)) (3 + k.toNat) 6 (nU u v)) (3 + k.toNat) 7 (nD u v)) 84 0 0) 93 k.toNat u) 94 k.toNat v) (3 + k.toNat) 6 = (nU u v) := hk3 6
        have q7 : (up2 (up2 (up2 (up2 (up2 (up2 (up2 M 42 0 (nU u v)) 42 1 (nD u v)) (3 + k.toNat) 6 (nU u v)) (3 + k.toNat) 7 (nD u v)) 84 0 0) 93 k.toNat u) 94 k.toNat v) (3 + k.toNat) 7 = (nD u v) := hk3 7
        have p93 := h93 k.toNat
        rw [if_pos rfl] at p93
        have p94 := h94 k.toNat
        rw [if_pos rfl] at p94
        unfold zLn at l ⊢
        rw [q0, q1, q2, q3, q4, q5, q6, q7, p93, p94, hc 85 (by omega) (by omega) (by omega) (by omega) (by omega), hc 87 (by omega) (by omega) (by omega) (by omega) (by omega), hc 88 (by omega) (by omega) (by omega) (by omega) (by omega), hc 89 (by omega) (by omega) (by omega) (by omega) (by omega), hc 90 (by omega) (by omega) (by omega) (by omega) (by omega), hc 91 (by omega) (by omega) (by omega) (by omega) (by omega), hc 92 (by omega) (by omega) (by omega) (by omega) (by omega)]
        refine ⟨by omega, l.2.1, l.2.2.1, l.2.2.2.1, l.2.2.2.2.1, l.2.2.2.2.2.1, l.2.2.2.2.2.2.1, rfl, rfl⟩
      · by_cases c93 : q = 93
        · subst c93; rw [h93, if_neg (by omega)]
        by_cases c94 : q = 94
        · subst c94; rw [h94, if_neg (by omega)]
        rw [hc q (by omega) (by omega) (by omega) (by omega) (by omega)]
      · exact h.2.2.1.at (by rw [hc 41 (by omega) (by omega) (by omega) (by omega) (by omega)]) (by rw [hc 21 (by omega) (by omega) (by omega) (by omega) (by omega)])
      · exact h.2.2.2.at (fun j hj => by rw [up2_ne _ _ _ _ (show (84 : Nat) ≠ 94 by decide), up2_ne _ _ _ _ (show (84 : Nat) ≠ 93 by decide), up2_in, if_neg (by omega), up2_ne _ _ _ _ (show (84 : Nat) ≠ 3 + k.toNat by omega), up2_ne _ _ _ _ (show (84 : Nat) ≠ 3 + k.toNat by omega), up2_ne _ _ _ _ (show (84 : Nat) ≠ 42 by decide), up2_ne _ _ _ _ (show (84 : Nat) ≠ 42 by decide)])
    · omega
end ZSP
