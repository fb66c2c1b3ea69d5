/-! both sides alike, behind lane, room, share, send, image, again, way, ring, count -/
theorem zSM.imk {M M2 : MM} (h : zSM M) (hc : ∀ c, 45 ≤ c → c < 84 → M2 c = M c) (h15 : M2 15 = M 15) (h107 : M2 107 = M 107) (h1 : ∀ r s, r = 85 ∨ r = 86 ∨ r = 95 → 1 ≤ s → M2 r s = M r s) (h2 : ∀ r x, 87 ≤ r → r ≤ 94 → 10 ≤ x → M2 r x = M r x) : ∀ j, j < 3 → M2 15 j = M2 107 j ∧ (M2 107 j = 0 ∨ M2 107 j = 1) ∧ (M2 107 j ≠ 0 → zNt M2 (45 + 13 * j) (j + 1)) := by
  intro j hj
  obtain ⟨q1, q2, q3⟩ := h.2.1 j hj
  rw [h15, h107]
  refine ⟨q1, q2, fun q => (q3 q).to (fun q' _ => by rw [hc _ (by omega) (by omega)]) (fun k q' hk _ => ?_) (fun k _ => by rw [hc _ (by omega) (by omega)]) (fun r hr => h1 r (j + 1) hr (by omega)) (fun r k r1 r2 hk => h2 r _ r1 r2 (by omega))⟩
  have := (q3 q).2.1
  rw [hc _ (by omega) (by omega)]
/-- one lane of the net that is has changed -/
theorem zNt.mod {M M2 : MM} {k : Nat} (h : zNt M 1 0) (h0 : M2 1 = M 1) (h13 : M2 13 = M 13) (h1 : ∀ r, r = 85 ∨ r = 86 ∨ r = 95 → M2 r 0 = M r 0) (hl : ∀ i, i < 10 → i ≠ k → M2 (3 + i) = M (3 + i)) (hr : ∀ r i, 87 ≤ r → r ≤ 94 → i < 10 → i ≠ k → M2 r i = M r i) (hk : zLn M2 (3 + k) 0 k) : zNt M2 1 0 := by
  obtain ⟨a1, a2, a3, a4, ⟨N, n1, n2, n3⟩, a6⟩ := h
  have e5 := h1 85 (by decide)
  have e6 := h1 86 (by decide)
  refine ⟨by rw [e5]; exact a1, by rw [e6]; exact a2, by rw [e5, e6, h0]; exact a3, fun i hi => ?_, ⟨N, n1, by rw [h0]; exact n2, fun i hi => ?_⟩, by rw [h1 95 (by decide)]; exact a6⟩
  · rw [e6] at hi
    by_cases c : i = k
    · subst c
      rw [show 1 + 2 + i = 3 + i by omega, show 10 * 0 + i = i by omega]
      exact hk
    · refine (a4 i hi).to (fun q hq => ?_) e5 (fun r r1 r2 => ?_)
      · rw [show 1 + 2 + i = 3 + i by omega, hl i (by omega) c]
      · rw [show 10 * 0 + i = i by omega]
        exact hr r i r1 r2 (by omega) c
  · rw [e6]
    show 0 ≤ M2 13 i ∧ M2 13 i < M 86 0
    rw [h13]
    exact n3 i hi
theorem zSM.ln {M : MM} (h : zSM M) {k : Nat} (hk : (k : Int) < M 86 0) : zLn M (3 + k) 0 k := by
  have q := h.1.2.2.2.1 k hk
  rw [show 1 + 2 + k = 3 + k by omega, show 10 * 0 + k = k by omega] at q
  exact q
section ZSP
variable {M M1 M2 : MM} {z z2 : Int}
theorem zs_room {k r : Int} (h : zSM M) (h1 : pc_room k r M z M1) (h2 : pr_room k r M1 z2 M2) : z = z2 ∧ zSM M2 := by
  have e1 := h.qn.2.1
  have hL := h.wm.2.1
  rcases h1 with ⟨a1, a2, rfl⟩ | ⟨a1, a2, rfl⟩
  · rcases h2 with ⟨b1, b2, b3, b4, b5, -⟩ | ⟨b1, b2, rfl⟩
    · omega
    · exact ⟨by omega, h.quiet (fun _ _ => rfl) h.2.2.1 (fun c hc => up2_ne _ _ _ _ (by omega)) (h.2.2.2.up (by decide) (by decide) _)⟩
  · have e86 : up2 M (3 + k.toNat) 2 r 86 0 = M 86 0 := by rw [up2_ne _ _ _ _ (by omega)]
    rcases h2 with ⟨b1, b2, b3, b4, b5, rfl⟩ | ⟨b1, b2, -⟩
    · have hc : ∀ c, c ≠ 3 + k.toNat → c ≠ 84 → c ≠ 89 → up2 (up2 (up2 M (3 + k.toNat) 2 r) 84 0 0) 89 k.toNat r c = M c := fun c c1 c2 c3 => by rw [up2_ne _ _ _ _ c3, up2_ne _ _ _ _ c2, up2_ne _ _ _ _ c1]
      have h89 : ∀ i, up2 (up2 (up2 M (3 + k.toNat) 2 r) 84 0 0) 89 k.toNat r 89 i = if i = k.toNat then r else M 89 i := fun i => by rw [up2_in, up2_ne _ _ _ _ (show (89 : Nat) ≠ 84 by decide), up2_ne _ _ _ _ (show (89 : Nat) ≠ 3 + k.toNat by omega)]
      have hk3 : ∀ i, up2 (up2 (up2 M (3 + k.toNat) 2 r) 84 0 0) 89 k.toNat r (3 + k.toNat) i = if i = 2 then r else M (3 + k.toNat) i := fun i => by rw [up2_ne _ _ _ _ (show 3 + k.toNat ≠ 89 by omega), up2_ne _ _ _ _ (show 3 + k.toNat ≠ 84 by omega), up2_in]
      refine ⟨by omega, h.1.mod (k := k.toNat) (hc 1 (by omega) (by decide) (by decide)) (hc 13 (by omega) (by decide) (by decide)) (fun q hq => by rw [hc q (by omega) (by omega) (by omega)]) (fun i hi hne => hc _ (by omega) (by omega) (by omega)) (fun q i q1 q2 hi hne => ?_) ?_, h.imk (fun c c1 c2 => hc c (by omega) (by omega) (by omega)) (hc 15 (by omega) (by decide) (by decide)) (hc 107 (by omega) (by decide) (by decide)) (fun q s hq _ => by rw [hc q (by omega) (by omega) (by omega)]) (fun q x q1 q2 hx => ?_), ?_, ?_⟩
      · by_cases c : q = 89
        · subst c; rw [h89, if_neg hne]
        · rw [hc q (by omega) (by omega) c]
      · have l := h.ln (k := k.toNat) (by omega)
        unfold zLn at l ⊢
        rw [h89, hk3, hk3, hk3, hk3, hk3, hk3, hk3, hk3, if_pos rfl, if_neg (by decide), if_neg (by decide), if_pos rfl, if_neg (by decide), if_neg (by decide), if_neg (by decide), if_neg (by decide), if_neg (by decide), hc 85 (by omega) (by decide) (by decide), hc 87 (by omega) (by decide) (by decide), hc 88 (by omega) (by decide) (by decide), hc 90 (by omega) (by decide) (by decide), hc 91 (by omega) (by decide) (by decide), hc 92 (by omega) (by decide) (by decide), hc 93 (by omega) (by decide) (by decide), hc 94 (by omega) (by decide) (by decide)]
        omega
      · by_cases c : q = 89
        · subst c; rw [h89, if_neg (by omega)]
        · rw [hc q (by omega) (by omega) c]
      · have := h.2.2.1
        unfold zZ at this ⊢
        rw [hc 41 (by omega) (by decide) (by decide), hc 21 (by omega) (by decide) (by decide)]
        exact this
      · refine BB.up (M := up2 M (3 + k.toNat) 2 r) ?_ (by decide) (by decide) _
        have := h.2.2.2
        unfold BB at this ⊢
        rw [up2_ne _ _ _ _ (by omega)]
        exact this
    · omega
end ZSP
