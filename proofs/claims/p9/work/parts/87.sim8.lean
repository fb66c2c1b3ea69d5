/-! the row at hand, alike -/
def zHd (M : MM) (b s : Nat) : Prop := M b 4 = M 95 s ∧ ∀ k : Nat, (k : Int) < M 95 s → M (b + 12) k = M 96 (5 * s + k)
def zS1 (M : MM) : Prop := zSM M ∧ zHd M 1 0 ∧ ∀ j, j < 3 → M 107 j ≠ 0 → zHd M (45 + 13 * j) (j + 1)
theorem zHd.to {M M' : MM} {b b' s s' : Nat} (h : zHd M b s) (h4 : M 95 s ≤ 4) (e4 : M' b' 4 = M b 4) (e12 : ∀ k, k < 4 → M' (b' + 12) k = M (b + 12) k) (e95 : M' 95 s' = M 95 s) (e96 : ∀ k, k < 5 → M' 96 (5 * s' + k) = M 96 (5 * s + k)) : zHd M' b' s' := by
  refine ⟨by rw [e4, e95]; exact h.1, fun k hk => ?_⟩
  rw [e95] at hk
  rw [e12 k (by omega), e96 k (by omega)]
  exact h.2 k hk
theorem zNt.h4 {M : MM} {b s : Nat} (h : zNt M b s) (hd : zHd M b s) : M 95 s ≤ 4 := by
  obtain ⟨N, n1, n2, -⟩ := h.2.2.2.2.1
  have := hd.1
  omega
def zHq (M M2 : MM) : Prop := M2 1 4 = M 1 4 ∧ M2 13 = M 13 ∧ M2 95 = M 95 ∧ M2 96 = M 96 ∧ M2 107 = M 107 ∧ ∀ c, 45 ≤ c → c < 84 → M2 c = M c
theorem zS1.quiet {M M2 : MM} (h : zS1 M) (hs : zSM M2) (hq : zHq M M2) : zS1 M2 := by
  obtain ⟨q1, q2, q3, q4, q5, q6⟩ := hq
  refine ⟨hs, ?_, fun j hj q => ?_⟩
  · have hd := h.2.1
    refine ⟨by rw [q1, q3]; exact hd.1, fun k hk => ?_⟩
    show M2 13 k = M2 96 (5 * 0 + k)
    rw [q2, q4]
    rw [q3] at hk
    exact hd.2 k hk
  · rw [q5] at q
    have hd := h.2.2 j hj q
    unfold zHd at hd ⊢
    rw [q6 (45 + 13 * j) (by omega) (by omega), q6 (45 + 13 * j + 12) (by omega) (by omega), q3, q4]
    exact hd
theorem zHq.of {M M1 M2 : MM} (hf : zFr M M1) (h1 : M1 1 4 = M 1 4 ∧ M1 13 = M 13 ∧ ∀ c, 45 ≤ c → c < 84 → M1 c = M c) (h2 : ∀ c, c < 84 ∨ c = 95 ∨ c = 96 ∨ c = 107 → M2 c = M1 c) : zHq M M2 := by
  obtain ⟨a, b, c⟩ := h1
  exact ⟨by rw [h2 1 (by decide)]; exact a, by rw [h2 13 (by decide)]; exact b, by rw [h2 95 (by decide), hf 95 (by decide)], by rw [h2 96 (by decide), hf 96 (by decide)], by rw [h2 107 (by decide), hf 107 (by decide)], fun q q1 q2 => by rw [h2 q (by omega)]; exact c q q1 q2⟩
theorem zc_rf {M : MM} : M 1 4 = M 1 4 ∧ M 13 = M 13 ∧ ∀ c, 45 ≤ c → c < 84 → M c = M c := ⟨rfl, rfl, fun _ _ _ => rfl⟩
theorem zr_84 {M : MM} (j : Nat) (x : Int) : ∀ c, c < 84 ∨ c = 95 ∨ c = 96 ∨ c = 107 → up2 M 84 j x c = M c := fun c hc => up2_ne _ _ _ _ (by omega)
section ZH
variable {M M1 M2 : MM} {z z2 : Int}
theorem zu_tell {k w : Int} (h : zS1 M) (h1 : pc_tell k w M z M1) (h2 : pr_tell k w M1 z2 M2) : z = z2 ∧ zS1 M2 := by
  have hs := zs_tell h.1 h1 h2
  refine ⟨hs.1, h.quiet hs.2 (zHq.of (zf_tell h1) (by rw [h1.1]; exact zc_rf) ?_)⟩
  rcases h2 with ⟨-, -, rfl⟩ | ⟨-, rfl, -⟩ | ⟨-, rfl, -⟩
  · exact zr_84 _ _
  · exact zr_84 _ _
  · intro c hc
    rw [zr_84 _ _ c hc, zr_84 _ _ c hc, zr_84 _ _ c hc]
theorem zc_co (h : zCO M M1) : M1 1 4 = M 1 4 ∧ M1 13 = M 13 ∧ ∀ c, 45 ≤ c → c < 84 → M1 c = M c := ⟨by rw [h.1 1 (by decide)], h.1 13 (by decide), fun c c1 c2 => h.1 c (by omega)⟩
theorem zr_fo (h : FO M1 M2) : ∀ c, c < 84 ∨ c = 95 ∨ c = 96 ∨ c = 107 → M2 c = M1 c := fun c hc => h.1 c (by omega) (by omega)
theorem zu_most {w b : Int} (h : zS1 M) (h1 : pc_most w b M z M1) (h2 : pr_most w b M1 z2 M2) : zS1 M2 := by
  refine h.quiet (zs_most h.1 h1 h2) (zHq.of (zf_most h1) ?_ (zr_fo h2.1))
  rcases h1 with ⟨-, -, rfl⟩ | ⟨-, s, u, L, -, -, hco⟩
  · exact zc_rf
  · exact zc_co hco
theorem zu_more {k r b : Int} (h : zS1 M) (h1 : pc_more k r b M z M1) (h2 : pr_more k r b M1 z2 M2) : zS1 M2 := by
  refine h.quiet (zs_more h.1 h1 h2) (zHq.of (zf_more h1) ?_ (zr_fo h2.1))
  rcases h1 with ⟨-, -, rfl⟩ | ⟨-, s, u, s2, u2, L, L2, Mx, -, -, -, -, hco⟩
  · exact zc_rf
  · exact zc_co hco
theorem zu_row {k : Int} (h : zS1 M) (h1 : pc_row k M z M1) (h2 : pr_row k M1 z2 M2) : z = z2 ∧ zS1 M2 := by
  have hs := zs_row h.1 h1 h2
  have hd := h.2.1
  have h4 := h.1.1.h4 hd
  obtain ⟨rfl, h1⟩ := h1
  obtain ⟨rfl, h2⟩ := h2
  refine ⟨?_, h.quiet hs (zHq.of (zFr.rf _) zc_rf (zr_84 _ _))⟩
  have e4 : M1 1 4 = M1 95 0 := hd.1
  by_cases hk : 0 ≤ k ∧ k < M1 95 0
  · have e13 : M1 13 k.toNat = M1 96 k.toNat := by
      have := hd.2 k.toNat (by omega)
      rw [show 5 * 0 + k.toNat = k.toNat by omega] at this
      exact this
    omega
  · omega
theorem zu_gain {b : Int} {N : Nat} (h : zS1 M) (h1 : pc_gain b N M z M1) (h2 : pr_gain b M1 z2 M2) : zS1 M2 := by
  refine h.quiet (zs_gain h.1 h1 h2) (zHq.of (zf_gain h1) ?_ (by rw [h2.1]; exact zr_84 _ _))
  rcases h1 with ⟨-, -, rfl⟩ | ⟨-, rfl, -⟩
  · exact zc_rf
  · exact ⟨rfl, rfl, fun c c1 c2 => by rw [up2_ne _ _ _ _ (by omega), up2_ne _ _ _ _ (by omega)]⟩
theorem zu_right (h : zS1 M) (h1 : pc_right M z M1) (h2 : pr_right M1 z2 M2) : z = z2 ∧ zS1 M2 := by
  have hs := zs_right h.1 h1 h2
  exact ⟨hs.1, h.quiet hs.2 (zHq.of (zf_right h1) (by rw [h1.1]; exact zc_rf) (by rw [h2.1]; exact zr_84 _ _))⟩
theorem zu_left {v b : Int} (h : zS1 M) (h1 : pc_left v b M z M1) (h2 : pr_left v b M1 z2 M2) : z = z2 ∧ zS1 M2 := by
  have hs := zs_left h.1 h1 h2
  refine ⟨hs.1, h.quiet hs.2 (zHq.of (zf_left h1) ?_ ?_)⟩
  · rcases h1 with ⟨-, -, rfl⟩ | ⟨-, s, -, rfl, -⟩
    · exact zc_rf
    · exact ⟨rfl, rfl, fun c c1 c2 => by rw [up2_ne _ _ _ _ (by omega), up2_ne _ _ _ _ (by omega)]⟩
  · rcases h2 with ⟨-, -, rfl⟩ | ⟨-, s, -, rfl, -⟩
    · exact zr_84 _ _
    · intro c hc
      rw [zr_84 _ _ c hc, zr_84 _ _ c hc, zr_84 _ _ c hc]
theorem zu_room {k r : Int} (h : zS1 M) (h1 : pc_room k r M z M1) (h2 : pr_room k r M1 z2 M2) : z = z2 ∧ zS1 M2 := by
  have hs := zs_room h.1 h1 h2
  have hL := h.1.cw.2.1
  refine ⟨hs.1, h.quiet hs.2 (zHq.of (zf_room hL h1) ?_ ?_)⟩
  · rcases h1 with ⟨-, -, rfl⟩ | ⟨-, hc, rfl⟩
    · exact zc_rf
    · exact ⟨by rw [up2_ne _ _ _ _ (by omega)], up2_ne _ _ _ _ (by omega), fun c c1 c2 => up2_ne _ _ _ _ (by omega)⟩
  · rcases h2 with ⟨-, -, -, -, -, rfl⟩ | ⟨-, -, rfl⟩
    · exact fun c hc => by rw [up2_ne _ _ _ _ (by omega), up2_ne _ _ _ _ (by omega)]
    · exact zr_84 _ _
theorem zu_share {k p q d : Int} (h : zS1 M) (h1 : pc_share k p q d M z M1) (h2 : pr_share k p q d M1 z2 M2) : z = z2 ∧ zS1 M2 := by
  have hs := zs_share h.1 h1 h2
  have hL := h.1.cw.2.1
  refine ⟨hs.1, h.quiet hs.2 (zHq.of (zf_share hL h1) ?_ ?_)⟩
  · rcases h1 with ⟨-, -, rfl⟩ | ⟨-, hc, rfl⟩
    · exact zc_rf
    · exact ⟨by rw [up2_ne _ _ _ _ (by omega), up2_ne _ _ _ _ (by omega), up2_ne _ _ _ _ (by omega)], by rw [up2_ne _ _ _ _ (by omega), up2_ne _ _ _ _ (by omega), up2_ne _ _ _ _ (by omega)], fun c c1 c2 => by rw [up2_ne _ _ _ _ (by omega), up2_ne _ _ _ _ (by omega), up2_ne _ _ _ _ (by omega)]⟩
  · rcases h2 with ⟨-, -, rfl⟩ | ⟨-, -, rfl⟩
    · exact fun c hc => by rw [up2_ne _ _ _ _ (by omega), up2_ne _ _ _ _ (by omega), up2_ne _ _ _ _ (by omega), up2_ne _ _ _ _ (by omega)]
    · exact zr_84 _ _
theorem zu_send {k u v : Int} (h : zS1 M) (h1 : pc_send k u v M z M1) (h2 : pr_send k u v M1 z2 M2) : z = z2 ∧ zS1 M2 := by
  have hs := zs_send h.1 h1 h2
  have hL := h.1.cw.2.1
  refine ⟨hs.1, h.quiet hs.2 (zHq.of (zf_send hL h1) ?_ ?_)⟩
  · rcases h1 with ⟨-, -, rfl⟩ | ⟨-, hc, rfl⟩
    · exact zc_rf
    · exact ⟨by rw [up2_ne _ _ _ _ (by omega), up2_ne _ _ _ _ (by omega), up2_ne _ _ _ _ (by omega), up2_ne _ _ _ _ (by omega)], by rw [up2_ne _ _ _ _ (by omega), up2_ne _ _ _ _ (by omega), up2_ne _ _ _ _ (by omega), up2_ne _ _ _ _ (by omega)], fun c c1 c2 => by rw [up2_ne _ _ _ _ (by omega), up2_ne _ _ _ _ (by omega), up2_ne _ _ _ _ (by omega), up2_ne _ _ _ _ (by omega)]⟩
  · rcases h2 with ⟨-, -, rfl⟩ | ⟨-, -, rfl⟩
    · exact fun c hc => by rw [up2_ne _ _ _ _ (by omega), up2_ne _ _ _ _ (by omega), up2_ne _ _ _ _ (by omega)]
    · exact zr_84 _ _
theorem zu_lane {f t r p q : Int} (h : zS1 M) (h1 : pc_lane f t r p q M z M1) (h2 : pr_lane f t r p q M1 z2 M2) : z = z2 ∧ zS1 M2 := by
  have hs := zs_lane h.1 h1 h2
  have hL := h.1.cw.2.1
  refine ⟨hs.1, h.quiet hs.2 (zHq.of (zf_lane hL h1) ?_ ?_)⟩
  · rcases h1 with ⟨-, -, rfl⟩ | ⟨hc, -, rfl⟩
    · exact zc_rf
    · have g : ∀ c, c ≠ 3 + (M 1 1).toNat → (up2 (up2 (up2 (up2 (up2 (up2 (up2 (up2 M (3 + (M 1 1).toNat) 0 f) (3 + (M 1 1).toNat) 1 t) (3 + (M 1 1).toNat) 2 r) (3 + (M 1 1).toNat) 3 p) (3 + (M 1 1).toNat) 4 q) (3 + (M 1 1).toNat) 5 0) (3 + (M 1 1).toNat) 6 0) (3 + (M 1 1).toNat) 7 1) c = M c := fun c c1 => by rw [up2_ne _ _ _ _ c1, up2_ne _ _ _ _ c1, up2_ne _ _ _ _ c1, up2_ne _ _ _ _ c1, up2_ne _ _ _ _ c1, up2_ne _ _ _ _ c1, up2_ne _ _ _ _ c1, up2_ne _ _ _ _ c1]
      exact ⟨by rw [up2_in, if_neg (by decide), g 1 (by omega)], by rw [up2_ne _ _ _ _ (by decide), g 13 (by omega)], fun c c1 c2 => by rw [up2_ne _ _ _ _ (by omega), g c (by omega)]⟩
  · rcases h2 with ⟨-, -, rfl⟩ | ⟨-, -, rfl⟩
    · exact fun c hc => by rw [up2_ne _ _ _ _ (by omega), up2_ne _ _ _ _ (by omega), up2_ne _ _ _ _ (by omega), up2_ne _ _ _ _ (by omega), up2_ne _ _ _ _ (by omega), up2_ne _ _ _ _ (by omega), up2_ne _ _ _ _ (by omega), up2_ne _ _ _ _ (by omega), up2_ne _ _ _ _ (by omega), up2_ne _ _ _ _ (by omega)]
    · exact zr_84 _ _
theorem zu_count {w : Int} (h : zS1 M) (h1 : pc_count w M z M1) (h2 : pr_count w M1 z2 M2) : z = z2 ∧ zS1 M2 := by
  have hW := h.1.cw
  have hf := zf_count hW h1
  have hrb := h.1.rb hf
  have hg := frM_keep (M := up2 M1 84 0 0) hrb.1 (hrb.2.1.up (by decide) (by decide) _)
  have hr := zw_rg (A := M) (B := up2 M1 84 0 0) h.1 (fun c hc c1 => rfl) rfl rfl (fun c c1 c2 => by rw [up2_ne _ _ _ _ (by omega), hf c (by omega)])
  have e85 : M1 85 0 = M 85 0 := by rw [hf 85 (by decide)]
  have e86 : M1 86 0 = M 86 0 := by rw [hf 86 (by decide)]
  have e95 : M1 95 0 = M 95 0 := by rw [hf 95 (by decide)]
  have q0 := h.1.qn.1
  have q1 := h.1.qn.2.1
  have q4 := h.2.1.1
  refine ⟨?_, h.quiet (zs_count h.1 h1 h2) (zHq.of hf ?_ ?_)⟩
  · obtain ⟨-, -, -, r7, r8⟩ := hr
    unfold pc_count at h1
    unfold pr_count at h2
    omega
  · have hq : zqR M 1 4 = M 1 4 ∧ zqR M 13 = M 13 ∧ ∀ c, 45 ≤ c → c < 84 → zqR M c = M c := ⟨by rw [zqR_ne hW (by decide)], zqR_ne hW (by decide), fun c c1 c2 => zqR_ne hW (by omega)⟩
    rcases h1 with ⟨-, -, rfl⟩ | ⟨-, -, rfl⟩ | ⟨-, -, rfl⟩ | ⟨-, -, rfl⟩ | ⟨-, -, rfl⟩ | ⟨-, -, rfl⟩
    · exact zc_rf
    · exact zc_rf
    · exact hq
    · exact hq
    · exact zc_rf
    · exact zc_rf
  · have hq : ∀ c, c < 84 ∨ c = 95 ∨ c = 96 ∨ c = 107 → frM (up2 M1 84 0 0) c = M1 c := fun c hc => (zq_gi (M1 := M1) (fun c hc => by rw [up2_ne _ _ _ _ hc, up2_ne _ _ _ _ hc, up2_ne _ _ _ _ hc, up2_ne _ _ _ _ hc]) hg).1 c (by omega)
    rcases h2 with ⟨-, -, rfl⟩ | ⟨-, -, rfl⟩ | ⟨-, -, rfl⟩ | ⟨-, -, rfl⟩ | ⟨-, -, rfl⟩ | ⟨-, -, rfl⟩
    · exact zr_84 _ _
    · exact zr_84 _ _
    · exact hq
    · exact hq
    · exact zr_84 _ _
    · exact zr_84 _ _
theorem zu_posts {n : Int} (h : zS1 M) (h1 : pc_posts n M z M1) (h2 : pr_posts n M1 z2 M2) : z = z2 ∧ zS1 M2 := by
  have hs := zs_posts h.1 h1 h2
  refine ⟨hs.1, ?_⟩
  rcases h1 with ⟨a1, a2, rfl⟩ | ⟨a1, a2, rfl⟩
  · rcases h2 with ⟨b1, b2, b3, -⟩ | ⟨b1, b2, rfl⟩
    · omega
    · exact h.quiet hs.2 (zHq.of (zFr.rf _) zc_rf (zr_84 _ _))
  · rcases h2 with ⟨b1, b2, b3, rfl⟩ | ⟨b1, b2, -⟩
    · refine ⟨hs.2, ⟨rfl, fun k hk => ?_⟩, fun j hj q => ?_⟩
      · exfalso
        have : (k : Int) < 0 := hk
        omega
      · have q' : M 107 j ≠ 0 := q
        have hd := h.2.2 j hj q'
        have hN := ((h.1.2.1 j hj).2.2 q').h4 hd
        refine hd.to hN ?_ (fun k _ => ?_) ?_ (fun k _ => ?_)
        · simp only [up2_ne _ _ _ _ (show 45 + 13 * j ≠ 1 by omega), up2_ne _ _ _ _ (show 45 + 13 * j ≠ 84 by omega), up2_ne _ _ _ _ (show 45 + 13 * j ≠ 85 by omega), up2_ne _ _ _ _ (show 45 + 13 * j ≠ 86 by omega), up2_ne _ _ _ _ (show 45 + 13 * j ≠ 95 by omega)]
        · simp only [up2_ne _ _ _ _ (show 45 + 13 * j + 12 ≠ 1 by omega), up2_ne _ _ _ _ (show 45 + 13 * j + 12 ≠ 84 by omega), up2_ne _ _ _ _ (show 45 + 13 * j + 12 ≠ 85 by omega), up2_ne _ _ _ _ (show 45 + 13 * j + 12 ≠ 86 by omega), up2_ne _ _ _ _ (show 45 + 13 * j + 12 ≠ 95 by omega)]
        · show (if j + 1 = 0 then 0 else M 95 (j + 1)) = M 95 (j + 1)
          rw [if_neg (by omega)]
        · rfl
    · omega
/-- the row at hand is told anew by both -/
theorem zq_newh (h : zS1 M) (hs : zSM M2) (hf : zFr M M1) (hX : ∀ c, 45 ≤ c → c < 84 → M2 c = M c) (h107 : M2 107 = M 107) (h95 : ∀ j, 1 ≤ j → M2 95 j = M 95 j) (h96 : ∀ x, 5 ≤ x → M2 96 x = M 96 x) (hd : zHd M2 1 0) : zS1 M2 := by
  refine ⟨hs, hd, fun j hj q => ?_⟩
  rw [h107] at q
  have hd2 := h.2.2 j hj q
  have hN := ((h.1.2.1 j hj).2.2 q).h4 hd2
  exact hd2.to hN (by rw [hX _ (by omega) (by omega)]) (fun k _ => by rw [hX _ (by omega) (by omega)]) (h95 _ (by omega)) (fun k _ => h96 _ (by omega))
theorem zq_kp96 {Y : MM} (h5 : Y 84 27 ≤ 5) : (∀ x, 5 ≤ x → kpM Y 96 x = Y 96 x) ∧ ∀ k : Nat, (k : Int) < Y 84 27 → kpM Y 96 k = Y 106 k := by
  have e : ∀ x, kpM Y 96 x = if x < (Y 84 27).toNat then Y 106 x else Y 96 x := fun x => by
    unfold kpM
    rw [up2_ne _ _ _ _ (by decide), up2_ne _ _ _ _ (by decide), up2_ne _ _ _ _ (by decide), up2_ne _ _ _ _ (by decide)]
    rfl
  exact ⟨fun x hx => by rw [e, if_neg (by omega)], fun k hk => by rw [e, if_pos (by omega)]⟩
theorem zq_endh {X Y : MM} (hb : zBt X Y) (hg : (0 ≤ Y 84 27 ∧ Y 84 27 ≤ 5)) (hY : ∀ c, c = 95 ∨ c = 96 ∨ c = 107 → Y c = M1 c) (hYc : ∀ c, c < 84 → Y c = M1 c) (h4 : X 16 4 ≤ 4) (h1 : (X 16 4 = 0 ∧ M1 1 4 = 0) ∨ (X 16 4 ≠ 0 ∧ M1 = up2 (cp2 X 19 13 4) 1 4 (X 16 4))) (h2 : (Y 84 27 = 0 ∧ z2 = -1 ∧ M2 = up2 Y 95 0 (Y 84 27)) ∨ (Y 84 27 ≠ 0 ∧ z2 = Y 84 27 ∧ M2 = kpM Y)) : zHd M2 1 0 ∧ M2 107 = M1 107 ∧ (∀ j, 1 ≤ j → M2 95 j = M1 95 j) ∧ ∀ x, 5 ≤ x → M2 96 x = M1 96 x := by
  obtain ⟨b1, b2, b3, -⟩ := hb
  rcases h2 with ⟨c1, -, rfl⟩ | ⟨c1, -, rfl⟩
  · refine ⟨⟨?_, fun k hk => ?_⟩, ?_, fun j hj => ?_, fun x hx => ?_⟩
    · rw [up2_ne _ _ _ _ (by decide), hYc 1 (by decide), up2_self, c1]
      rcases h1 with ⟨-, q⟩ | ⟨q, -⟩
      · exact q
      · omega
    · rw [up2_self] at hk
      omega
    · rw [up2_ne _ _ _ _ (by decide)]; exact hY 107 (by decide)
    · rw [up2_in, if_neg (by omega), hY 95 (by decide)]
    · rw [up2_ne _ _ _ _ (by decide), hY 96 (by decide)]
  · obtain ⟨k1, k2, k3, k4⟩ := zq_kpM (M := Y)
    obtain ⟨m1, m2⟩ := zq_kp96 (Y := Y) hg.2
    have hM1 : M1 = up2 (cp2 X 19 13 4) 1 4 (X 16 4) := by
      rcases h1 with ⟨q, -⟩ | ⟨-, q⟩
      · omega
      · exact q
    refine ⟨⟨?_, fun k hk => ?_⟩, ?_, fun j hj => ?_, fun x hx => ?_⟩
    · rw [k1 1 (by decide), hYc 1 (by decide), k3, hM1, up2_self]; exact b1
    · rw [k3] at hk
      show kpM Y 13 k = kpM Y 96 (5 * 0 + k)
      rw [k1 13 (by decide), hYc 13 (by decide), show 5 * 0 + k = k by omega, m2 k hk, ← b3 k hk, hM1, up2_ne _ _ _ _ (by decide)]
      show (if k < 4 then X 19 k else _) = _
      rw [if_pos (by omega)]
    · rw [k1 107 (by decide)]; exact hY 107 (by decide)
    · rw [k2 j hj, hY 95 (by decide)]
    · rw [m1 x hx, hY 96 (by decide)]
end ZH
