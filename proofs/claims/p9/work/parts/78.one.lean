/-! the first call on fresh objects -/
def zP1 (M : MM) : Prop := M 1 0 = 2 ∧ M 1 1 = 0 ∧ M 1 4 = 0 ∧ zZ M ∧ (∀ j, j < 3 → M 15 j = 0) ∧ M 85 0 = 2 ∧ M 86 0 = 0 ∧ M 95 0 = 0 ∧ BB M ∧ ∀ j, j < 3 → M 107 j = 0
def zP1r (M : MM) : Prop := M 85 0 = 2 ∧ M 86 0 = 0 ∧ M 95 0 = 0 ∧ BB M ∧ ∀ j, j < 3 → M 107 j = 0
theorem zP1_I : zP1 mI := ⟨by decide +kernel, by decide +kernel, by decide +kernel, ⟨by decide +kernel, by decide +kernel⟩, by decide +kernel, by decide +kernel, by decide +kernel, by decide +kernel, ⟨by decide +kernel, by decide +kernel⟩, by decide +kernel⟩
theorem zP1.cw {M : MM} (h : zP1 M) : CW M := ⟨by rw [h.1]; decide, by rw [h.2.1]; decide, fun i hi => by rw [h.2.1] at hi; omega⟩
theorem zP1.r {M M1 : MM} (h : zP1 M) (hf : zFr M M1) : zP1r M1 := by
  obtain ⟨-, -, -, -, -, h1, h2, h3, h4, h5⟩ := h
  unfold zP1r BB
  rw [hf 85 (by decide), hf 86 (by decide), hf 95 (by decide), hf 84 (by decide), hf 107 (by decide)]
  exact ⟨h1, h2, h3, h4, h5⟩
theorem zP1r.wm {M : MM} (h : zP1r M) : WM M := ⟨by rw [h.1]; decide, by rw [h.2.1]; decide, fun i hi => by rw [h.2.1] at hi; omega⟩
theorem zq_k0 {f dp ps : Nat} {v : Int} {M : MM} (h : M 1 1 = 0) : zqk f v dp ps M = M := by
  cases f with
  | zero => rfl
  | succ f =>
    unfold zqk
    rw [h]
    rfl
theorem zq_F0 {M : MM} (h : M 1 1 = 0) (v t : Int) : zqF M v t 16 4 = 0 := by
  unfold zqF
  rw [zq_k0 (M := up2 (zqg M 0) 16 5 t) h]
  rfl
theorem zq_r0 : ∀ (c v : Nat) (M : MM), M 1 1 = 0 → ∀ j, j ≠ 5 → zqr c v M 16 j = M 16 j := by
  intro c
  induction c with
  | zero => intro v M h j hj; rfl
  | succ c ih =>
    intro v M h j hj
    show zqr c (v + 1) (zqk 4 (v : Int) 0 (2 ^ (v + 1) - 1) (up2 M 16 5 (v : Int))) 16 j = M 16 j
    rw [zq_k0 (M := up2 M 16 5 (v : Int)) h, ih (v + 1) (up2 M 16 5 (v : Int)) h j hj, up2_in, if_neg hj]
theorem zq_R0 {M : MM} (h : M 1 1 = 0) : zqR M 16 4 = 0 ∧ zqR M 16 7 = 0 ∧ zqR M 16 8 = 0 := by
  unfold zqR
  rw [zq_r0 _ _ (zqg M 1) h 4 (by decide), zq_r0 _ _ (zqg M 1) h 7 (by decide), zq_r0 _ _ (zqg M 1) h 8 (by decide)]
  exact ⟨rfl, rfl, rfl⟩
theorem zq_g0 {b e g : Int} {M : MM} (h : M 86 0 = 0) : goR b e g M = up2 (up2 M 105 0 (-1)) 105 0 0 := by
  unfold goR
  rw [h]
  rfl
theorem zq_w0 {M : MM} (h : M 86 0 = 0) (f t : Int) : wyM M f t 84 27 = 0 := by
  unfold wyM
  split
  · rw [zq_g0 (M := up2 (up2 M 84 0 0) 84 27 0) h]
    rfl
  · rfl
theorem zq_fg0 : ∀ (c v : Nat) (M : MM), M 86 0 = 0 → frg c v M 84 = M 84 := by
  intro c
  induction c with
  | zero => intro v M h; rfl
  | succ c ih =>
    intro v M h
    show frg c (v + 1) (goR (v : Int) (v : Int) 1 M) 84 = M 84
    rw [zq_g0 h, ih (v + 1) (up2 (up2 M 105 0 (-1)) 105 0 0) h]
    rfl
theorem zq_f0 {M : MM} (h : M 86 0 = 0) : frM M 84 27 = 0 ∧ frM M 84 30 = 0 ∧ frM M 84 31 = 0 := by
  unfold frM
  rw [zq_fg0 _ _ (up2 (up2 (up2 M 84 27 0) 84 30 0) 84 31 0) h]
  exact ⟨rfl, rfl, rfl⟩
theorem nU_z (x : Int) : nU 0 x = 0 := Int.zero_tdiv _
theorem nD_z {x : Int} (h : 0 < x) : nD 0 x = 1 := by
  unfold nD
  rw [Int.gcd_zero_left, show ((x.natAbs : Nat) : Int) = x by omega, Int.tdiv_self (by omega)]
section ZE1
variable {M M1 M2 : MM} {z z2 : Int}
theorem ze_posts {n : Int} (h : pc_posts n M z M1) (h2 : pr_posts n M1 z2 M2) : z = z2 := by
  unfold pc_posts at h
  unfold pr_posts at h2
  omega
theorem ze_lane {f t r p q : Int} (hP : zP1 M) (hR : zP1r M1) (h : pc_lane f t r p q M z M1) (h2 : pr_lane f t r p q M1 z2 M2) : z = z2 := by
  unfold pc_lane at h
  unfold pr_lane at h2
  rw [hP.1, hP.2.1] at h
  rw [hR.1, hR.2.1] at h2
  omega
theorem ze_room {k r : Int} (hP : zP1 M) (hR : zP1r M1) (h : pc_room k r M z M1) (h2 : pr_room k r M1 z2 M2) : z = z2 := by
  unfold pc_room at h
  unfold pr_room at h2
  rw [hP.2.1] at h
  rw [hR.2.1] at h2
  omega
theorem ze_share {k p q d : Int} (hP : zP1 M) (hR : zP1r M1) (h : pc_share k p q d M z M1) (h2 : pr_share k p q d M1 z2 M2) : z = z2 := by
  unfold pc_share at h
  unfold pr_share at h2
  rw [hP.2.1] at h
  rw [hR.2.1] at h2
  omega
theorem ze_tell {k w : Int} (hP : zP1 M) (hR : zP1r M1) (h : pc_tell k w M z M1) (h2 : pr_tell k w M1 z2 M2) : z = z2 := by
  unfold pc_tell at h
  unfold pr_tell at h2
  rw [hP.2.1] at h
  rw [hR.2.1] at h2
  omega
theorem ze_more {k r b : Int} (hP : zP1 M) (hR : zP1r M1) (h : pc_more k r b M z M1) (h2 : pr_more k r b M1 z2 M2) : z = z2 := by
  rcases h with ⟨h0, h1, -⟩ | ⟨h0, -⟩
  · rw [h1, h2.2 (by rw [hR.2.1]; omega)]
  · rw [hP.2.1] at h0; omega
theorem ze_way {f t : Int} (hP : zP1 M) (hR : zP1r M1) (h : pc_way f t M z M1) (h2 : pr_way f t M1 z2 M2) : z = z2 := by
  have e1 := zq_F0 (M := up2 M 1 4 0) hP.2.1 f t
  have e2 := zq_w0 hR.2.1 f t
  unfold pc_way at h
  unfold pr_way at h2
  omega
theorem ze_ring (hP : zP1 M) (hR : zP1r M1) (h : pc_ring M z M1) (h2 : pr_ring M1 z2 M2) : z = z2 := by
  have e1 := zq_R0 (M := up2 M 1 4 0) hP.2.1
  have e2 := zq_f0 (M := up2 M1 84 0 0) hR.2.1
  unfold pc_ring at h
  unfold pr_ring at h2
  omega
theorem ze_row {k : Int} (hP : zP1 M) (hR : zP1r M1) (h : pc_row k M z M1) (h2 : pr_row k M1 z2 M2) : z = z2 := by
  unfold pc_row at h
  unfold pr_row at h2
  rw [hP.2.2.1] at h
  rw [hR.2.2.1] at h2
  omega
theorem ze_gain {b : Int} (hR : zP1r M1) (h : pc_gain b 0 M z M1) (h2 : pr_gain b M1 z2 M2) : z = z2 := by
  unfold pc_gain at h
  unfold pr_gain at h2
  rw [hR.2.2.1] at h2
  omega
theorem ze_send {k u v : Int} (hP : zP1 M) (hR : zP1r M1) (h : pc_send k u v M z M1) (h2 : pr_send k u v M1 z2 M2) : z = z2 := by
  unfold pc_send at h
  unfold pr_send at h2
  rw [hP.2.1] at h
  rw [hR.2.1] at h2
  omega
theorem ze_right (hP : zP1 M) (hR : zP1r M1) (h : pc_right M z M1) (h2 : pr_right M1 z2 M2) : z = z2 := by
  have e1 : RGc M := ⟨fun i hi => by rw [hP.2.1] at hi; omega, fun v h1 h2 => by rw [hP.1] at h2; omega⟩
  have e2 : RG M1 := ⟨fun i hi => by rw [hR.2.1] at hi; omega, fun v h1 h2 => by rw [hR.1] at h2; omega⟩
  rcases h.2 with q | q
  · rcases h2.2 with r | r
    · rw [q.1, r.1]
    · exact absurd e2 r.2
  · exact absurd e1 q.2
theorem ze_left {v b : Int} (hP : zP1 M) (hR : zP1r M1) (h : pc_left v b M z M1) (h2 : pr_left v b M1 z2 M2) : z = z2 := by
  have e1 : ∀ f : Nat → Int, sumZ f (M 1 1).toNat = 0 := fun f => by rw [hP.2.1]; rfl
  have e2 : ∀ f : Nat → Int, sumZ f (M1 86 0).toNat = 0 := fun f => by rw [hR.2.1]; rfl
  rcases h with ⟨a1, a2, -⟩ | ⟨a1, s, a2, -, a3⟩
  · rcases h2 with ⟨b1, b2, -⟩ | ⟨b1, -⟩
    · rw [a2, b2]
    · rw [hP.1] at a1; rw [hR.1] at b1; omega
  · rcases h2 with ⟨b1, b2, -⟩ | ⟨b1, s2, b2, -, b3⟩
    · rw [hP.1] at a1; rw [hR.1] at b1; omega
    · rw [e1] at a2
      rw [e2, e2, e2] at b2
      have es : s = s2 := by omega
      subst es
      omega
theorem ze_count {w : Int} (hP : zP1 M) (hR : zP1r M1) (h : pc_count w M z M1) (h2 : pr_count w M1 z2 M2) : z = z2 := by
  have e1 := zq_R0 (M := M) hP.2.1
  have e2 := zq_f0 (M := up2 M1 84 0 0) hR.2.1
  unfold pc_count at h
  unfold pr_count at h2
  rw [hP.1, hP.2.1, hP.2.2.1] at h
  rw [hR.1, hR.2.1, hR.2.2.1] at h2
  omega
theorem ze_image {k : Int} (h : pc_image k M z M1) (h2 : pr_image k M1 z2 M2) : z = z2 := by
  unfold pc_image at h
  unfold pr_image at h2
  omega
theorem ze_again {k : Int} (hP : zP1 M) (hR : zP1r M1) (h : pc_again k M z M1) (h2 : pr_again k M1 z2 M2) : z = z2 := by
  have e1 : 0 ≤ k ∧ k ≤ 2 → M 15 k.toNat = 0 := fun q => hP.2.2.2.2.1 _ (by omega)
  have e2 : 0 ≤ k ∧ k ≤ 2 → M1 107 k.toNat = 0 := fun q => hR.2.2.2.2 _ (by omega)
  unfold pc_again at h
  unfold pr_again at h2
  omega
/-- with no lane told, nothing can arrive -/
def zN0 (M : MM) : Prop := M 84 23 = 0 ∧ M 84 24 = 1
theorem zq_most0 {w : Int} (hR : zP1r M) (hw : 0 ≤ w ∧ w ≤ 2) (G : GG) (l : Launch) : CMv G l yX5_findMost cX5_findMost 3 none 4 [.ref 84] (ssK (up2 M 84 0 0) w (M 86 0).toNat) (fun M' => FM (ssK (up2 M 84 0 0) w (M 86 0).toNat) M' ∧ MB M' ∧ zN0 M') := by
  refine c_X5_findMostJ G l _ (((FO.rf0 M).ss w _).wm hR.wm) (ssK_shk (M := up2 M 84 0 0) hR.wm hw) (fun X s => s = 1 → zN0 X) zN0 (fun q => absurd q (by decide)) (fun X s M' s' hj hJ hst z2 M2 hz => ?_)
  obtain ⟨hwm, hc, hf, h0, hs, hn⟩ := hj
  have h86 : X 86 0 = 0 := by rw [hf.at (c := 86) (by decide) (by decide) (by decide) (by decide)]; exact hR.2.1
  have key : zN0 M' := by
    rcases hst with ⟨h1, h2, h3⟩ | ⟨X1, Q, u, d, hok, hI, hq, hu, hd, h | h⟩
    · have hs1 : s = 1 := by
        rcases h0 with c | c
        · exact absurd ⟨_, fpOk_none hwm (hn c)⟩ h1
        · exact c
      have := hJ hs1
      unfold zN0 at this ⊢
      rw [h2.2 23 (by decide) (by decide), h2.2 24 (by decide) (by decide)]
      exact this
    · obtain ⟨-, rfl, -⟩ := h
      have e86 : X1 86 0 = 0 := by rw [hI.1.at (c := 86) (by decide) (by decide) (by decide)]; exact h86
      rw [e86] at hu hd
      have hQ := hq.1
      exact ⟨hu.trans (nU_z _), hd.trans (nD_z (by omega))⟩
    · obtain ⟨c1, -, rfl, -⟩ := h
      have := hJ (by omega)
      unfold zN0 at this ⊢
      rw [show w2 X1 u d 84 23 = X 84 23 from hI.1.2 23 (by decide) (by decide), show w2 X1 u d 84 24 = X 84 24 from hI.1.2 24 (by decide) (by decide)]
      exact this
  have e2 : M2 = (ncR ((M' 85 0).toNat - 2) 1 M').2 := congrArg Prod.snd hz
  have e84 : M2 84 = M' 84 := by rw [e2]; exact ncR_ne _ _ _ _ (by decide)
  have k2 : zN0 M2 := by unfold zN0 at key ⊢; rw [e84]; exact key
  exact ⟨fun _ => k2, fun _ _ => k2⟩
theorem ze_most {w b : Int} (hP : zP1 M) (h : pc_most w b M z M1) (h2 : FO M1 M2 ∧ (((w < 0 ∨ 2 < w) ∧ z2 = -1) ∨ ((0 ≤ w ∧ w ≤ 2) ∧ ∃ X : MM, zN0 X ∧ MB X ∧ ((b ≠ 0 ∧ z2 = X 84 24) ∨ (b = 0 ∧ z2 = X 84 23))))) : z = z2 := by
  rcases h with ⟨a1, a2, -⟩ | ⟨a1, s, u, L, hle, a2, -⟩
  · rcases h2.2 with ⟨b1, b2⟩ | ⟨b1, -⟩
    · rw [a2, b2]
    · omega
  · rcases h2.2 with ⟨b1, b2⟩ | ⟨b1, X, x1, -, b2⟩
    · omega
    · obtain ⟨hB, hL, hI, hu, -⟩ := hle
      obtain ⟨a, b3, c, -, -, hs, -⟩ := (hI.2.2.2 (by omega)).1
      have e5 : L 21 5 = 0 := by
        rw [hB.1.2 5 (by decide), up2_in, if_neg (by decide), zLo_5]
        exact hP.2.1
      have es : s = 0 := by
        rw [hs]
        unfold zSn
        rw [e5]
        rfl
      subst es
      rw [nU_z, nD_z (by omega)] at a2
      unfold zN0 at x1
      omega
end ZE1
