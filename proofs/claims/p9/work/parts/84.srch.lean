/-! both searches, step by step -/
def zSt (fr tt pp qq : Nat → Int) (L : Nat) (X Y : MM) : Prop := L ≤ 10 ∧ (X 1 1 = (L : Int) ∧ ∀ i, i < L → X (3 + i) 0 = fr i ∧ X (3 + i) 1 = tt i ∧ X (3 + i) 3 = pp i ∧ X (3 + i) 4 = qq i) ∧ (∀ i, i < L → Y 87 i = fr i ∧ Y 88 i = tt i ∧ Y 90 i = pp i ∧ Y 91 i = qq i) ∧ Y 86 0 = (L : Int)
def zBt (X Y : MM) : Prop := X 16 4 = Y 84 27 ∧ 0 ≤ Y 84 27 ∧ (∀ k : Nat, (k : Int) < Y 84 27 → X 19 k = Y 106 k) ∧ (Y 84 27 ≠ 0 → (1 ≤ Y 84 28 ∧ 1 ≤ Y 84 29) ∧ X 20 0 = nU (Y 84 28) (Y 84 29) ∧ X 20 1 = nD (Y 84 28) (Y 84 29))
def zRl (fr tt pp qq : Nat → Int) (L : Nat) (e g : Int) (τ : Nat → Int) (n : Nat) (X Y : MM) : Prop := zSt fr tt pp qq L X Y ∧ (X 16 5 = e ∧ X 16 6 = g) ∧ (∀ k, k < n → X 17 k = τ k ∧ Y 105 k = τ k) ∧ zBt X Y ∧ (g = 1 → X 16 7 = Y 84 30 ∧ X 16 8 = Y 84 31)
theorem zq_cmp {a b A B : Int} (hb : 1 ≤ b) (hB : 1 ≤ B) : (0 < nU a b * nD A B - nU A B * nD a b ↔ A * b < a * B) ∧ (nU a b * nD A B - nU A B * nD a b = 0 ↔ a * B = A * b) := by
  obtain ⟨g, hg, ha, hb2⟩ := zq_frac (u := a) hb
  obtain ⟨G, hG, hA, hB2⟩ := zq_frac (u := A) hB
  generalize nU a b = u at ha ⊢
  generalize nD a b = d at hb2 ⊢
  generalize nU A B = U at hA ⊢
  generalize nD A B = D at hB2 ⊢
  have e1 : a * B = (g * G) * (u * D) := by
    rw [ha, hB2]
    simp only [Int.mul_assoc, Int.mul_left_comm, Int.mul_comm]
  have e2 : A * b = (g * G) * (U * d) := by
    rw [hA, hb2]
    simp only [Int.mul_assoc, Int.mul_left_comm, Int.mul_comm]
  have hgG : 0 < g * G := Int.mul_pos hg hG
  rw [e1, e2]
  generalize u * D = x
  generalize U * d = y
  generalize g * G = h at hgG
  refine ⟨⟨fun q => Int.mul_lt_mul_of_pos_left (by omega) hgG, fun q => ?_⟩, ⟨fun q => by rw [show x = y by omega], fun q => ?_⟩⟩
  · have := Int.lt_of_mul_lt_mul_left q (by omega)
    omega
  · have := Int.eq_of_mul_eq_mul_left (by omega) q
    omega
theorem zq_gt1 {a b : Int} (hb : 1 ≤ b) : nD a b < nU a b ↔ b < a := by
  obtain ⟨g, hg, ha, hb2⟩ := zq_frac (u := a) hb
  generalize nU a b = u at ha ⊢
  generalize nD a b = d at hb2 ⊢
  rw [ha, hb2]
  exact ⟨fun q => Int.mul_lt_mul_of_pos_left q hg, fun q => Int.lt_of_mul_lt_mul_left q (by omega)⟩
theorem zSt.to {fr tt pp qq : Nat → Int} {L : Nat} {X Y X' Y' : MM} (h : zSt fr tt pp qq L X Y) (hx : ∀ c, c < 14 → X' c = X c) (hy : ∀ c, 86 ≤ c → c ≤ 91 → Y' c = Y c) : zSt fr tt pp qq L X' Y' := by
  obtain ⟨s0, ⟨s1, s2⟩, s3, s4⟩ := h
  refine ⟨s0, ⟨by rw [hx 1 (by decide)]; exact s1, fun i hi => by rw [hx (3 + i) (by omega)]; exact s2 i hi⟩, fun i hi => ?_, by rw [hy 86 (by decide) (by decide)]; exact s4⟩
  rw [hy 87 (by decide) (by decide), hy 88 (by decide) (by decide), hy 90 (by decide) (by decide), hy 91 (by decide) (by decide)]
  exact s3 i hi
section ZWG
variable {fr tt pp qq : Nat → Int} {L : Nat} {e g : Int} {τ : Nat → Int} {N : Nat} {X Y : MM}
theorem zq_prods (h : zRl fr tt pp qq L e g τ N X Y) (hτ : ∀ k, k < N → 0 ≤ τ k ∧ τ k < L) : cU X 17 N = prodZ (fun k => pp (τ k).toNat) N ∧ cD X 17 N = prodZ (fun k => qq (τ k).toNat) N ∧ pU Y N = prodZ (fun k => pp (τ k).toNat) N ∧ pD Y N = prodZ (fun k => qq (τ k).toNat) N := by
  obtain ⟨⟨-, ⟨-, s1⟩, s2, -⟩, -, ht, -, -⟩ := h
  refine ⟨prodZ_cg (fun k hk => ?_), prodZ_cg (fun k hk => ?_), prodZ_cg (fun k hk => ?_), prodZ_cg (fun k hk => ?_)⟩
  · rw [(ht k hk).1]; exact (s1 _ (by have := hτ k hk; omega)).2.2.1
  · rw [(ht k hk).1]; exact (s1 _ (by have := hτ k hk; omega)).2.2.2
  · rw [(ht k hk).2]; exact (s2 _ (by have := hτ k hk; omega)).2.2.1
  · rw [(ht k hk).2]; exact (s2 _ (by have := hτ k hk; omega)).2.2.2
theorem zq_lx (h : zRl fr tt pp qq L e g τ N X Y) (hN : (N : Int) = Y 84 27) : LXc X N ↔ LX Y N := by
  obtain ⟨-, -, ht, hb, -⟩ := h
  have key : ∀ k, k < N → X 17 k = Y 105 k ∧ X 19 k = Y 106 k := fun k hk => ⟨by rw [(ht k hk).1, (ht k hk).2], hb.2.2.1 k (by omega)⟩
  constructor
  · rintro ⟨k, hk, hj, hl⟩
    refine ⟨k, hk, fun j hj2 => ?_, ?_⟩
    · have := key j (by omega); have := hj j hj2; omega
    · have := key k hk; omega
  · rintro ⟨k, hk, hj, hl⟩
    refine ⟨k, hk, fun j hj2 => ?_, ?_⟩
    · have := key j (by omega); have := hj j hj2; omega
    · have := key k hk; omega
theorem zq_bt (h : zRl fr tt pp qq L e g τ N X Y) (hτ : ∀ k, k < N → 0 ≤ τ k ∧ τ k < L) (hb1 : 1 ≤ prodZ (fun k => qq (τ k).toNat) N) : (X 16 4 = 0 ∨ BX (tU X N) (tD X N) X N) ↔ BT Y N := by
  obtain ⟨p1, p2, p3, p4⟩ := zq_prods h hτ
  have hlx := fun q => zq_lx h q
  obtain ⟨-, -, ht, hb, -⟩ := h
  unfold BT
  have p3' : prodZ (fun k => Y 90 (Y 105 k).toNat) N = prodZ (fun k => pp (τ k).toNat) N := p3
  have p4' : prodZ (fun k => Y 91 (Y 105 k).toNat) N = prodZ (fun k => qq (τ k).toNat) N := p4
  rw [p3', p4', ← hb.1]
  by_cases c : X 16 4 = 0
  · exact ⟨fun _ => Or.inl c, fun _ => Or.inl c⟩
  · have hY : Y 84 27 ≠ 0 := by rw [← hb.1]; exact c
    obtain ⟨⟨y1, y2⟩, x1, x2⟩ := hb.2.2.2 hY
    unfold BX tU tD
    rw [p1, p2, x1, x2]
    have hc := zq_cmp (a := prodZ (fun k => pp (τ k).toNat) N) (b := prodZ (fun k => qq (τ k).toNat) N) (A := Y 84 28) (B := Y 84 29) hb1 y2
    rw [hc.1, hc.2]
    constructor
    · rintro (q | q | ⟨q1, q | ⟨q2, q3⟩⟩)
      · exact absurd q c
      · exact Or.inr (Or.inl q)
      · exact Or.inr (Or.inr ⟨q1, Or.inl q⟩)
      · exact Or.inr (Or.inr ⟨q1, Or.inr ⟨q2, (hlx (q2.trans hb.1)).mp q3⟩⟩)
    · rintro (q | q | ⟨q1, q | ⟨q2, q3⟩⟩)
      · exact absurd q c
      · exact Or.inr (Or.inl q)
      · exact Or.inr (Or.inr ⟨q1, Or.inl q⟩)
      · exact Or.inr (Or.inr ⟨q1, Or.inr ⟨q2, (hlx (q2.trans hb.1)).mpr q3⟩⟩)
theorem zq_take (h : zRl fr tt pp qq L e g τ N X Y) (hτ : ∀ k, k < N → 0 ≤ τ k ∧ τ k < L) (ha1 : 1 ≤ prodZ (fun k => pp (τ k).toNat) N) (hb1 : 1 ≤ prodZ (fun k => qq (τ k).toNat) N) {Z Y1 : MM} (z1 : ∀ c, c ≠ 16 → c ≠ 18 → Z c = X c) (z2 : ∀ j, j ≠ 7 → j ≠ 8 → Z 16 j = X 16 j) (y1 : ∀ c, c ≠ 84 → Y1 c = Y c) (y2 : ∀ j, j ≠ 30 → j ≠ 31 → Y1 84 j = Y 84 j) (hct : g = 1 → Z 16 7 = Y1 84 30 ∧ Z 16 8 = Y1 84 31) : zRl fr tt pp qq L e g τ N (wgT X N Z) (tk Y1 N) := by
  have hbt := zq_bt h hτ hb1
  obtain ⟨p1, p2, p3, p4⟩ := zq_prods h hτ
  have hb27 : BT Y1 N ↔ BT Y N := by
    unfold BT LX
    rw [y1 90 (by decide), y1 91 (by decide), y1 105 (by decide), y1 106 (by decide), y2 27 (by decide) (by decide), y2 28 (by decide) (by decide), y2 29 (by decide) (by decide)]
  obtain ⟨hst, ⟨e5, e6⟩, ht, hb, -⟩ := h
  have hX17 : ∀ k, k < N → Z 17 k = τ k := fun k hk => by rw [z1 17 (by decide) (by decide)]; exact (ht k hk).1
  have hY105 : ∀ k, k < N → Y1 105 k = τ k := fun k hk => by rw [y1 105 (by decide)]; exact (ht k hk).2
  unfold wgT tk
  by_cases hc : BT Y N
  · rw [cif_t (hbt.mpr hc), cif_t (hb27.mpr hc)]
    have q1 : prodZ (fun k => Y1 90 (Y1 105 k).toNat) N = prodZ (fun k => pp (τ k).toNat) N := by rw [y1 90 (by decide), y1 105 (by decide)]; exact p3
    have q2 : prodZ (fun k => Y1 91 (Y1 105 k).toNat) N = prodZ (fun k => qq (τ k).toNat) N := by rw [y1 91 (by decide), y1 105 (by decide)]; exact p4
    unfold tkM
    rw [q1, q2]
    refine ⟨hst.to (fun c hc2 => ?_) (fun c c1 c2 => ?_), ⟨?_, ?_⟩, fun k hk => ⟨?_, ?_⟩, ⟨?_, ?_, fun k hk => ?_, fun _ => ⟨⟨?_, ?_⟩, ?_, ?_⟩⟩, fun hg => ⟨?_, ?_⟩⟩
    · rw [up2_ne _ _ _ _ (by omega), up2_ne _ _ _ _ (by omega), up2_ne _ _ _ _ (by omega), cp2_ne _ (by omega), z1 c (by omega) (by omega)]
    · rw [cp2_ne _ (by omega), up2_ne _ _ _ _ (by omega), up2_ne _ _ _ _ (by omega), up2_ne _ _ _ _ (by omega), y1 c (by omega)]
    · rw [up2_in, if_neg (by decide), up2_ne _ _ _ _ (by decide), up2_ne _ _ _ _ (by decide), cp2_ne _ (by decide), z2 5 (by decide) (by decide)]; exact e5
    · rw [up2_in, if_neg (by decide), up2_ne _ _ _ _ (by decide), up2_ne _ _ _ _ (by decide), cp2_ne _ (by decide), z2 6 (by decide) (by decide)]; exact e6
    · rw [up2_ne _ _ _ _ (by decide), up2_ne _ _ _ _ (by decide), up2_ne _ _ _ _ (by decide), cp2_ne _ (by decide)]; exact hX17 k hk
    · rw [cp2_ne _ (by decide), up2_ne _ _ _ _ (by decide), up2_ne _ _ _ _ (by decide), up2_ne _ _ _ _ (by decide)]; exact hY105 k hk
    · rw [up2_self, cp2_ne _ (by decide), up2_in, if_neg (by decide), up2_in, if_neg (by decide), up2_self]
    · rw [cp2_ne _ (by decide), up2_in, if_neg (by decide), up2_in, if_neg (by decide), up2_self]; omega
    · rw [cp2_ne _ (by decide), up2_in, if_neg (by decide), up2_in, if_neg (by decide), up2_self] at hk
      rw [up2_ne _ _ _ _ (by decide), up2_ne _ _ _ _ (by decide), up2_ne _ _ _ _ (by decide)]
      show (if k < N then Z 17 k else _) = (if k < N then up2 (up2 (up2 Y1 84 27 _) 84 28 _) 84 29 _ 105 k else _)
      rw [if_pos (by omega), if_pos (by omega), up2_ne _ _ _ _ (by decide), up2_ne _ _ _ _ (by decide), up2_ne _ _ _ _ (by decide), hX17 k (by omega), hY105 k (by omega)]
    · rw [cp2_ne _ (by decide), up2_in, if_neg (by decide), up2_self]; exact ha1
    · rw [cp2_ne _ (by decide), up2_self]; exact hb1
    · rw [cp2_ne _ (by decide), up2_in, if_neg (by decide), up2_self, up2_self, up2_ne _ _ _ _ (by decide), up2_in, if_neg (by decide), up2_self]
      show nU (cU X 17 N) (cD X 17 N) = _
      rw [p1, p2]
    · rw [cp2_ne _ (by decide), up2_in, if_neg (by decide), up2_self, up2_self, up2_ne _ _ _ _ (by decide), up2_self]
      show nD (cU X 17 N) (cD X 17 N) = _
      rw [p1, p2]
    · rw [up2_in, if_neg (by decide), up2_ne _ _ _ _ (by decide), up2_ne _ _ _ _ (by decide), cp2_ne _ (by decide), cp2_ne _ (by decide), up2_in, if_neg (by decide), up2_in, if_neg (by decide), up2_in, if_neg (by decide)]; exact (hct hg).1
    · rw [up2_in, if_neg (by decide), up2_ne _ _ _ _ (by decide), up2_ne _ _ _ _ (by decide), cp2_ne _ (by decide), cp2_ne _ (by decide), up2_in, if_neg (by decide), up2_in, if_neg (by decide), up2_in, if_neg (by decide)]; exact (hct hg).2
  · rw [cif_f (fun q => hc (hbt.mp q)), cif_f (fun q => hc (hb27.mp q))]
    refine ⟨hst.to (fun c hc2 => z1 c (by omega) (by omega)) (fun c c1 c2 => y1 c (by omega)), ⟨by rw [z2 5 (by decide) (by decide)]; exact e5, by rw [z2 6 (by decide) (by decide)]; exact e6⟩, fun k hk => ⟨hX17 k hk, hY105 k hk⟩, ?_, hct⟩
    unfold zBt at hb ⊢
    rw [z2 4 (by decide) (by decide), z1 19 (by decide) (by decide), z1 20 (by decide) (by decide), y1 106 (by decide), y2 27 (by decide) (by decide), y2 28 (by decide) (by decide), y2 29 (by decide) (by decide)]
    exact hb
theorem zq_wgh (h : zRl fr tt pp qq L e g τ N X Y) (hg : g = 0 ∨ g = 1) (hτ : ∀ k, k < N → 0 ≤ τ k ∧ τ k < L) (ha1 : 1 ≤ prodZ (fun k => pp (τ k).toNat) N) (hb1 : 1 ≤ prodZ (fun k => qq (τ k).toNat) N) : zRl fr tt pp qq L e g τ N (wgM X N) (vs g Y N) := by
  obtain ⟨p1, p2, p3, p4⟩ := zq_prods h hτ
  have hgt : tD X N < tU X N ↔ pD Y N < pU Y N := by
    unfold tU tD
    rw [p1, p2, p3, p4]
    exact zq_gt1 hb1
  have e6 := h.2.1.2
  have e5 := h.2.1.1
  have hct := h.2.2.2.2
  have za : (∀ c, c ≠ 16 → c ≠ 18 → wgA X N c = X c) ∧ (∀ j, j ≠ 7 → j ≠ 8 → wgA X N 16 j = X 16 j) ∧ wgA X N 16 7 = X 16 7 + 1 ∧ wgA X N 16 8 = X 16 8 := by
    unfold wgA
    refine ⟨fun c c1 c2 => by rw [up2_ne _ _ _ _ c1, up2_ne _ _ _ _ c2, up2_ne _ _ _ _ c2], fun j j1 j2 => by rw [up2_in, if_neg j1, up2_ne _ _ _ _ (by decide), up2_ne _ _ _ _ (by decide)], by rw [up2_self], by rw [up2_in, if_neg (by decide), up2_ne _ _ _ _ (by decide), up2_ne _ _ _ _ (by decide)]⟩
  obtain ⟨za1, za2, za3, za4⟩ := za
  have zb1 : ∀ c, c ≠ 16 → c ≠ 18 → up2 (wgA X N) 16 8 (X 16 8 + 1) c = X c := fun c c1 c2 => by rw [up2_ne _ _ _ _ c1]; exact za1 c c1 c2
  have zb2 : ∀ j, j ≠ 7 → j ≠ 8 → up2 (wgA X N) 16 8 (X 16 8 + 1) 16 j = X 16 j := fun j j1 j2 => by rw [up2_in, if_neg j2]; exact za2 j j1 j2
  unfold wgM vs
  rcases hg with rfl | rfl
  · rw [if_pos rfl]
    by_cases c : tD X N < tU X N
    · rw [cif_t c]
      exact zq_take h hτ ha1 hb1 zb1 zb2 (fun _ _ => rfl) (fun _ _ _ => rfl) (fun q => absurd q (by decide))
    · rw [cif_f c, cif_f (fun q => q e6)]
      exact zq_take h hτ ha1 hb1 za1 za2 (fun _ _ => rfl) (fun _ _ _ => rfl) (fun q => absurd q (by decide))
  · rw [if_neg (by decide)]
    have hc2 := hct rfl
    by_cases c : tD X N < tU X N
    · rw [cif_t c, if_pos (hgt.mp c)]
      refine zq_take h hτ ha1 hb1 zb1 zb2 (fun c c1 => by rw [up2_ne _ _ _ _ c1, up2_ne _ _ _ _ c1]) (fun j j1 j2 => by rw [up2_in, if_neg j2, up2_in, if_neg j1]) (fun _ => ⟨?_, ?_⟩)
      · rw [up2_in, if_neg (by decide), za3, up2_in, if_neg (by decide), up2_self, hc2.1]
      · rw [up2_self, up2_self, hc2.2]
    · rw [cif_f c, cif_t (by rw [e6]; decide), if_neg (fun q => c (hgt.mpr q))]
      obtain ⟨hst, -, ht, hb, -⟩ := h
      refine ⟨hst.to (fun c hc => za1 c (by omega) (by omega)) (fun c c1 c2 => up2_ne _ _ _ _ (by omega)), ⟨by rw [za2 5 (by decide) (by decide)]; exact e5, by rw [za2 6 (by decide) (by decide)]; exact e6⟩, fun k hk => ⟨by rw [za1 17 (by decide) (by decide)]; exact (ht k hk).1, by rw [up2_ne _ _ _ _ (by decide)]; exact (ht k hk).2⟩, ?_, fun _ => ⟨by rw [za3, up2_self, hc2.1], by rw [za4, up2_in, if_neg (by decide), hc2.2]⟩⟩
      unfold zBt at hb ⊢
      rw [za2 4 (by decide) (by decide), za1 19 (by decide) (by decide), za1 20 (by decide) (by decide), up2_ne _ _ _ _ (show (106 : Nat) ≠ 84 by decide), up2_in, if_neg (by decide), up2_in, if_neg (by decide), up2_in, if_neg (by decide)]
      exact hb
end ZWG
