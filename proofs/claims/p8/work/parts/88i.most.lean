/-! most answers alike -/
theorem nUD_s {a b k : Int} (hb : 0 < b) (hk : 0 < k) : nU (a * k) (b * k) = nU a b ∧ nD (a * k) (b * k) = nD a b := by
  have hg := gcd_pos (a := a) hb
  have eg : (Int.gcd (a * k) (b * k) : Int) = (Int.gcd a b : Int) * k := by
    rw [Int.gcd_mul_right]
    show ((Int.gcd a b * k.natAbs : Nat) : Int) = _
    rw [Int.natCast_mul, show ((k.natAbs : Nat) : Int) = k by omega]
  obtain ⟨p, hp⟩ := Int.gcd_dvd_left a b
  obtain ⟨q, hq⟩ := Int.gcd_dvd_right a b
  have hne : (Int.gcd a b : Int) * k ≠ 0 := Int.mul_ne_zero (by omega) (by omega)
  have e1 : nU a b = p := by
    show a.tdiv (Int.gcd a b : Int) = p
    have : a.tdiv (Int.gcd a b : Int) = ((Int.gcd a b : Int) * p).tdiv (Int.gcd a b : Int) := by rw [← hp]
    rw [this]; exact Int.mul_tdiv_cancel_left p (by omega)
  have e2 : nD a b = q := by
    show b.tdiv (Int.gcd a b : Int) = q
    have : b.tdiv (Int.gcd a b : Int) = ((Int.gcd a b : Int) * q).tdiv (Int.gcd a b : Int) := by rw [← hq]
    rw [this]; exact Int.mul_tdiv_cancel_left q (by omega)
  have f1 : a * k = ((Int.gcd a b : Int) * k) * p := by
    calc a * k = ((Int.gcd a b : Int) * p) * k := by rw [← hp]
      _ = ((Int.gcd a b : Int) * k) * p := Int.mul_right_comm _ _ _
  have f2 : b * k = ((Int.gcd a b : Int) * k) * q := by
    calc b * k = ((Int.gcd a b : Int) * q) * k := by rw [← hq]
      _ = ((Int.gcd a b : Int) * k) * q := Int.mul_right_comm _ _ _
  constructor
  · show (a * k).tdiv (Int.gcd (a * k) (b * k) : Int) = _
    rw [eg, e1, f1]; exact Int.mul_tdiv_cancel_left p hne
  · show (b * k).tdiv (Int.gcd (a * k) (b * k) : Int) = _
    rw [eg, e2, f2]; exact Int.mul_tdiv_cancel_left q hne
/-- equal fractions have the same least terms -/
theorem nUD_q {a b c d : Int} (hb : 0 < b) (hd : 0 < d) (h : a * d = c * b) : nU a b = nU c d ∧ nD a b = nD c d := by
  have h1 := nUD_s (a := a) hb hd
  have h2 := nUD_s (a := c) hd hb
  rw [h, Int.mul_comm b d] at h1
  exact ⟨h1.1.symm.trans h2.1, h1.2.symm.trans h2.2⟩
theorem zOk.cells {L D : MM} {y : Nat → Int} {l : List Nat} (hc : ∀ c, 22 ≤ c → c ≤ 26 → L c = D c) (h5 : L 21 5 = D 21 5) (h : zOk L y l) : zOk D y l := by
  have ht : ∀ v w, zTi L y v w → zTi D y v w := fun v w q => by
    unfold zTi zqB zwn at q ⊢
    rw [hc 22 (by decide) (by decide), hc 23 (by decide) (by decide), hc 24 (by decide) (by decide), hc 25 (by decide) (by decide), hc 26 (by decide) (by decide), h5] at q
    exact q
  induction l with
  | nil => trivial
  | cons v l ih =>
    obtain ⟨a, b⟩ := h
    exact ⟨ih a, b.elim Or.inl (fun b => Or.inr (b.elim (fun q => Or.inl (ht _ _ q)) (fun ⟨w, w1, w2⟩ => Or.inr ⟨w, w1, ht _ _ w2⟩)))⟩
/-- what the class finds: the least of all rows of prices, at a corner -/
theorem zq_cls {D L : MM} {s u : Int} (hN : zNe D) (h : zLe D L s u) : (∀ x, zVx x → s * x 4 ≤ zSn D x * u) ∧ ∃ (y : Nat → Int) (a b c : Nat), zVx y ∧ (1 ≤ a ∧ a ≤ 3) ∧ (1 ≤ b ∧ b ≤ 3) ∧ (1 ≤ c ∧ c ≤ 3) ∧ a ≠ b ∧ a ≠ c ∧ b ≠ c ∧ zOk D y [c, b, a] ∧ s = zSn D y ∧ u = y 4 := by
  obtain ⟨hB, hL, hI, hu, -⟩ := h
  obtain ⟨hF, h7, hun, hrow, hln⟩ := hB
  have hc : ∀ c, 22 ≤ c → c ≤ 26 → L c = D c := fun c c1 c2 => by rw [hF.1 c (by omega) (by omega), up2_ne _ _ _ _ (by omega)]
  have hcM : ∀ c, 22 ≤ c → c ≤ 26 → up2 D 21 7 0 c = D c := fun c c1 c2 => up2_ne _ _ _ _ (by omega)
  have h5 : L 21 5 = D 21 5 := by rw [hF.2 5 (by decide), up2_in, if_neg (by decide)]
  have hNL : zNe L := by
    unfold zNe ZPL at hN ⊢
    rw [h5, hc 22 (by decide) (by decide), hc 23 (by decide) (by decide), hc 24 (by decide) (by decide), hc 25 (by decide) (by decide), hc 26 (by decide) (by decide)]
    exact hN
  have hn : ((D 21 5).toNat : Int) = D 21 5 := by have := hN.1; omega
  have eb : ∀ a, zqB L a ↔ zqB (up2 D 21 7 0) a := fun a => by
    unfold zqB
    rw [hc 22 (by decide) (by decide), hc 24 (by decide) (by decide), hc 25 (by decide) (by decide), hcM 22 (by decide) (by decide), hcM 24 (by decide) (by decide), hcM 25 (by decide) (by decide)]
  have el : ∀ r a, zqL L r a ↔ zqL (up2 D 21 7 0) r a := fun r a => by
    unfold zqL
    rw [hc 22 (by decide) (by decide), hc 23 (by decide) (by decide), hc 25 (by decide) (by decide), hc 26 (by decide) (by decide), hcM 22 (by decide) (by decide), hcM 23 (by decide) (by decide), hcM 25 (by decide) (by decide), hcM 26 (by decide) (by decide)]
  have hpl : zPl L (L 21 7).toNat := by
    refine ⟨fun v hv => ⟨v - 1, by omega, ?_⟩, fun a ha hb => ?_⟩
    · have := hun v hv.1 (by omega)
      rw [show 27 + v = 28 + (v - 1) by omega] at this
      exact this
    · obtain ⟨j, j1, j2, j3⟩ := hln a (by omega) ((eb a).mp hb)
      exact ⟨j, by omega, (el _ _).mpr j3⟩
  have hrw : ∀ j, j < (L 21 7).toNat → zRw L (L (28 + j)) := fun j hj => by
    by_cases c : j < 3
    · left
      refine ⟨j + 1, by omega, ?_⟩
      have := hun (j + 1) (by omega) (by omega)
      rw [show 27 + (j + 1) = 28 + j by omega] at this
      exact this
    · right
      obtain ⟨a, a1, a2, a3⟩ := hrow j (by omega) (by omega)
      exact ⟨a, by omega, (eb a).mpr a2, (el _ _).mpr a3⟩
  have esn : ∀ x, zSn L x = zSn D x := fun x => zSn_same hc h5 (fun k hk => (hN.2 k hk).1) (fun _ _ => rfl)
  refine ⟨fun x hx => ?_, ?_⟩
  · rw [← esn]
    exact zq_least hNL hpl hu (fun a b c q qE => (hI.2.2.2 (by omega)).2 a b c q qE) hx
  · obtain ⟨i, j, k, q, qE, qs, qu⟩ := (hI.2.2.2 (by omega)).1
    obtain ⟨hv, a, b, c, w1, w2, w3, w4, w5, w6, w7⟩ := zq_corn hNL (hrw i (by omega)) (hrw j (by omega)) (hrw k (by omega)) qE
    exact ⟨zQt L i j k, a, b, c, hv, w1, w2, w3, w4, w5, w6, w7.cells hc h5, by rw [← esn]; exact qs, qu⟩
/-- both leasts are one fraction in least terms -/
theorem zq_same {D B L X : MM} {s u : Int} (hN : zNe D) (hr : zRD D B) (hw : WM B) (hs : SHK B) (h : zLe D L s u) (hx : zRe D B (B 85 0 - 1).toNat X) : X 84 23 = nU s (2520 * u) ∧ X 84 24 = nD s (2520 * u) := by
  have hP := hw.1
  have hla : (((B 85 0 - 1).toNat : Nat) : Int) = B 85 0 - 1 := by omega
  have hu := h.2.2.2.1
  obtain ⟨c1, y, a, b, c, hy, ha, hb, hc, hab, hac, hbc, ho, e1, e2⟩ := zq_cls hN h
  obtain ⟨⟨x, hvx, x1, x2⟩, hall⟩ := hx
  obtain ⟨d, ρ, hd, hft⟩ := zq_pick hN hr hw hs hla ha hb hc hab hac hbc ho
  have r1 := hall d y ρ hd hy hft
  unfold zBd at r1
  rw [← e1, ← e2] at r1
  have r2 := c1 x hvx
  have p4 := hvx.2.1
  have hD : 0 < 2520 * x 4 := by omega
  have hm := nUD_mul (a := zSn D x) hD
  rw [← x1, ← x2] at hm
  have hdp := nD_bd (a := zSn D x) hD
  rw [← x2] at hdp
  have r3 : zSn D x * u ≤ s * x 4 := by
    have e : (zSn D x * u) * (2520 * X 84 24) ≤ (s * x 4) * (2520 * X 84 24) := by
      calc (zSn D x * u) * (2520 * X 84 24) = (zSn D x * X 84 24) * (2520 * u) := by grind
        _ = (X 84 23 * (2520 * x 4)) * (2520 * u) := by rw [hm]
        _ = (X 84 23 * (2520 * u)) * (2520 * x 4) := by grind
        _ ≤ (s * X 84 24) * (2520 * x 4) := Int.mul_le_mul_of_nonneg_right r1 (by omega)
        _ = (s * x 4) * (2520 * X 84 24) := by grind
    exact Int.le_of_mul_le_mul_right e (by omega)
  have heq : zSn D x * u = s * x 4 := by omega
  have he := nUD_q (a := zSn D x) (b := 2520 * x 4) (c := s) (d := 2520 * u) hD (by omega) (by grind)
  exact ⟨x1.trans he.1, x2.trans he.2⟩
theorem zLo_n {M : MM} (h : CW M) {w : Int} (hw : 0 ≤ w ∧ w ≤ 2) : zNe (zLo M w) := ⟨by rw [zLo_5]; exact h.2.1, zLo_l h hw⟩
theorem zLo_rd {M M1 : MM} (h : zSM M) (hf : zFr M M1) {w : Int} (hw : 0 ≤ w ∧ w ≤ 2) : zRD (zLo M w) (ssK (up2 M1 84 0 0) w (M1 86 0).toNat) := by
  have hn := h.qn
  have e85 : ssK (up2 M1 84 0 0) w (M1 86 0).toNat 85 0 = M 85 0 := by
    show M1 85 0 = _
    rw [hf 85 (by decide)]
  have e86 : ssK (up2 M1 84 0 0) w (M1 86 0).toNat 86 0 = M 86 0 := by
    show M1 86 0 = _
    rw [hf 86 (by decide)]
  unfold zRD
  rw [e85, e86]
  refine ⟨by rw [zLo_5]; exact hn.2.1, fun k hk => ?_⟩
  have q := hn.2.2 k hk
  have l := h.wm.2.2 k hk
  unfold zqS at q
  unfold LW at l
  have hL := h.wm.2.1
  have hlt : k < (M 1 1).toNat := by rw [hn.2.1]; omega
  have hlt2 : k < (M1 86 0).toNat := by rw [hf 86 (by decide)]; omega
  have s99 : ssK (up2 M1 84 0 0) w (M1 86 0).toNat 99 k = sup M w k := by
    show (if k < (M1 86 0).toNat then sup (up2 M1 84 0 0) w k else _) = _
    rw [if_pos hlt2]
    unfold sup
    rw [up2_ne _ _ _ _ (show (90 : Nat) ≠ 84 by decide), up2_ne _ _ _ _ (show (92 : Nat) ≠ 84 by decide), hf 90 (by decide), hf 92 (by decide)]
  have s100 : ssK (up2 M1 84 0 0) w (M1 86 0).toNat 100 k = M 91 k := by
    show (if k < (M1 86 0).toNat then up2 M1 84 0 0 91 k else _) = _
    rw [if_pos hlt2, up2_ne _ _ _ _ (by decide), hf 91 (by decide)]
  have s101 : ssK (up2 M1 84 0 0) w (M1 86 0).toNat 101 k = M 89 k := by
    show (if k < (M1 86 0).toNat then up2 M1 84 0 0 89 k else _) = _
    rw [if_pos hlt2, up2_ne _ _ _ _ (by decide), hf 89 (by decide)]
  have s87 : ssK (up2 M1 84 0 0) w (M1 86 0).toNat 87 k = M 87 k := by
    show M1 87 k = _
    rw [hf 87 (by decide)]
  have s88 : ssK (up2 M1 84 0 0) w (M1 86 0).toNat 88 k = M 88 k := by
    show M1 88 k = _
    rw [hf 88 (by decide)]
  rw [s99, s100, s101, s87, s88]
  unfold zLo
  rw [zld_22 _ _ hlt, zld_23 _ _ hlt, zld_24 _ _ hlt, zld_25 _ _ hlt, zld_26 _ _ hlt]
  unfold ldt ldp
  have e : ∀ j, up2 M 21 5 (M 1 1) (3 + k) j = M (3 + k) j := fun j => by rw [up2_ne _ _ _ _ (by omega)]
  rw [e, e, e, e, e, e, up2_ne _ _ _ _ (show (1 : Nat) ≠ 21 by decide), q.1, q.2.1, q.2.2.1, q.2.2.2.1, q.2.2.2.2.1, q.2.2.2.2.2.1, hn.1]
  refine ⟨rfl, rfl, rfl, ?_, rfl⟩
  unfold sup
  have hw3 : w = 0 ∨ w = 1 ∨ w = 2 := by omega
  rcases hw3 with rfl | rfl | rfl
  · show M 90 k = if M 90 k + 0 < 0 then 0 else M 90 k + 0
    rw [if_neg (by omega)]; omega
  · show (if 0 < M 90 k - M 92 k then M 90 k - M 92 k else 0) = if M 90 k + -(M 92 k) < 0 then 0 else M 90 k + -(M 92 k)
    by_cases c : 0 < M 90 k - M 92 k
    · rw [if_pos c, if_neg (by omega)]; omega
    · rw [if_neg c]
      by_cases c2 : M 90 k + -(M 92 k) < 0
      · rw [if_pos c2]
      · rw [if_neg c2]; omega
  · show M 90 k + M 92 k = if M 90 k + M 92 k < 0 then 0 else M 90 k + M 92 k
    rw [if_neg (by omega)]
def pr_mostL (M : MM) (w b : Int) (M1 : MM) (z : Int) (M' : MM) : Prop := FO M1 M' ∧ (((w < 0 ∨ 2 < w) ∧ z = -1) ∨ ((0 ≤ w ∧ w ≤ 2) ∧ ∃ X : MM, zRe (zLo M w) (ssK (up2 M1 84 0 0) w (M1 86 0).toNat) ((ssK (up2 M1 84 0 0) w (M1 86 0).toNat) 85 0 - 1).toNat X ∧ MB X ∧ ((b ≠ 0 ∧ z = X 84 24) ∨ (b = 0 ∧ z = X 84 23))))
theorem c_X5_mostL (G : GG) (l : Launch) (w b : Int) (M M1 : MM) (hw0 : I32 w) (hb : I32 b) (h : zSM M) (hf : zFr M M1) (hw : WM M1) : CMl G l yX5_most cX5_most 3 (some .long) 5 [.ref 84, vi w, vi b] M1 (fun z M' => pr_mostL M w b M1 z M') :=
  c_X5_mostR G l w b M1 hw0 hb hw _ (fun hw2 l' => c_X5_findMostL G l' (zLo M w) _ (((FO.rf0 M1).ss w _).wm hw) (ssK_shk (M := up2 M1 84 0 0) hw hw2) (zLo_rd h hf hw2))
theorem zv_most {M M1 M2 : MM} {z z2 w b : Int} (h : zSM M) (h1 : pc_most w b M z M1) (h2 : pr_mostL M w b M1 z2 M2) : z = z2 ∧ zSM M2 := by
  have hf := zf_most h1
  refine ⟨?_, zs_most (b := b) (z2 := z2) h h1 ⟨h2.1, fun q => ?_⟩⟩
  · rcases h1 with ⟨a1, a2, -⟩ | ⟨a1, s, u, L, hle, a2, -⟩
    · rcases h2.2 with ⟨b1, b2⟩ | ⟨b1, -⟩
      · rw [a2, b2]
      · omega
    · rcases h2.2 with ⟨b1, b2⟩ | ⟨b1, X, x1, -, b2⟩
      · omega
      · have hwm : WM M1 := (h.rb hf).1
        have e := zq_same (zLo_n h.cw a1) (zLo_rd h hf a1) (((FO.rf0 M1).ss w _).wm hwm) (ssK_shk (M := up2 M1 84 0 0) hwm a1) hle x1
        rw [e.1, e.2] at b2
        omega
  · rcases h2.2 with ⟨b1, b2⟩ | ⟨b1, -⟩
    · exact b2
    · omega
