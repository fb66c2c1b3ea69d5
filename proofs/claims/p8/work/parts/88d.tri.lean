/-! a row of prices whose posts are 0 or tied to the end is a corner -/
def zPl (L : MM) (P : Nat) : Prop := (∀ u, 1 ≤ u ∧ u ≤ 3 → ∃ j, j < P ∧ zqU (L (28 + j)) u) ∧ ∀ a : Nat, (a : Int) < L 21 5 → zqB L a → ∃ j, j < P ∧ zqL L (L (28 + j)) a
theorem zq_row {L : MM} {P : Nat} (hz : zNe L) (hp : zPl L P) {y : Nat → Int} {v : Nat} {l : List Nat} (hv : 1 ≤ v ∧ v ≤ 3) (h : y v = 0 ∨ zTi L y v 4 ∨ ∃ w, w ∈ l ∧ zTi L y v w) : ∃ j, j < P ∧ zdt (L (28 + j)) y = 0 ∧ L (28 + j) v ≠ 0 ∧ ∀ k, 1 ≤ k ∧ k ≤ 3 → k ≠ v → k ∉ l → L (28 + j) k = 0 := by
  have tie : ∀ w, (w = 4 ∨ w ∈ l) → zTi L y v w → ∃ j, j < P ∧ zdt (L (28 + j)) y = 0 ∧ L (28 + j) v ≠ 0 ∧ ∀ k, 1 ≤ k ∧ k ≤ 3 → k ≠ v → k ∉ l → L (28 + j) k = 0 := by
    intro w hw ⟨a, ha, hb, hs, h0⟩
    obtain ⟨j, hj, hq⟩ := hp.2 a ha hb
    have e := zq_ends hz ha hb
    refine ⟨j, hj, by rw [zq_dl hz ha hb hq]; exact h0, ?_, fun k hk kv kl => ?_⟩
    · rw [hq v (by omega)]
      rcases hs with ⟨s1, s2⟩ | ⟨s1, s2⟩
      · rw [if_pos s1.symm]; omega
      · rw [if_neg (by omega), if_pos s2.symm]; omega
    · rw [hq k (by omega)]
      have kw : k ≠ w := fun q => by
        rcases hw with r | r
        · omega
        · rw [q] at kl; exact kl r
      rcases hs with ⟨s1, s2⟩ | ⟨s1, s2⟩
      · rw [if_neg (by omega), if_neg (by omega)]
      · rw [if_neg (by omega), if_neg (by omega)]
  rcases h with h | h | ⟨w, hw, h⟩
  · obtain ⟨j, hj, hq⟩ := hp.1 v hv
    refine ⟨j, hj, by rw [zq_du hv hq]; exact h, ?_, fun k hk kv _ => ?_⟩
    · rw [hq v (by omega), if_pos rfl]; decide
    · rw [hq k (by omega), if_neg kv]
  · exact tie 4 (Or.inl rfl) h
  · exact tie w (Or.inr hw) h
theorem zq_tri0 {A B C : Nat → Int} {a b c : Nat} (ha : 1 ≤ a ∧ a ≤ 3) (hb : 1 ≤ b ∧ b ≤ 3) (hc : 1 ≤ c ∧ c ≤ 3) (hab : a ≠ b) (hac : a ≠ c) (hbc : b ≠ c) (Aa : A a ≠ 0) (Ab : A b = 0) (Ac : A c = 0) (Bb : B b ≠ 0) (Bc : B c = 0) (Cc : C c ≠ 0) : zEn A B C ≠ 0 := by
  have hp : A a * B b * C c ≠ 0 := Int.mul_ne_zero (Int.mul_ne_zero Aa Bb) Cc
  have ka : a = 1 ∨ a = 2 ∨ a = 3 := by omega
  have kb : b = 1 ∨ b = 2 ∨ b = 3 := by omega
  unfold zEn zMn
  rcases ka with rfl | rfl | rfl
  · rcases kb with rfl | rfl | rfl
    · exact absurd rfl hab
    · have e : c = 3 := by omega
      subst e
      intro q
      apply hp
      rw [Ab, Ac, Bc] at q
      grind
    · have e : c = 2 := by omega
      subst e
      intro q
      apply hp
      rw [Ab, Ac, Bc] at q
      grind
  · rcases kb with rfl | rfl | rfl
    · have e : c = 3 := by omega
      subst e
      intro q
      apply hp
      rw [Ab, Ac, Bc] at q
      grind
    · exact absurd rfl hab
    · have e : c = 1 := by omega
      subst e
      intro q
      apply hp
      rw [Ab, Ac, Bc] at q
      grind
  · rcases kb with rfl | rfl | rfl
    · have e : c = 2 := by omega
      subst e
      intro q
      apply hp
      rw [Ab, Ac, Bc] at q
      grind
    · have e : c = 1 := by omega
      subst e
      intro q
      apply hp
      rw [Ab, Ac, Bc] at q
      grind
    · exact absurd rfl hab
/-- the three planes in their order -/
theorem zq_sort {R : Nat → Nat → Int} {y : Nat → Int} {P i j k : Nat} (hi : i < P) (hj : j < P) (hk : k < P) (hij : i ≠ j) (hik : i ≠ k) (hjk : j ≠ k) (hE : zEn (R i) (R j) (R k) ≠ 0) (di : zdt (R i) y = 0) (dj : zdt (R j) y = 0) (dk : zdt (R k) y = 0) : ∃ a b c, a < b ∧ b < c ∧ c < P ∧ zEn (R a) (R b) (R c) ≠ 0 ∧ zdt (R a) y = 0 ∧ zdt (R b) y = 0 ∧ zdt (R c) y = 0 := by
  have n12 : ∀ A B C : Nat → Int, zEn A B C ≠ 0 → zEn B A C ≠ 0 := fun A B C h q => h (by rw [zEn_12] at q; omega)
  have n23 : ∀ A B C : Nat → Int, zEn A B C ≠ 0 → zEn A C B ≠ 0 := fun A B C h q => h (by rw [zEn_23] at q; omega)
  by_cases c1 : i < j
  · by_cases c2 : j < k
    · exact ⟨i, j, k, c1, c2, hk, hE, di, dj, dk⟩
    · by_cases c3 : i < k
      · exact ⟨i, k, j, c3, by omega, hj, n23 _ _ _ hE, di, dk, dj⟩
      · exact ⟨k, i, j, by omega, c1, hj, n12 _ _ _ (n23 _ _ _ hE), dk, di, dj⟩
  · by_cases c2 : i < k
    · exact ⟨j, i, k, by omega, c2, hk, n12 _ _ _ hE, dj, di, dk⟩
    · by_cases c3 : j < k
      · exact ⟨j, k, i, c3, by omega, hi, n23 _ _ _ (n12 _ _ _ hE), dj, dk, di⟩
      · exact ⟨k, j, i, by omega, by omega, hi, n12 _ _ _ (n23 _ _ _ (n12 _ _ _ hE)), dk, dj, di⟩
theorem zq_tri {L : MM} {P : Nat} (hz : zNe L) (hp : zPl L P) {y : Nat → Int} {a b c : Nat} (hy : zVx y) (ha : 1 ≤ a ∧ a ≤ 3) (hb : 1 ≤ b ∧ b ≤ 3) (hc : 1 ≤ c ∧ c ≤ 3) (hab : a ≠ b) (hac : a ≠ c) (hbc : b ≠ c) (ho : zOk L y [c, b, a]) : ∃ i j k, i < j ∧ j < k ∧ k < P ∧ zEt L i j k ≠ 0 ∧ ∀ v, v < 5 → y 4 * zQt L i j k v = zQt L i j k 4 * y v := by
  obtain ⟨⟨⟨-, oa⟩, ob⟩, oc⟩ := ho
  obtain ⟨ja, a1, a2, a3, a4⟩ := zq_row hz hp ha oa
  obtain ⟨jb, b1, b2, b3, b4⟩ := zq_row hz hp hb ob
  obtain ⟨jc, c1, c2, c3, c4⟩ := zq_row hz hp hc oc
  have ab := a4 b hb (by omega) List.not_mem_nil
  have ac := a4 c hc (by omega) List.not_mem_nil
  have bc := b4 c hc (by omega) (fun q => by have := List.mem_singleton.mp q; omega)
  have hE := zq_tri0 ha hb hc hab hac hbc a3 ab ac b3 bc c3
  have nab : ja ≠ jb := fun q => b3 (by rw [← q]; exact ab)
  have nac : ja ≠ jc := fun q => c3 (by rw [← q]; exact ac)
  have nbc : jb ≠ jc := fun q => c3 (by rw [← q]; exact bc)
  obtain ⟨i, j, k, i1, i2, i3, iE, d1, d2, d3⟩ := zq_sort (R := fun j => L (28 + j)) a1 b1 c1 nab nac nbc hE a2 b2 c2
  refine ⟨i, j, k, i1, i2, i3, iE, fun v hv => ?_⟩
  have cr := zq_cram d1 d2 d3
  have key : ∀ v, zEn (L (28 + i)) (L (28 + j)) (L (28 + k)) * y v = zPn (L (28 + i)) (L (28 + j)) (L (28 + k)) v * y 4 → y 4 * zQt L i j k v = zQt L i j k 4 * y v := fun v h => by
    show y 4 * (zsg (zEt L i j k) * zPn (L (28 + i)) (L (28 + j)) (L (28 + k)) v) = zsg (zEt L i j k) * zEn (L (28 + i)) (L (28 + j)) (L (28 + k)) * y v
    rw [Int.mul_assoc, h, Int.mul_left_comm, Int.mul_comm (y 4)]
  have hv2 : v = 0 ∨ v = 1 ∨ v = 2 ∨ v = 3 ∨ v = 4 := by omega
  rcases hv2 with rfl | rfl | rfl | rfl | rfl
  · refine key 0 ?_
    rw [hy.1, Int.mul_zero]
    show 0 = 0 * y 4
    omega
  · exact key 1 cr.1
  · exact key 2 cr.2.1
  · exact key 3 cr.2.2
  · exact key 4 rfl
theorem zmx_s {a x : Int} (ha : 0 ≤ a) : zmx (a * x) = a * zmx x := by
  unfold zmx
  by_cases c : 0 < x
  · rw [if_pos c]
    by_cases c2 : a = 0
    · rw [c2, Int.zero_mul, if_neg (by decide)]
    · rw [if_pos (Int.mul_pos (by omega) c)]
  · rw [if_neg c, Int.mul_zero, if_neg]
    have := Int.mul_nonneg (a := a) (b := -x) ha (by omega)
    rw [Int.mul_neg] at this
    omega
theorem sumZ_s (a : Int) (f : Nat → Int) : ∀ n : Nat, sumZ (fun k => a * f k) n = a * sumZ f n := by
  intro n
  induction n with
  | zero => show (0 : Int) = a * 0; omega
  | succ n ih =>
    show sumZ (fun k => a * f k) n + a * f n = a * (sumZ f n + f n)
    rw [ih, Int.mul_add]
theorem zSn_s (L : MM) (x : Nat → Int) {a : Int} (ha : 0 ≤ a) : zSn L (fun v => a * x v) = a * zSn L x := by
  unfold zSn
  rw [← sumZ_s]
  refine zq_sumc _ (fun k _ => ?_)
  have e : zwn L (fun v => a * x v) k = a * zwn L x k := by
    unfold zwn
    show L 25 k * (a * x (L 23 k).toNat) - L 26 k * (a * x (L 22 k).toNat) = _
    rw [Int.mul_left_comm, Int.mul_left_comm (L 26 k), Int.mul_sub]
  rw [ztn_mx, ztn_mx, e, zmx_s ha, Int.mul_left_comm]
/-- the least over the corners is the least over all rows of prices -/
theorem zq_least {L : MM} {P : Nat} (hz : zNe L) (hp : zPl L P) {s u : Int} (hu : 0 < u) (hI : ∀ a b c, a < b ∧ b < c ∧ c < P → zEt L a b c ≠ 0 → s * zQt L a b c 4 ≤ zSn L (zQt L a b c) * u) {x : Nat → Int} (hx : zVx x) : s * x 4 ≤ zSn L x * u := by
  obtain ⟨y, a, b, c, hy, ha, hb, hc, hab, hac, hbc, ho, hle⟩ := zq_desc hz hx
  obtain ⟨i, j, k, i1, i2, i3, iE, hpr⟩ := zq_tri hz hp hy ha hb hc hab hac hbc ho
  have h1 := hI i j k ⟨i1, i2, i3⟩ iE
  have q4 : 0 < zQt L i j k 4 := zsg_pos iE
  have hs : y 4 * zSn L (zQt L i j k) = zQt L i j k 4 * zSn L y := by
    rw [← zSn_s L _ (by have := hy.2.1; omega), ← zSn_s L y (by omega)]
    exact zSn_same (fun _ _ _ => rfl) rfl (fun k hk => (hz.2 k hk).1) hpr
  have h2 : s * y 4 ≤ zSn L y * u := by
    refine zq_ftr (x1 := s) (y1 := u) (x2 := zSn L (zQt L i j k)) (y2 := zQt L i j k 4) (x3 := zSn L y) (y3 := y 4) (by omega) q4 (by have := hy.2.1; omega) h1 ?_
    rw [Int.mul_comm (zSn L (zQt L i j k)), hs, Int.mul_comm]
    exact Int.le_refl _
  exact zq_ftr (x1 := s) (y1 := u) (x2 := zSn L y) (y2 := y 4) (x3 := zSn L x) (y3 := x 4) (by omega) hy.2.1 (by have := hx.2.1; omega) h2 hle
