/-! corners: where three planes meet -/
def zMn (a b : Nat → Int) (j k : Nat) : Int := a j * b k - a k * b j
def zEn (a b c : Nat → Int) : Int := c 2 * zMn a b 1 3 - c 1 * zMn a b 2 3 - c 3 * zMn a b 1 2
def zPn (a b c : Nat → Int) (v : Nat) : Int := if v = 1 then c 2 * zMn a b 3 4 - c 3 * zMn a b 2 4 + c 4 * zMn a b 2 3 else if v = 2 then c 3 * zMn a b 1 4 - c 1 * zMn a b 3 4 - c 4 * zMn a b 1 3 else if v = 3 then c 1 * zMn a b 2 4 - c 2 * zMn a b 1 4 + c 4 * zMn a b 1 2 else if v = 4 then zEn a b c else 0
def zsg (e : Int) : Int := if 0 < e then 1 else -1
def zQn (a b c : Nat → Int) (v : Nat) : Int := zsg (zEn a b c) * zPn a b c v
def zwn (M : MM) (pr : Nat → Int) (k : Nat) : Int := M 25 k * pr (M 23 k).toNat - M 26 k * pr (M 22 k).toNat
def ztn (M : MM) (pr : Nat → Int) (k : Nat) : Int := if 0 < zwn M pr k then M 24 k * (2520 : Int).tdiv (M 26 k) * zwn M pr k else 0
def zSn (M : MM) (pr : Nat → Int) : Int := sumZ (ztn M pr) (M 21 5).toNat
theorem zq_sumc {f g : Nat → Int} : ∀ n : Nat, (∀ k, k < n → f k = g k) → sumZ f n = sumZ g n := by
  intro n
  induction n with
  | zero => intro _; rfl
  | succ n ih =>
    intro h
    show sumZ f n + f n = sumZ g n + g n
    rw [ih (fun k hk => h k (by omega)), h n (by omega)]
theorem zSn_same {M M1 : MM} {pr pr1 : Nat → Int} (hc : ∀ c, 22 ≤ c → c ≤ 26 → M1 c = M c) (h5 : M1 21 5 = M 21 5) (hl : ∀ k : Nat, (k : Int) < M 21 5 → ZPL M k) (hp : ∀ v, v < 5 → pr1 v = pr v) : zSn M1 pr1 = zSn M pr := by
  unfold zSn
  rw [h5]
  refine zq_sumc _ (fun k hk => ?_)
  have q := hl k (by omega)
  unfold ZPL at q
  have ew : zwn M1 pr1 k = zwn M pr k := by
    unfold zwn
    rw [hc 22 (by decide) (by decide), hc 23 (by decide) (by decide), hc 25 (by decide) (by decide), hc 26 (by decide) (by decide), hp _ (by omega), hp _ (by omega)]
  unfold ztn
  rw [ew, hc 24 (by decide) (by decide), hc 26 (by decide) (by decide)]
theorem zsg_pos {e : Int} (h : e ≠ 0) : 0 < zsg e * e := by
  unfold zsg
  by_cases c : 0 < e
  · rw [if_pos c]; omega
  · rw [if_neg c]; omega
theorem zsg_cases (e : Int) : zsg e = 1 ∨ zsg e = -1 := by
  unfold zsg
  by_cases c : 0 < e
  · rw [if_pos c]; omega
  · rw [if_neg c]; omega
theorem zQn_4 (a b c : Nat → Int) : zQn a b c 4 = zsg (zEn a b c) * zEn a b c := rfl
theorem zq_swap {x y : Int} (h : (0 ≤ x ∧ y ≤ 0) ∨ (x ≤ 0 ∧ 0 ≤ y)) : (0 ≤ y ∧ x ≤ 0) ∨ (y ≤ 0 ∧ 0 ≤ x) := by omega
theorem zPn_bd {a b c : Nat → Int} (ha : zRS a) (hb : zRS b) (hc : zRS c) (v : Nat) : -7514 ≤ zPn a b c v ∧ zPn a b c v ≤ 7514 := by
  have m12 := ha.minor hb (j := 1) (k := 2) (by decide) (by decide) (by decide)
  have m13 := ha.minor hb (j := 1) (k := 3) (by decide) (by decide) (by decide)
  have m14 := ha.minor hb (j := 1) (k := 4) (by decide) (by decide) (by decide)
  have m23 := ha.minor hb (j := 2) (k := 3) (by decide) (by decide) (by decide)
  have m24 := ha.minor hb (j := 2) (k := 4) (by decide) (by decide) (by decide)
  have m34 := ha.minor hb (j := 3) (k := 4) (by decide) (by decide) (by decide)
  have c1 := hc.1 1 (by decide) (by decide)
  have c2 := hc.1 2 (by decide) (by decide)
  have c3 := hc.1 3 (by decide) (by decide)
  have c4 := hc.1 4 (by decide) (by decide)
  have c12 := hc.2 1 2 (by decide) (by decide) (by decide)
  have c13 := hc.2 1 3 (by decide) (by decide) (by decide)
  have c14 := hc.2 1 4 (by decide) (by decide) (by decide)
  have c23 := hc.2 2 3 (by decide) (by decide) (by decide)
  have c24 := hc.2 2 4 (by decide) (by decide) (by decide)
  have c34 := hc.2 3 4 (by decide) (by decide) (by decide)
  obtain ⟨A1, p1⟩ := zq_three c2 c3 c4 c23 c24 c34 m34 m24 m23
  obtain ⟨A2, p2⟩ := zq_three c3 c1 c4 (zq_swap c13) c34 c14 m14 m34 m13
  obtain ⟨A3, p3⟩ := zq_three c1 c2 c4 c12 c14 c24 m24 m14 m12
  obtain ⟨A4, p4⟩ := zq_three c2 c1 c3 (zq_swap c12) c23 c13 m13 m23 m12
  unfold zPn
  by_cases v1 : v = 1
  · rw [if_pos v1]; unfold zMn; omega
  rw [if_neg v1]
  by_cases v2 : v = 2
  · rw [if_pos v2]; unfold zMn; omega
  rw [if_neg v2]
  by_cases v3 : v = 3
  · rw [if_pos v3]; unfold zMn; omega
  rw [if_neg v3]
  by_cases v4 : v = 4
  · rw [if_pos v4]; unfold zEn zMn; omega
  rw [if_neg v4]
  omega
theorem zQn_bd {a b c : Nat → Int} (ha : zRS a) (hb : zRS b) (hc : zRS c) (v : Nat) : -7514 ≤ zQn a b c v ∧ zQn a b c v ≤ 7514 := by
  have h := zPn_bd ha hb hc v
  unfold zQn
  rcases zsg_cases (zEn a b c) with e | e
  · rw [e]; omega
  · rw [e]; omega
/-- what the search for the least leaves as it was -/
def zFF (L M : MM) : Prop := (∀ c, c ≠ 21 → c ≠ 41 → M c = L c) ∧ (∀ j, j < 9 ∨ 16 < j → M 21 j = L 21 j) ∧ M 41 0 = L 41 0
/-- the planes are laid -/
def zRo (L : MM) : Prop := (0 ≤ L 21 5 ∧ L 21 5 ≤ 10) ∧ (∀ k : Nat, (k : Int) < L 21 5 → ZPL L k) ∧ (3 ≤ L 21 7 ∧ L 21 7 ≤ 13) ∧ (∀ i : Nat, (i : Int) < L 21 7 → zRS (L (28 + i)) ∧ ∀ j, j < 5 → -17 ≤ L (28 + i) j ∧ L (28 + i) j ≤ 17) ∧ L 41 0 = 0
def zD (P i j k a b c : Nat) : Prop := a < b ∧ b < c ∧ c < P ∧ (a < i ∨ (a = i ∧ (b < j ∨ (b = j ∧ c < k))))
def zEt (L : MM) (a b c : Nat) : Int := zEn (L (28 + a)) (L (28 + b)) (L (28 + c))
def zQt (L : MM) (a b c : Nat) : Nat → Int := zQn (L (28 + a)) (L (28 + b)) (L (28 + c))
/-- s / u is the least of the corners in D -/
def zIn (L : MM) (D : Nat → Nat → Nat → Prop) (s u : Int) : Prop := (0 ≤ s ∧ s ≤ 492317280000) ∧ (0 ≤ u ∧ u ≤ 7514) ∧ (u = 0 → ∀ a b c, D a b c → zEt L a b c = 0) ∧ (u ≠ 0 → (∃ a b c, D a b c ∧ zEt L a b c ≠ 0 ∧ s = zSn L (zQt L a b c) ∧ u = zQt L a b c 4) ∧ ∀ a b c, D a b c → zEt L a b c ≠ 0 → s * zQt L a b c 4 ≤ zSn L (zQt L a b c) * u)
theorem zIn.to {L : MM} {D D1 : Nat → Nat → Nat → Prop} {s u : Int} (h : zIn L D s u) (e : ∀ a b c, D a b c ↔ D1 a b c) : zIn L D1 s u := by
  have q : D = D1 := by
    funext a b c
    exact propext (e a b c)
  rw [← q]
  exact h
theorem zIn.zero {L : MM} {D : Nat → Nat → Nat → Prop} {s u : Int} (h : zIn L D s u) {a b c : Nat} (hE : zEt L a b c = 0) : zIn L (fun x y z => D x y z ∨ (x = a ∧ y = b ∧ z = c)) s u := by
  obtain ⟨h1, h2, h3, h4⟩ := h
  refine ⟨h1, h2, fun q x y z hd => ?_, fun q => ⟨?_, fun x y z hd hn => ?_⟩⟩
  · rcases hd with hd | ⟨rfl, rfl, rfl⟩
    · exact h3 q x y z hd
    · exact hE
  · obtain ⟨x, y, z, g1, g2⟩ := (h4 q).1
    exact ⟨x, y, z, Or.inl g1, g2⟩
  · rcases hd with hd | ⟨rfl, rfl, rfl⟩
    · exact (h4 q).2 x y z hd hn
    · exact absurd hE hn
theorem zq_less {s u v S T t : Int} (hu : 0 < u) (hv : 0 < v) (ht : 0 < t) (h1 : S * u < s * v) (h2 : s * t ≤ T * u) : S * t ≤ T * v := by
  have a1 : S * u * t < s * v * t := Int.mul_lt_mul_of_pos_right h1 ht
  have a2 : s * t * v ≤ T * u * v := Int.mul_le_mul_of_nonneg_right h2 (by omega)
  have e1 : S * u * t = S * t * u := Int.mul_right_comm _ _ _
  have e2 : s * v * t = s * t * v := Int.mul_right_comm _ _ _
  have e3 : T * u * v = T * v * u := Int.mul_right_comm _ _ _
  rw [e1, e2] at a1
  rw [e3] at a2
  have a3 : S * t * u < T * v * u := Int.lt_of_lt_of_le a1 a2
  exact Int.le_of_lt (Int.lt_of_mul_lt_mul_right a3 (by omega))
theorem zIn.new {L : MM} {D : Nat → Nat → Nat → Prop} {s u : Int} (h : zIn L D s u) {a b c : Nat} (hE : zEt L a b c ≠ 0) (hS : 0 ≤ zSn L (zQt L a b c) ∧ zSn L (zQt L a b c) ≤ 492317280000) (hv : zQt L a b c 4 ≤ 7514) (hl : u = 0 ∨ zSn L (zQt L a b c) * u < s * zQt L a b c 4) : zIn L (fun x y z => D x y z ∨ (x = a ∧ y = b ∧ z = c)) (zSn L (zQt L a b c)) (zQt L a b c 4) := by
  have hv0 : 0 < zQt L a b c 4 := zsg_pos hE
  obtain ⟨h1, h2, h3, h4⟩ := h
  refine ⟨hS, by omega, fun q => by omega, fun _ => ⟨⟨a, b, c, Or.inr ⟨rfl, rfl, rfl⟩, hE, rfl, rfl⟩, fun x y z hd hn => ?_⟩⟩
  rcases hd with hd | ⟨rfl, rfl, rfl⟩
  · have ht : 0 < zQt L x y z 4 := zsg_pos hn
    by_cases c0 : u = 0
    · exact absurd (h3 c0 x y z hd) hn
    · have h5 := (h4 c0).2 x y z hd hn
      exact zq_less (by omega) hv0 ht (hl.resolve_left c0) h5
  · exact Int.le_refl _
theorem zIn.keep {L : MM} {D : Nat → Nat → Nat → Prop} {s u : Int} (h : zIn L D s u) {a b c : Nat} (hl : ¬ (u = 0 ∨ zSn L (zQt L a b c) * u < s * zQt L a b c 4)) : zIn L (fun x y z => D x y z ∨ (x = a ∧ y = b ∧ z = c)) s u := by
  obtain ⟨h1, h2, h3, h4⟩ := h
  refine ⟨h1, h2, fun q => absurd (Or.inl q) hl, fun q => ⟨?_, fun x y z hd hn => ?_⟩⟩
  · obtain ⟨x, y, z, g1, g2⟩ := (h4 q).1
    exact ⟨x, y, z, Or.inl g1, g2⟩
  · rcases hd with hd | ⟨rfl, rfl, rfl⟩
    · exact (h4 q).2 x y z hd hn
    · omega
theorem zD_k {P i j k : Nat} (h1 : i < j) (h2 : j < k) (h3 : k < P) : ∀ a b c, (zD P i j k a b c ∨ (a = i ∧ b = j ∧ c = k)) ↔ zD P i j (k + 1) a b c := by
  intro a b c
  unfold zD
  omega
theorem zD_j {P i j k : Nat} (h3 : P ≤ k) : ∀ a b c, zD P i j k a b c ↔ zD P i (j + 1) (j + 2) a b c := by
  intro a b c
  unfold zD
  omega
theorem zD_i {P i j k : Nat} (h3 : P ≤ j) : ∀ a b c, zD P i j k a b c ↔ zD P (i + 1) (i + 2) (i + 3) a b c := by
  intro a b c
  unfold zD
  omega
/-- a corner's prices are set -/
def zGd (L M M1 : MM) (i j k : Nat) : Prop := (∀ c, c ≠ 41 → M1 c = M c) ∧ ∀ v, v < 5 → M1 41 v = zQt L i j k v
/-- two planes are crossed -/
def zKs (L : MM) (i j : Nat) (M : MM) : Prop := zFF L M ∧ M 21 9 = zMn (L (28 + i)) (L (28 + j)) 1 2 ∧ M 21 10 = zMn (L (28 + i)) (L (28 + j)) 1 3 ∧ M 21 11 = zMn (L (28 + i)) (L (28 + j)) 1 4 ∧ M 21 12 = zMn (L (28 + i)) (L (28 + j)) 2 3 ∧ M 21 13 = zMn (L (28 + i)) (L (28 + j)) 2 4 ∧ M 21 14 = zMn (L (28 + i)) (L (28 + j)) 3 4
theorem zKs.bd {L M : MM} {i j : Nat} (hL : zRo L) (h : zKs L i j M) (hi : (i : Int) < L 21 7) (hj : (j : Int) < L 21 7) : ∀ q, 9 ≤ q → q ≤ 14 → -578 ≤ M 21 q ∧ M 21 q ≤ 578 := by
  intro q h1 h2
  have ha := (hL.2.2.2.1 i hi).1
  have hb := (hL.2.2.2.1 j hj).1
  have m12 := ha.minor hb (j := 1) (k := 2) (by decide) (by decide) (by decide)
  have m13 := ha.minor hb (j := 1) (k := 3) (by decide) (by decide) (by decide)
  have m14 := ha.minor hb (j := 1) (k := 4) (by decide) (by decide) (by decide)
  have m23 := ha.minor hb (j := 2) (k := 3) (by decide) (by decide) (by decide)
  have m24 := ha.minor hb (j := 2) (k := 4) (by decide) (by decide) (by decide)
  have m34 := ha.minor hb (j := 3) (k := 4) (by decide) (by decide) (by decide)
  obtain ⟨-, k1, k2, k3, k4, k5, k6⟩ := h
  unfold zMn at k1 k2 k3 k4 k5 k6
  have hq : q = 9 ∨ q = 10 ∨ q = 11 ∨ q = 12 ∨ q = 13 ∨ q = 14 := by omega
  rcases hq with rfl | rfl | rfl | rfl | rfl | rfl <;> omega
theorem zq_meet {L M M1 : MM} {i j k : Nat} {z : Int} (hL : zRo L) (h : zKs L i j M) (hm : (z = 0 ∧ (M (28 + k) 2 * M 21 10 - M (28 + k) 1 * M 21 12 - M (28 + k) 3 * M 21 9) = 0 ∧ M1 = M) ∨ (z = 1 ∧ 0 < (M (28 + k) 2 * M 21 10 - M (28 + k) 1 * M 21 12 - M (28 + k) 3 * M 21 9) ∧ M1 = up2 (up2 (up2 (up2 M 41 1 (1 * (M (28 + k) 2 * M 21 14 - M (28 + k) 3 * M 21 13 + M (28 + k) 4 * M 21 12))) 41 2 (1 * (M (28 + k) 3 * M 21 11 - M (28 + k) 1 * M 21 14 - M (28 + k) 4 * M 21 10))) 41 3 (1 * (M (28 + k) 1 * M 21 13 - M (28 + k) 2 * M 21 11 + M (28 + k) 4 * M 21 9))) 41 4 (1 * (M (28 + k) 2 * M 21 10 - M (28 + k) 1 * M 21 12 - M (28 + k) 3 * M 21 9))) ∨ (z = 1 ∧ (M (28 + k) 2 * M 21 10 - M (28 + k) 1 * M 21 12 - M (28 + k) 3 * M 21 9) < 0 ∧ M1 = up2 (up2 (up2 (up2 M 41 1 ((-1) * (M (28 + k) 2 * M 21 14 - M (28 + k) 3 * M 21 13 + M (28 + k) 4 * M 21 12))) 41 2 ((-1) * (M (28 + k) 3 * M 21 11 - M (28 + k) 1 * M 21 14 - M (28 + k) 4 * M 21 10))) 41 3 ((-1) * (M (28 + k) 1 * M 21 13 - M (28 + k) 2 * M 21 11 + M (28 + k) 4 * M 21 9))) 41 4 ((-1) * (M (28 + k) 2 * M 21 10 - M (28 + k) 1 * M 21 12 - M (28 + k) 3 * M 21 9)))) (hk : k < 13) : (z = 0 ∧ zEt L i j k = 0 ∧ M1 = M) ∨ (z = 1 ∧ zEt L i j k ≠ 0 ∧ zGd L M M1 i j k) := by
  obtain ⟨hF, k1, k2, k3, k4, k5, k6⟩ := h
  have e28 : M (28 + k) = L (28 + k) := hF.1 _ (by omega) (by omega)
  have e41 : M 41 0 = 0 := by rw [hF.2.2]; exact hL.2.2.2.2
  rw [e28, k1, k2, k3, k4, k5, k6] at hm
  have eE : L (28 + k) 2 * zMn (L (28 + i)) (L (28 + j)) 1 3 - L (28 + k) 1 * zMn (L (28 + i)) (L (28 + j)) 2 3 - L (28 + k) 3 * zMn (L (28 + i)) (L (28 + j)) 1 2 = zEt L i j k := rfl
  rw [eE] at hm
  have key : ∀ sg : Int, zsg (zEt L i j k) = sg → zGd L M (up2 (up2 (up2 (up2 M 41 1 (sg * (L (28 + k) 2 * zMn (L (28 + i)) (L (28 + j)) 3 4 - L (28 + k) 3 * zMn (L (28 + i)) (L (28 + j)) 2 4 + L (28 + k) 4 * zMn (L (28 + i)) (L (28 + j)) 2 3))) 41 2 (sg * (L (28 + k) 3 * zMn (L (28 + i)) (L (28 + j)) 1 4 - L (28 + k) 1 * zMn (L (28 + i)) (L (28 + j)) 3 4 - L (28 + k) 4 * zMn (L (28 + i)) (L (28 + j)) 1 3))) 41 3 (sg * (L (28 + k) 1 * zMn (L (28 + i)) (L (28 + j)) 2 4 - L (28 + k) 2 * zMn (L (28 + i)) (L (28 + j)) 1 4 + L (28 + k) 4 * zMn (L (28 + i)) (L (28 + j)) 1 2))) 41 4 (sg * zEt L i j k)) i j k := by
    intro sg hsg
    subst hsg
    refine ⟨fun c hc => by rw [up2_ne _ _ _ _ hc, up2_ne _ _ _ _ hc, up2_ne _ _ _ _ hc, up2_ne _ _ _ _ hc], fun v hv => ?_⟩
    have hv2 : v = 0 ∨ v = 1 ∨ v = 2 ∨ v = 3 ∨ v = 4 := by omega
    rcases hv2 with rfl | rfl | rfl | rfl | rfl
    · show M 41 0 = zsg (zEt L i j k) * 0
      rw [e41, Int.mul_zero]
    · rfl
    · rfl
    · rfl
    · rfl
  rcases hm with ⟨h1, h2, h3⟩ | ⟨h1, h2, h3⟩ | ⟨h1, h2, h3⟩
  · exact Or.inl ⟨h1, h2, h3⟩
  · refine Or.inr ⟨h1, by omega, ?_⟩
    rw [h3]
    exact key 1 (by unfold zsg; rw [if_pos h2])
  · refine Or.inr ⟨h1, by omega, ?_⟩
    rw [h3]
    exact key (-1) (by unfold zsg; rw [if_neg (by omega)])
theorem zGd.zpr {L M M1 : MM} {i j k : Nat} (hL : zRo L) (h : zFF L M) (hg : zGd L M M1 i j k) (hi : (i : Int) < L 21 7) (hj : (j : Int) < L 21 7) (hk : (k : Int) < L 21 7) : ZPR M1 := by
  have e5 : M1 21 5 = L 21 5 := by rw [hg.1 21 (by decide), h.2.1 5 (by decide)]
  refine ⟨by rw [e5]; exact hL.1, fun q hq => ?_, fun v hv => ?_⟩
  · rw [e5] at hq
    have := hL.2.1 q hq
    unfold ZPL at this ⊢
    rw [hg.1 22 (by decide), hg.1 23 (by decide), hg.1 24 (by decide), hg.1 25 (by decide), hg.1 26 (by decide), h.1 22 (by decide) (by decide), h.1 23 (by decide) (by decide), h.1 24 (by decide) (by decide), h.1 25 (by decide) (by decide), h.1 26 (by decide) (by decide)]
    exact this
  · rw [hg.2 v hv]
    exact zQn_bd (hL.2.2.2.1 i hi).1 (hL.2.2.2.1 j hj).1 (hL.2.2.2.1 k hk).1 v
theorem zGd.sum {L M M1 : MM} {i j k : Nat} (hL : zRo L) (h : zFF L M) (hg : zGd L M M1 i j k) : sumZ (zqt M1) (M1 21 5).toNat = zSn L (zQt L i j k) := by
  refine Eq.trans (show _ = zSn M1 (M1 41) from rfl) ?_
  refine zSn_same (fun c h1 h2 => ?_) ?_ hL.2.1 hg.2
  · rw [hg.1 c (by omega), h.1 c (by omega) (by omega)]
  · rw [hg.1 21 (by decide), h.2.1 5 (by decide)]
theorem zq_wcs {L M M1 : MM} {i j k : Nat} (hL : zRo L) (h : zKs L i j M) (hg : zGd L M M1 i j k) (hi : (i : Int) < L 21 7) (hj : (j : Int) < L 21 7) (hk : (k : Int) < L 21 7) {D : Nat → Nat → Nat → Prop} (hI : zIn L D (M 21 15) (M 21 16)) (hE : zEt L i j k ≠ 0) : zKs L i j (zqC M1) ∧ zIn L (fun x y z => D x y z ∨ (x = i ∧ y = j ∧ z = k)) (zqC M1 21 15) (zqC M1 21 16) := by
  have hz := hg.zpr hL h.1 hi hj hk
  have hs := hg.sum hL h.1
  have e21 := hg.1 21 (by decide)
  have hbd : 0 ≤ zSn L (zQt L i j k) ∧ zSn L (zQt L i j k) ≤ 492317280000 := by
    rw [← hs]
    have := zq_sumt hz (M1 21 5).toNat (by have := hz.1; omega)
    have := hz.1
    omega
  have hv4 : M1 41 4 = zQt L i j k 4 := hg.2 4 (by decide)
  have hv7 : zQt L i j k 4 ≤ 7514 := (zQn_bd (hL.2.2.2.1 i hi).1 (hL.2.2.2.1 j hj).1 (hL.2.2.2.1 k hk).1 4).2
  have hff : zKs L i j M1 := by
    obtain ⟨h0, h1⟩ := h
    refine ⟨⟨fun c c1 c2 => by rw [hg.1 c c2]; exact h0.1 c c1 c2, fun q hq => by rw [e21]; exact h0.2.1 q hq, ?_⟩, by rw [e21]; exact h1⟩
    rw [hg.2 0 (by decide), hL.2.2.2.2]
    show zsg _ * 0 = 0
    exact Int.mul_zero _
  unfold zqC
  rw [hs, e21, hv4]
  by_cases hc : M 21 16 = 0 ∨ zSn L (zQt L i j k) * M 21 16 < M 21 15 * zQt L i j k 4
  · rw [cif_t hc]
    refine ⟨⟨⟨fun c c1 c2 => ?_, fun q hq => ?_, ?_⟩, ?_⟩, ?_⟩
    · rw [up2_ne _ _ _ _ c1, up2_ne _ _ _ _ c1]; exact hff.1.1 c c1 c2
    · rw [up2_in, if_neg (by omega), up2_in, if_neg (by omega)]; exact hff.1.2.1 q hq
    · exact hff.1.2.2
    · exact hff.2
    · exact hI.new hE hbd hv7 hc
  · rw [cif_f hc]
    refine ⟨hff, ?_⟩
    rw [e21]
    exact hI.keep hc
theorem zGd.ff {L M : MM} {i j k : Nat} {D : Nat → Nat → Nat → Prop} (hI : zIn L D (M 21 15) (M 21 16)) (hE : zEt L i j k = 0) : zIn L (fun x y z => D x y z ∨ (x = i ∧ y = j ∧ z = k)) (M 21 15) (M 21 16) := hI.zero hE
/-- the rows that were laid -/
theorem zLB.ro {M0 L : MM} {n : Nat} (hn : (n : Int) = M0 21 5) (hl : ∀ k : Nat, (k : Int) < M0 21 5 → ZPL M0 k) (hs : M0 21 5 ≤ 10) (h41 : M0 41 0 = 0) (h : zLB M0 n L) : zRo L := by
  obtain ⟨hF, h7, hu, hr, -⟩ := h
  have e5 : L 21 5 = M0 21 5 := hF.2 5 (by decide)
  refine ⟨by rw [e5]; omega, fun k hk => ?_, by omega, fun i hi => ?_, by rw [hF.1 41 (by decide) (by decide)]; exact h41⟩
  · rw [e5] at hk
    have := hl k hk
    unfold ZPL at this ⊢
    rw [hF.1 22 (by decide) (by decide), hF.1 23 (by decide) (by decide), hF.1 24 (by decide) (by decide), hF.1 25 (by decide) (by decide), hF.1 26 (by decide) (by decide)]
    exact this
  · by_cases c : i < 3
    · have hq := hu (i + 1) (by omega) (by omega)
      rw [show 27 + (i + 1) = 28 + i by omega] at hq
      refine ⟨zRS.unit hq, fun j hj => ?_⟩
      rw [hq j hj]
      by_cases c2 : j = i + 1
      · rw [if_pos c2]; omega
      · rw [if_neg c2]; omega
    · obtain ⟨a, ha, hb, hq⟩ := hr i (by omega) hi
      have hz := hl a (by omega)
      refine ⟨zRS.lane hq hz, fun j hj => ?_⟩
      rw [hq j hj]
      unfold ZPL at hz
      by_cases c2 : j = (M0 22 a).toNat
      · rw [if_pos c2]; omega
      · rw [if_neg c2]
        by_cases c3 : j = (M0 23 a).toNat
        · rw [if_pos c3]; omega
        · rw [if_neg c3]; omega
