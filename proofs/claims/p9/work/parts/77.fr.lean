/-! what each call says, by name; the class leaves the reference alone, and the other way round -/
def pc_posts (n : Int) (M : MM) (z : Int) (M' : MM) : Prop := (z = 0 ∧ (n < 2 ∨ 5 < n) ∧ M' = M) ∨ (z = 1 ∧ (2 ≤ n ∧ n ≤ 5) ∧ M' = up2 (up2 (up2 M 1 0 n) 1 1 0) 1 4 0)
def pr_posts (n : Int) (M : MM) (z : Int) (M' : MM) : Prop := (z = 1 ∧ 2 ≤ n ∧ n ≤ 5 ∧ M' = up2 (up2 (up2 (up2 M 84 0 0) 85 0 n) 86 0 0) 95 0 0) ∨ (z = 0 ∧ (n < 2 ∨ 5 < n) ∧ M' = up2 M 84 0 0)
def pc_lane (f t r p q : Int) (M : MM) (z : Int) (M' : MM) : Prop := (z = -1 ∧ ¬ (M 1 1 < 10 ∧ ((0 ≤ f ∧ f < M 1 0 - 1) ∧ (0 < t ∧ t < M 1 0) ∧ f ≠ t) ∧ (0 ≤ r ∧ r ≤ 100) ∧ 1 ≤ p ∧ p ≤ 9 ∧ 1 ≤ q ∧ q ≤ 9) ∧ M' = M) ∨ ((M 1 1 < 10 ∧ ((0 ≤ f ∧ f < M 1 0 - 1) ∧ (0 < t ∧ t < M 1 0) ∧ f ≠ t) ∧ (0 ≤ r ∧ r ≤ 100) ∧ 1 ≤ p ∧ p ≤ 9 ∧ 1 ≤ q ∧ q ≤ 9) ∧ z = M 1 1 ∧ M' = up2 (up2 (up2 (up2 (up2 (up2 (up2 (up2 (up2 M (3 + (M 1 1).toNat) 0 f) (3 + (M 1 1).toNat) 1 t) (3 + (M 1 1).toNat) 2 r) (3 + (M 1 1).toNat) 3 p) (3 + (M 1 1).toNat) 4 q) (3 + (M 1 1).toNat) 5 0) (3 + (M 1 1).toNat) 6 0) (3 + (M 1 1).toNat) 7 1) 1 1 (M 1 1 + 1))
def pr_lane (fr t r p q : Int) (M : MM) (z : Int) (M' : MM) : Prop := (z = M 86 0 ∧ (M 86 0 < 10 ∧ 0 ≤ fr ∧ fr < M 85 0 - 1 ∧ 0 < t ∧ t < M 85 0 ∧ fr ≠ t ∧ 0 ≤ r ∧ r ≤ 100 ∧ 1 ≤ p ∧ p ≤ 9 ∧ 1 ≤ q ∧ q ≤ 9) ∧ M' = up2 (up2 (up2 (up2 (up2 (up2 (up2 (up2 (up2 (up2 M 84 0 0) 86 0 (M 86 0 + 1)) 87 (M 86 0).toNat fr) 88 (M 86 0).toNat t) 89 (M 86 0).toNat r) 90 (M 86 0).toNat p) 91 (M 86 0).toNat q) 92 (M 86 0).toNat 0) 93 (M 86 0).toNat 0) 94 (M 86 0).toNat 1) ∨ (z = -1 ∧ ¬ (M 86 0 < 10 ∧ 0 ≤ fr ∧ fr < M 85 0 - 1 ∧ 0 < t ∧ t < M 85 0 ∧ fr ≠ t ∧ 0 ≤ r ∧ r ≤ 100 ∧ 1 ≤ p ∧ p ≤ 9 ∧ 1 ≤ q ∧ q ≤ 9) ∧ M' = up2 M 84 0 0)
def pc_room (k r : Int) (M : MM) (z : Int) (M' : MM) : Prop := (z = 0 ∧ ¬ ((0 ≤ k ∧ k < M 1 1) ∧ 0 ≤ r ∧ r ≤ 100) ∧ M' = M) ∨ (z = 1 ∧ ((0 ≤ k ∧ k < M 1 1) ∧ 0 ≤ r ∧ r ≤ 100) ∧ M' = up2 M (3 + k.toNat) 2 r)
def pr_room (k r : Int) (M : MM) (z : Int) (M' : MM) : Prop := (z = 1 ∧ 0 ≤ k ∧ k < M 86 0 ∧ 0 ≤ r ∧ r ≤ 100 ∧ M' = up2 (up2 M 84 0 0) 89 k.toNat r) ∨ (z = 0 ∧ ¬ (0 ≤ k ∧ k < M 86 0 ∧ 0 ≤ r ∧ r ≤ 100) ∧ M' = up2 M 84 0 0)
def pc_share (k p q d : Int) (M : MM) (z : Int) (M' : MM) : Prop := (z = 0 ∧ ¬ ((0 ≤ k ∧ k < M 1 1) ∧ (1 ≤ p ∧ p ≤ 9 ∧ 1 ≤ q ∧ q ≤ 9) ∧ 0 ≤ d ∧ d ≤ 8) ∧ M' = M) ∨ (z = 1 ∧ ((0 ≤ k ∧ k < M 1 1) ∧ (1 ≤ p ∧ p ≤ 9 ∧ 1 ≤ q ∧ q ≤ 9) ∧ 0 ≤ d ∧ d ≤ 8) ∧ M' = up2 (up2 (up2 M (3 + k.toNat) 3 p) (3 + k.toNat) 4 q) (3 + k.toNat) 5 d)
def pr_share (k p q b : Int) (M : MM) (z : Int) (M' : MM) : Prop := (z = 1 ∧ (0 ≤ k ∧ k < M 86 0 ∧ 1 ≤ p ∧ p ≤ 9 ∧ 1 ≤ q ∧ q ≤ 9 ∧ 0 ≤ b ∧ b ≤ 8) ∧ M' = up2 (up2 (up2 (up2 M 84 0 0) 90 k.toNat p) 91 k.toNat q) 92 k.toNat b) ∨ (z = 0 ∧ ¬ (0 ≤ k ∧ k < M 86 0 ∧ 1 ≤ p ∧ p ≤ 9 ∧ 1 ≤ q ∧ q ≤ 9 ∧ 0 ≤ b ∧ b ≤ 8) ∧ M' = up2 M 84 0 0)
def pc_tell (k w : Int) (M : MM) (z : Int) (M' : MM) : Prop := M' = M ∧ ((z = -1 ∧ ¬ ((0 ≤ k ∧ k < M 1 1) ∧ 0 ≤ w ∧ w ≤ 7)) ∨ (((0 ≤ k ∧ k < M 1 1) ∧ 0 ≤ w ∧ w ≤ 7) ∧ z = M (3 + k.toNat) w.toNat))
def pr_tell (k w : Int) (M : MM) (z : Int) (M' : MM) : Prop := (z = -1 ∧ (¬ (0 ≤ k ∧ k < M 86 0) ∨ w < 0 ∨ 7 < w) ∧ M' = up2 M 84 0 0) ∨ ((0 ≤ k ∧ k < M 86 0) ∧ M' = up2 M 84 0 0 ∧ ((w = 0 ∧ z = M 87 k.toNat) ∨ (w = 1 ∧ z = M 88 k.toNat) ∨ (w = 2 ∧ z = M 89 k.toNat) ∨ (w = 3 ∧ z = M 90 k.toNat) ∨ (w = 4 ∧ z = M 91 k.toNat) ∨ (w = 5 ∧ z = M 92 k.toNat))) ∨ ((0 ≤ k ∧ k < M 86 0) ∧ M' = up2 (up2 (up2 M 84 0 0) 84 15 (nU (M 93 k.toNat) (M 94 k.toNat))) 84 16 (nD (M 93 k.toNat) (M 94 k.toNat)) ∧ ((w = 6 ∧ z = nU (M 93 k.toNat) (M 94 k.toNat)) ∨ (w = 7 ∧ z = nD (M 93 k.toNat) (M 94 k.toNat))))
def pc_most (w b : Int) (M : MM) (z : Int) (M' : MM) : Prop := ((w < 0 ∨ 2 < w) ∧ z = -1 ∧ M' = M) ∨ ((0 ≤ w ∧ w ≤ 2) ∧ ∃ (s u : Int) (L : MM), zLe (zLo M w) L s u ∧ ((b ≠ 0 ∧ z = nD s (2520 * u)) ∨ (b = 0 ∧ z = nU s (2520 * u))) ∧ zCO M M')
def pr_most (w b : Int) (M : MM) (z : Int) (M' : MM) : Prop := FO M M' ∧ ((w < 0 ∨ 2 < w) → z = -1)
def pc_more (k r b : Int) (M : MM) (z : Int) (M' : MM) : Prop := (¬ ((0 ≤ k ∧ k < M 1 1) ∧ 0 ≤ r ∧ r ≤ 100) ∧ z = 0 ∧ M' = M) ∨ (((0 ≤ k ∧ k < M 1 1) ∧ 0 ≤ r ∧ r ≤ 100) ∧ ∃ (s u s2 u2 : Int) (L L2 Mx : MM), zLe (zLo M 0) L s u ∧ zFG (zLo M 0) Mx 43 ∧ zLe (up2 Mx 24 k.toNat r) L2 s2 u2 ∧ ((b ≠ 0 ∧ z = nD (nU s2 (2520 * u2) * nD s (2520 * u) - nU s (2520 * u) * nD s2 (2520 * u2)) (nD s2 (2520 * u2) * nD s (2520 * u))) ∨ (b = 0 ∧ z = nU (nU s2 (2520 * u2) * nD s (2520 * u) - nU s (2520 * u) * nD s2 (2520 * u2)) (nD s2 (2520 * u2) * nD s (2520 * u)))) ∧ zCO M M')
def pr_more (k r b : Int) (M : MM) (z : Int) (M' : MM) : Prop := FO M M' ∧ (¬ (0 ≤ k ∧ k < M 86 0 ∧ 0 ≤ r ∧ r ≤ 100) → z = 0)
def pc_way (f t : Int) (M : MM) (z : Int) (M' : MM) : Prop := (¬ ((0 ≤ f ∧ f < M 1 0) ∧ (0 ≤ t ∧ t < M 1 0) ∧ f ≠ t) ∧ z = -1 ∧ M' = (up2 M 1 4 0)) ∨ (((0 ≤ f ∧ f < M 1 0) ∧ (0 ≤ t ∧ t < M 1 0) ∧ f ≠ t) ∧ (((zqF (up2 M 1 4 0) f t) 16 4 = 0 ∧ z = -1 ∧ M' = (zqF (up2 M 1 4 0) f t)) ∨ ((zqF (up2 M 1 4 0) f t) 16 4 ≠ 0 ∧ z = (zqF (up2 M 1 4 0) f t) 16 4 ∧ M' = up2 (cp2 (zqF (up2 M 1 4 0) f t) 19 13 4) 1 4 ((zqF (up2 M 1 4 0) f t) 16 4))))
def pr_way (f t : Int) (M : MM) (z : Int) (M' : MM) : Prop := (wyM M f t 84 27 = 0 ∧ z = -1 ∧ M' = up2 (wyM M f t) 95 0 (wyM M f t 84 27)) ∨ (wyM M f t 84 27 ≠ 0 ∧ z = wyM M f t 84 27 ∧ M' = kpM (wyM M f t))
def pc_ring (M : MM) (z : Int) (M' : MM) : Prop := ((zqR (up2 M 1 4 0)) 16 4 = 0 ∧ z = -1 ∧ M' = (zqR (up2 M 1 4 0))) ∨ ((zqR (up2 M 1 4 0)) 16 4 ≠ 0 ∧ z = (zqR (up2 M 1 4 0)) 16 4 ∧ M' = up2 (cp2 (zqR (up2 M 1 4 0)) 19 13 4) 1 4 ((zqR (up2 M 1 4 0)) 16 4))
def pr_ring (M : MM) (z : Int) (M' : MM) : Prop := (frM (up2 M 84 0 0) 84 27 = 0 ∧ z = -1 ∧ M' = up2 (frM (up2 M 84 0 0)) 95 0 (frM (up2 M 84 0 0) 84 27)) ∨ (frM (up2 M 84 0 0) 84 27 ≠ 0 ∧ z = frM (up2 M 84 0 0) 84 27 ∧ M' = kpM (frM (up2 M 84 0 0)))
def pc_row (k : Int) (M : MM) (z : Int) (M' : MM) : Prop := M' = M ∧ ((z = -1 ∧ ¬ (0 ≤ k ∧ k < M 1 4)) ∨ ((0 ≤ k ∧ k < M 1 4) ∧ z = M 13 k.toNat))
def pr_row (k : Int) (M : MM) (z : Int) (M' : MM) : Prop := M' = up2 M 84 0 0 ∧ ((z = M 96 k.toNat ∧ 0 ≤ k ∧ k < M 95 0) ∨ (z = -1 ∧ (k < 0 ∨ M 95 0 ≤ k)))
def pc_gain (b : Int) (N : Nat) (M : MM) (z : Int) (M' : MM) : Prop := (N = 0 ∧ z = 0 ∧ M' = M) ∨ (N ≠ 0 ∧ M' = up2 (up2 M 42 0 (nU (cU M 13 N) (cD M 13 N))) 42 1 (nD (cU M 13 N) (cD M 13 N)) ∧ ((b ≠ 0 ∧ z = (nD (cU M 13 N) (cD M 13 N))) ∨ (b = 0 ∧ z = (nU (cU M 13 N) (cD M 13 N)))))
def pr_gain (b : Int) (M : MM) (z : Int) (M' : MM) : Prop := M' = up2 M 84 0 0 ∧ ((z = 0 ∧ M 95 0 = 0) ∨ (M 95 0 ≠ 0 ∧ b ≠ 0 ∧ z = M 98 0) ∨ (M 95 0 ≠ 0 ∧ b = 0 ∧ z = M 97 0))
def pc_send (k u v : Int) (M : MM) (z : Int) (M' : MM) : Prop := (z = 0 ∧ ¬ ((0 ≤ k ∧ k < M 1 1) ∧ (0 ≤ u ∧ u ≤ 1000) ∧ 1 ≤ v ∧ v ≤ 9) ∧ M' = M) ∨ (z = 1 ∧ ((0 ≤ k ∧ k < M 1 1) ∧ (0 ≤ u ∧ u ≤ 1000) ∧ 1 ≤ v ∧ v ≤ 9) ∧ M' = up2 (up2 (up2 (up2 M 42 0 (nU u v)) 42 1 (nD u v)) (3 + k.toNat) 6 (nU u v)) (3 + k.toNat) 7 (nD u v))
def pr_send (k u v : Int) (M : MM) (z : Int) (M' : MM) : Prop := (z = 1 ∧ (0 ≤ k ∧ k < M 86 0 ∧ 0 ≤ u ∧ u ≤ 1000 ∧ 1 ≤ v ∧ v ≤ 9) ∧ M' = up2 (up2 (up2 M 84 0 0) 93 k.toNat u) 94 k.toNat v) ∨ (z = 0 ∧ ¬ (0 ≤ k ∧ k < M 86 0 ∧ 0 ≤ u ∧ u ≤ 1000 ∧ 1 ≤ v ∧ v ≤ 9) ∧ M' = up2 M 84 0 0)
def pc_right (M : MM) (z : Int) (M' : MM) : Prop := M' = M ∧ ((z = 1 ∧ RGc M) ∨ (z = 0 ∧ ¬ RGc M))
def pr_right (M : MM) (z : Int) (M' : MM) : Prop := M' = up2 M 84 0 0 ∧ ((z = 1 ∧ RG M) ∨ (z = 0 ∧ ¬ RG M))
def pc_left (v b : Int) (M : MM) (z : Int) (M' : MM) : Prop := ((v < 0 ∨ M 1 0 ≤ v) ∧ z = 0 ∧ M' = M) ∨ ((0 ≤ v ∧ v < M 1 0) ∧ ∃ s : Int, ((v = 0 ∧ s = -(sumZ (balF M v) (M 1 1).toNat)) ∨ (v ≠ 0 ∧ s = (sumZ (balF M v) (M 1 1).toNat))) ∧ M' = up2 (up2 M 42 0 (nU s 6350400)) 42 1 (nD s 6350400) ∧ ((b ≠ 0 ∧ z = nD s 6350400) ∨ (b = 0 ∧ z = nU s 6350400)))
def pr_left (v b : Int) (M : MM) (z : Int) (M' : MM) : Prop := ((v < 0 ∨ M 85 0 ≤ v) ∧ z = 0 ∧ M' = up2 M 84 0 0) ∨ ((0 ≤ v ∧ v < M 85 0) ∧ ∃ s : Int, ((v = 0 ∧ s = sumZ (levF M 0) (M 86 0).toNat) ∨ (v ≠ 0 ∧ v = M 85 0 - 1 ∧ s = sumZ (arrF M v) (M 86 0).toNat) ∨ (v ≠ 0 ∧ v ≠ M 85 0 - 1 ∧ s = sumZ (arrF M v) (M 86 0).toNat - sumZ (levF M v) (M 86 0).toNat)) ∧ M' = up2 (up2 (up2 M 84 0 0) 84 15 (nU s 6350400)) 84 16 (nD s 6350400) ∧ ((b ≠ 0 ∧ z = nD s 6350400) ∨ (b = 0 ∧ z = nU s 6350400)))
def pc_count (w : Int) (M : MM) (z : Int) (M' : MM) : Prop := (w = 0 ∧ z = M 1 0 ∧ M' = M) ∨ (w = 1 ∧ z = M 1 1 ∧ M' = M) ∨ (w = 2 ∧ z = zqR M 16 7 ∧ M' = zqR M) ∨ (w = 3 ∧ z = zqR M 16 8 ∧ M' = zqR M) ∨ (w = 4 ∧ z = M 1 4 ∧ M' = M) ∨ ((w < 0 ∨ 4 < w) ∧ z = -1 ∧ M' = M)
def pr_count (w : Int) (M : MM) (z : Int) (M' : MM) : Prop := (w = 0 ∧ z = M 85 0 ∧ M' = up2 M 84 0 0) ∨ (w = 1 ∧ z = M 86 0 ∧ M' = up2 M 84 0 0) ∨ (w = 2 ∧ z = frM (up2 M 84 0 0) 84 30 ∧ M' = frM (up2 M 84 0 0)) ∨ (w = 3 ∧ z = frM (up2 M 84 0 0) 84 31 ∧ M' = frM (up2 M 84 0 0)) ∨ (w = 4 ∧ z = M 95 0 ∧ M' = up2 M 84 0 0) ∨ ((w < 0 ∨ 4 < w) ∧ z = -1 ∧ M' = up2 M 84 0 0)
def pc_image (k : Int) (M : MM) (z : Int) (M' : MM) : Prop := (z = 0 ∧ ¬ (0 ≤ k ∧ k ≤ 2) ∧ M' = M) ∨ (z = 1 ∧ (0 ≤ k ∧ k ≤ 2) ∧ M' = up2 (tkN M (45 + 13 * k.toNat) 1) 15 k.toNat 1)
def pr_image (k : Int) (M : MM) (z : Int) (M' : MM) : Prop := (z = 0 ∧ (k < 0 ∨ 2 < k) ∧ M' = up2 M 84 0 0) ∨ (z = 1 ∧ (0 ≤ k ∧ k ≤ 2) ∧ M' = up2 (cpM (up2 M 84 0 0) 0 (k.toNat + 1)) 107 k.toNat 1)
def pc_again (k : Int) (M : MM) (z : Int) (M' : MM) : Prop := (z = 0 ∧ ¬ ((0 ≤ k ∧ k ≤ 2) ∧ M 15 k.toNat ≠ 0) ∧ M' = M) ∨ (z = 1 ∧ ((0 ≤ k ∧ k ≤ 2) ∧ M 15 k.toNat ≠ 0) ∧ M' = tkN M 1 (45 + 13 * k.toNat))
def pr_again (k : Int) (M : MM) (z : Int) (M' : MM) : Prop := (z = 0 ∧ ((k < 0 ∨ 2 < k) ∨ M 107 k.toNat = 0) ∧ M' = up2 M 84 0 0) ∨ (z = 1 ∧ (0 ≤ k ∧ k ≤ 2 ∧ M 107 k.toNat ≠ 0) ∧ M' = cpM (up2 M 84 0 0) (k.toNat + 1) 0)
def zFr (M M1 : MM) : Prop := ∀ c, 84 ≤ c → M1 c = M c
theorem zFr.rf (M : MM) : zFr M M := fun _ _ => rfl
theorem zFr.up {M M1 : MM} (h : zFr M M1) {c : Nat} (hc : c < 84) (j : Nat) (x : Int) : zFr M (up2 M1 c j x) := fun c' hc' => by rw [up2_ne _ _ _ _ (by omega)]; exact h c' hc'
theorem cp2_ne (M : MM) {a b m c : Nat} (h : c ≠ b) : cp2 M a b m c = M c := if_neg h
theorem zFr.cp {M M1 : MM} (h : zFr M M1) {a b : Nat} (hb : b < 84) (m : Nat) : zFr M (cp2 M1 a b m) := fun c' hc' => by rw [cp2_ne _ (by omega)]; exact h c' hc'
theorem tkN_ne (M : MM) {b e c : Nat} (hs : (M e 1).toNat ≤ 10) (hc : c < b ∨ b + 12 < c) : tkN M b e c = M c := by
  unfold tkN
  rw [up2_ne _ _ _ _ (by omega), cp2_ne _ (by omega), tnK_ne _ (by omega), up2_ne _ _ _ _ (by omega), up2_ne _ _ _ _ (by omega)]
theorem zqF_ne {M : MM} (hw : CW M) (v t : Int) {c : Nat} (hc : c < 16 ∨ 20 < c) : zqF M v t c = M c := by
  rw [(zq_F_keep hw v t).1 c hc, up2_ne _ _ _ _ (by omega)]
  exact zq_fcg M 0 c hc
theorem zqR_ne {M : MM} (hw : CW M) {c : Nat} (hc : c < 16 ∨ 20 < c) : zqR M c = M c := (zqR_keep hw).1 c hc
theorem zf_posts {n : Int} {M : MM} {z : Int} {M' : MM} (h : pc_posts n M z M') : zFr M M' := by
  rcases h with ⟨-, -, rfl⟩ | ⟨-, -, rfl⟩
  · exact zFr.rf _
  · exact (((zFr.rf M).up (by decide) _ _).up (by decide) _ _).up (by decide) _ _
theorem zf_lane {f t r p q : Int} {M : MM} {z : Int} {M' : MM} (hL : 0 ≤ M 1 1 ∧ M 1 1 ≤ 10) (h : pc_lane f t r p q M z M') : zFr M M' := by
  rcases h with ⟨-, -, rfl⟩ | ⟨-, -, rfl⟩
  · exact zFr.rf _
  · exact ((((((((((zFr.rf M).up (by omega) _ _).up (by omega) _ _).up (by omega) _ _).up (by omega) _ _).up (by omega) _ _).up (by omega) _ _).up (by omega) _ _).up (by omega) _ _).up (by decide) _ _)
theorem zf_room {k r : Int} {M : MM} {z : Int} {M' : MM} (hL : 0 ≤ M 1 1 ∧ M 1 1 ≤ 10) (h : pc_room k r M z M') : zFr M M' := by
  rcases h with ⟨-, -, rfl⟩ | ⟨-, hc, rfl⟩
  · exact zFr.rf _
  · exact (zFr.rf M).up (by omega) _ _
theorem zf_share {k p q d : Int} {M : MM} {z : Int} {M' : MM} (hL : 0 ≤ M 1 1 ∧ M 1 1 ≤ 10) (h : pc_share k p q d M z M') : zFr M M' := by
  rcases h with ⟨-, -, rfl⟩ | ⟨-, hc, rfl⟩
  · exact zFr.rf _
  · exact (((zFr.rf M).up (by omega) _ _).up (by omega) _ _).up (by omega) _ _
theorem zf_tell {k w : Int} {M : MM} {z : Int} {M' : MM} (h : pc_tell k w M z M') : zFr M M' := by rw [h.1]; exact zFr.rf _
theorem zf_co {M M' : MM} (h : zCO M M') : zFr M M' := fun c hc => h.1 c (by omega)
theorem zf_most {w b : Int} {M : MM} {z : Int} {M' : MM} (h : pc_most w b M z M') : zFr M M' := by
  rcases h with ⟨-, -, rfl⟩ | ⟨-, s, u, L, -, -, h⟩
  · exact zFr.rf _
  · exact zf_co h
theorem zf_more {k r b : Int} {M : MM} {z : Int} {M' : MM} (h : pc_more k r b M z M') : zFr M M' := by
  rcases h with ⟨-, -, rfl⟩ | ⟨-, s, u, s2, u2, L, L2, Mx, -, -, -, -, h⟩
  · exact zFr.rf _
  · exact zf_co h
theorem zf_way {f t : Int} {M : MM} {z : Int} {M' : MM} (hW : CW M) (h : pc_way f t M z M') : zFr M M' := by
  have hF : zFr M (zqF (up2 M 1 4 0) f t) := fun c hc => by rw [zqF_ne (zq_CW4 hW 0) f t (by omega), up2_ne _ _ _ _ (by omega)]
  rcases h with ⟨-, -, rfl⟩ | ⟨-, ⟨-, -, rfl⟩ | ⟨-, -, rfl⟩⟩
  · exact (zFr.rf M).up (by decide) _ _
  · exact hF
  · exact (hF.cp (by decide) _).up (by decide) _ _
theorem zf_ring {M : MM} {z : Int} {M' : MM} (hW : CW M) (h : pc_ring M z M') : zFr M M' := by
  have hF : zFr M (zqR (up2 M 1 4 0)) := fun c hc => by rw [zqR_ne (zq_CW4 hW 0) (by omega), up2_ne _ _ _ _ (by omega)]
  rcases h with ⟨-, -, rfl⟩ | ⟨-, -, rfl⟩
  · exact hF
  · exact (hF.cp (by decide) _).up (by decide) _ _
theorem zf_row {k : Int} {M : MM} {z : Int} {M' : MM} (h : pc_row k M z M') : zFr M M' := by rw [h.1]; exact zFr.rf _
theorem zf_gain {b : Int} {N : Nat} {M : MM} {z : Int} {M' : MM} (h : pc_gain b N M z M') : zFr M M' := by
  rcases h with ⟨-, -, rfl⟩ | ⟨-, rfl, -⟩
  · exact zFr.rf _
  · exact ((zFr.rf M).up (by decide) _ _).up (by decide) _ _
theorem zf_send {k u v : Int} {M : MM} {z : Int} {M' : MM} (hL : 0 ≤ M 1 1 ∧ M 1 1 ≤ 10) (h : pc_send k u v M z M') : zFr M M' := by
  rcases h with ⟨-, -, rfl⟩ | ⟨-, hc, rfl⟩
  · exact zFr.rf _
  · exact ((((zFr.rf M).up (by decide) _ _).up (by decide) _ _).up (by omega) _ _).up (by omega) _ _
theorem zf_right {M : MM} {z : Int} {M' : MM} (h : pc_right M z M') : zFr M M' := by rw [h.1]; exact zFr.rf _
theorem zf_left {v b : Int} {M : MM} {z : Int} {M' : MM} (h : pc_left v b M z M') : zFr M M' := by
  rcases h with ⟨-, -, rfl⟩ | ⟨-, s, -, rfl, -⟩
  · exact zFr.rf _
  · exact ((zFr.rf M).up (by decide) _ _).up (by decide) _ _
theorem zf_count {w : Int} {M : MM} {z : Int} {M' : MM} (hW : CW M) (h : pc_count w M z M') : zFr M M' := by
  have hF : zFr M (zqR M) := fun c hc => zqR_ne hW (by omega)
  rcases h with ⟨-, -, rfl⟩ | ⟨-, -, rfl⟩ | ⟨-, -, rfl⟩ | ⟨-, -, rfl⟩ | ⟨-, -, rfl⟩ | ⟨-, -, rfl⟩
  · exact zFr.rf _
  · exact zFr.rf _
  · exact hF
  · exact hF
  · exact zFr.rf _
  · exact zFr.rf _
theorem zf_image {k : Int} {M : MM} {z : Int} {M' : MM} (hL : 0 ≤ M 1 1 ∧ M 1 1 ≤ 10) (h : pc_image k M z M') : zFr M M' := by
  rcases h with ⟨-, -, rfl⟩ | ⟨-, hc, rfl⟩
  · exact zFr.rf _
  · intro c h2
    rw [up2_ne _ _ _ _ (by omega), tkN_ne _ (by omega) (by omega)]
theorem zf_again {k : Int} {M : MM} {z : Int} {M' : MM} (hS : ∀ j, j < 3 → M 15 j ≠ 0 → 0 ≤ M (45 + 13 * j) 1 ∧ M (45 + 13 * j) 1 ≤ 10) (h : pc_again k M z M') : zFr M M' := by
  rcases h with ⟨-, -, rfl⟩ | ⟨-, hc, rfl⟩
  · exact zFr.rf _
  · intro c h2
    have := hS k.toNat (by omega) hc.2
    exact tkN_ne _ (by omega) (by omega)
