/-! the reference's least over all choices -/
theorem zq_tdv {q : Int} (h : 1 ≤ q ∧ q ≤ 9) : (2520 : Int).tdiv q = 2520 / q := by
  have : q = 1 ∨ q = 2 ∨ q = 3 ∨ q = 4 ∨ q = 5 ∨ q = 6 ∨ q = 7 ∨ q = 8 ∨ q = 9 := by omega
  rcases this with rfl | rfl | rfl | rfl | rfl | rfl | rfl | rfl | rfl <;> decide
theorem wT_mx (M : MM) (Q : Int) (k : Nat) : wT M Q k = M 101 k * (2520 / M 100 k) * zmx (dT M Q k) := by
  unfold wT zmx
  split
  · rfl
  · rw [Int.mul_zero]
section ZRF
variable {D X : MM} {la : Nat} {Q : Int}
theorem zq_zd (hr : zRD D X) (hw : WM X) (hla : (la : Int) = X 85 0 - 1) {y : Nat → Int} {k : Nat} (hk : (k : Int) < X 86 0) : zwn D y k = X 99 k * zyl y la (X 88 k).toNat - X 100 k * zyl y la (X 87 k).toNat := by
  obtain ⟨r1, r2, r3, r4, r5⟩ := hr.2 k hk
  have l := hw.2.2 k hk
  unfold LW at l
  unfold zwn
  rw [r1, r2, r4, r5]
  have e1 : zyl y la (X 87 k).toNat = y (X 87 k).toNat := if_neg (by omega)
  rw [e1]
  by_cases c : X 88 k = X 85 0 - 1
  · rw [if_pos c, show zyl y la (X 88 k).toNat = y 4 from if_pos (by omega)]
    rfl
  · rw [if_neg c, show zyl y la (X 88 k).toNat = y (X 88 k).toNat from if_neg (by omega)]
theorem zq_wt (hr : zRD D X) (hs : SHK X) {k : Nat} (hk : (k : Int) < X 86 0) : zWt D k = X 101 k * (2520 / X 100 k) := by
  obtain ⟨r1, r2, r3, r4, r5⟩ := hr.2 k hk
  have s := hs k hk
  unfold zWt
  rw [r3, r5, zq_tdv (by omega)]
/-- a resolved choice is a row of prices -/
theorem zq_x5 (hr : zRD D X) (hw : WM X) (hs : SHK X) (hla : (la : Int) = X 85 0 - 1) (hq : PRQ X Q) (he : FPE la X) : ∃ x, zVx x ∧ x 4 = Q ∧ zSn D x = sumZ (wT X Q) (X 86 0).toNat := by
  have hP := hw.1
  have hL := hw.2.1
  have pla : pz X Q la = Q := by
    unfold pz
    rw [he.2.2.1, he.2.2.2, Int.ediv_one, Int.one_mul]
  have p0 : pz X Q 0 = 0 := by
    unfold pz
    rw [he.1, Int.zero_mul]
  refine ⟨fun v => if v = 4 then Q else if 1 ≤ v ∧ v < la then pz X Q v else 0, ⟨rfl, by show 0 < Q; have := hq.1; omega, fun v hv => ?_⟩, rfl, ?_⟩
  · show 0 ≤ (if v = 4 then Q else if 1 ≤ v ∧ v < la then pz X Q v else 0)
    split
    · have := hq.1; omega
    · split
      · exact (hq.pp (by omega)).2.1
      · exact Int.le_refl 0
  · unfold zSn
    rw [hr.1]
    refine zq_sumc _ (fun k hk => ?_)
    have hk2 : (k : Int) < X 86 0 := by omega
    have l := hw.2.2 k hk2
    unfold LW at l
    have ez : ∀ v : Nat, v ≤ la → zyl (fun v => if v = 4 then Q else if 1 ≤ v ∧ v < la then pz X Q v else 0) la v = pz X Q v := fun v hv => by
      by_cases c : v = la
      · rw [show zyl (fun v => if v = 4 then Q else if 1 ≤ v ∧ v < la then pz X Q v else 0) la v = Q from if_pos c, c, pla]
      · rw [show zyl (fun v => if v = 4 then Q else if 1 ≤ v ∧ v < la then pz X Q v else 0) la v = (if v = 4 then Q else if 1 ≤ v ∧ v < la then pz X Q v else 0) from if_neg c, if_neg (by omega)]
        by_cases c0 : v = 0
        · rw [if_neg (by omega), c0, p0]
        · rw [if_pos (by omega)]
    rw [ztn_mx, wT_mx, zq_wt hr hs hk2, zq_zd hr hw hla hk2, ez _ (by omega), ez _ (by omega)]
    rfl
/-- the worth at prices that are those of a row -/
theorem zq_y4 (hr : zRD D X) (hw : WM X) (hs : SHK X) (hla : (la : Int) = X 85 0 - 1) (hq : PRQ X Q) {y : Nat → Int} (hy : zVx y) (hc : zCn la y X) : y 4 * sumZ (wT X Q) (X 86 0).toNat = Q * zSn D y := by
  have hP := hw.1
  have hL := hw.2.1
  have hQ := hq.1
  have pe : ∀ v : Nat, v ≤ la → y 4 * pz X Q v = Q * zyl y la v := fun v hv => by
    have b := hq.2 v (by omega)
    have p := (hq.pp (x := v) (by omega)).1
    have c := (hc v hv).2 (by omega)
    have e : (y 4 * pz X Q v) * X 104 v = (Q * zyl y la v) * X 104 v := by
      calc (y 4 * pz X Q v) * X 104 v = y 4 * (pz X Q v * X 104 v) := Int.mul_assoc _ _ _
        _ = Q * (X 103 v * y 4) := by rw [p, Int.mul_left_comm, ← Int.mul_assoc, Int.mul_comm, Int.mul_comm (X 103 v)]
        _ = (Q * zyl y la v) * X 104 v := by rw [c, Int.mul_comm (X 104 v), ← Int.mul_assoc]
    exact Int.eq_of_mul_eq_mul_right (by omega) e
  unfold zSn
  rw [← sumZ_s, ← sumZ_s, hr.1]
  refine zq_sumc _ (fun k hk => ?_)
  have hk2 : (k : Int) < X 86 0 := by omega
  have l := hw.2.2 k hk2
  unfold LW at l
  have p1 := pe (X 88 k).toNat (by omega)
  have p2 := pe (X 87 k).toNat (by omega)
  have ed : y 4 * dT X Q k = Q * zwn D y k := by
    rw [zq_zd hr hw hla hk2]
    unfold dT
    generalize pz X Q (X 88 k).toNat = a1 at p1 ⊢
    generalize pz X Q (X 87 k).toNat = b1 at p2 ⊢
    generalize zyl y la (X 88 k).toNat = a2 at p1 ⊢
    generalize zyl y la (X 87 k).toNat = b2 at p2 ⊢
    clear pe hc hq hr l
    have e1 : y 4 * (X 99 k * a1 - X 100 k * b1) = X 99 k * (y 4 * a1) - X 100 k * (y 4 * b1) := by grind
    have e2 : Q * (X 99 k * a2 - X 100 k * b2) = X 99 k * (Q * a2) - X 100 k * (Q * b2) := by grind
    rw [e1, e2, p1, p2]
  rw [ztn_mx, wT_mx, zq_wt hr hs hk2]
  have y0 : 0 ≤ y 4 := by have := hy.2.1; omega
  have q0 : 0 ≤ Q := by omega
  generalize X 101 k * (2520 / X 100 k) = W
  calc y 4 * (W * zmx (dT X Q k)) = W * (y 4 * zmx (dT X Q k)) := Int.mul_left_comm _ _ _
    _ = W * zmx (y 4 * dT X Q k) := by rw [zmx_s y0]
    _ = W * (Q * zmx (zwn D y k)) := by rw [ed, zmx_s q0]
    _ = Q * (W * zmx (zwn D y k)) := Int.mul_left_comm _ _ _
end ZRF
/-- each row of prices that is 0 or tied to the end fits a choice -/
theorem zq_dig {D B : MM} {la : Nat} (hz : zNe D) (hr : zRD D B) (hw : WM B) (hs : SHK B) (hla : (la : Int) = B 85 0 - 1) {y : Nat → Int} {v : Nat} {l : List Nat} (hv : 1 ≤ v ∧ v ≤ 3) (hin : ∀ w, w ∈ l → 1 ≤ w ∧ w ≤ 3) (h : y v = 0 ∨ zTi D y v 4 ∨ ∃ w, w ∈ l ∧ zTi D y v w) : ∃ d : Int, v < la → ((d = -1 ∧ y v = 0) ∨ ((0 ≤ d ∧ d < B 86 0) ∧ (B 87 d.toNat = (v : Int) ∨ B 88 d.toNat = (v : Int)) ∧ 0 < B 99 d.toNat ∧ B 99 d.toNat * zyl y la (B 88 d.toNat).toNat = B 100 d.toNat * zyl y la (B 87 d.toNat).toNat ∧ ((otr B v d.toNat).toNat = la ∨ ((otr B v d.toNat).toNat ∈ l ∧ 1 ≤ (otr B v d.toNat).toNat ∧ (otr B v d.toNat).toNat < la)))) := by
  have hP := hw.1
  have tie : ∀ w, (w = 4 ∨ w ∈ l) → zTi D y v w → ∃ d : Int, v < la → ((d = -1 ∧ y v = 0) ∨ ((0 ≤ d ∧ d < B 86 0) ∧ (B 87 d.toNat = (v : Int) ∨ B 88 d.toNat = (v : Int)) ∧ 0 < B 99 d.toNat ∧ B 99 d.toNat * zyl y la (B 88 d.toNat).toNat = B 100 d.toNat * zyl y la (B 87 d.toNat).toNat ∧ ((otr B v d.toNat).toNat = la ∨ ((otr B v d.toNat).toNat ∈ l ∧ 1 ≤ (otr B v d.toNat).toNat ∧ (otr B v d.toNat).toNat < la)))) := by
    intro w hw2 ⟨k, k1, k2, k3, k4⟩
    rw [hr.1] at k1
    refine ⟨(k : Int), fun hlt => Or.inr ?_⟩
    rw [show ((k : Int)).toNat = k by omega]
    have e := zq_ends hz (by rw [hr.1]; exact k1) k2
    obtain ⟨r1, r2, r3, r4, r5⟩ := hr.2 k k1
    have lw := hw.2.2 k k1
    unfold LW at lw
    have zd := zq_zd hr hw hla (y := y) k1
    rw [k4] at zd
    refine ⟨by omega, ?_, by omega, by omega, ?_⟩
    · rcases k3 with ⟨s1, s2⟩ | ⟨s1, s2⟩
      · left; omega
      · right
        by_cases c : B 88 k = B 85 0 - 1
        · rw [if_pos c] at r2; omega
        · rw [if_neg c] at r2; omega
    · rcases k3 with ⟨s1, s2⟩ | ⟨s1, s2⟩
      · have eo : otr B v k = B 88 k := if_pos (by omega)
        rw [eo]
        by_cases c : B 88 k = B 85 0 - 1
        · left; omega
        · right
          rw [if_neg c] at r2
          have ew : (B 88 k).toNat = w := by omega
          rcases hw2 with q | q
          · omega
          · rw [ew]; exact ⟨q, by omega, by omega⟩
      · have hne : ¬ B 87 k = (v : Int) := by omega
        have eo : otr B v k = B 87 k := if_neg hne
        rw [eo]
        right
        have ew : (B 87 k).toNat = w := by omega
        rcases hw2 with q | q
        · omega
        · rw [ew]; exact ⟨q, by omega, by omega⟩
  rcases h with h | h | ⟨w, hw2, h⟩
  · exact ⟨-1, fun _ => Or.inl ⟨rfl, h⟩⟩
  · exact tie 4 (Or.inl rfl) h
  · exact tie w (Or.inr hw2) h
def zc3 (a b : Nat) (x y z : Int) (v : Nat) : Int := if v = a then x else if v = b then y else z
def zr3 (a b : Nat) (v : Nat) : Nat := if v = a then 1 else if v = b then 2 else 3
theorem zc3_a {a b : Nat} {x y z : Int} : zc3 a b x y z a = x := if_pos rfl
theorem zc3_b {a b : Nat} {x y z : Int} (h : b ≠ a) : zc3 a b x y z b = y := by unfold zc3; rw [if_neg h, if_pos rfl]
theorem zc3_c {a b c : Nat} {x y z : Int} (h : c ≠ a) (h2 : c ≠ b) : zc3 a b x y z c = z := by unfold zc3; rw [if_neg h, if_neg h2]
theorem zr3_a {a b : Nat} : zr3 a b a = 1 := if_pos rfl
theorem zr3_b {a b : Nat} (h : b ≠ a) : zr3 a b b = 2 := by unfold zr3; rw [if_neg h, if_pos rfl]
theorem zr3_c {a b c : Nat} (h : c ≠ a) (h2 : c ≠ b) : zr3 a b c = 3 := by unfold zr3; rw [if_neg h, if_neg h2]
theorem zq_abc {a b c la : Nat} (hla : la ≤ 4) (ha : 1 ≤ a ∧ a ≤ 3) (hb : 1 ≤ b ∧ b ≤ 3) (hc : 1 ≤ c ∧ c ≤ 3) (hab : a ≠ b) (hac : a ≠ c) (hbc : b ≠ c) : ∀ v, 1 ≤ v → v < la → v = a ∨ v = b ∨ v = c := by
  intro v h1 h2
  omega
theorem zq_pick {D B : MM} {la : Nat} (hz : zNe D) (hr : zRD D B) (hw : WM B) (hs : SHK B) (hla : (la : Int) = B 85 0 - 1) {y : Nat → Int} {a b c : Nat} (ha : 1 ≤ a ∧ a ≤ 3) (hb : 1 ≤ b ∧ b ≤ 3) (hc : 1 ≤ c ∧ c ≤ 3) (hab : a ≠ b) (hac : a ≠ c) (hbc : b ≠ c) (ho : zOk D y [c, b, a]) : ∃ (d : Nat → Int) (ρ : Nat → Nat), (∀ u, 1 ≤ u → u < la → zVd B d u) ∧ zFt B la d y ρ := by
  have hP := hw.1
  have hall := zq_abc (la := la) (by omega) ha hb hc hab hac hbc
  obtain ⟨⟨⟨-, oa⟩, ob⟩, oc⟩ := ho
  have mem2 : ∀ v, v ∈ [b, a] → v = b ∨ v = a := fun v hv => by
    rcases List.mem_cons.mp hv with q | q
    · exact Or.inl q
    · exact Or.inr (List.mem_singleton.mp q)
  obtain ⟨da, pa⟩ := zq_dig hz hr hw hs hla ha (fun w q => absurd q List.not_mem_nil) oa
  obtain ⟨db, pb⟩ := zq_dig hz hr hw hs hla hb (fun w q => by rw [List.mem_singleton.mp q]; exact ha) ob
  obtain ⟨dc, pc⟩ := zq_dig hz hr hw hs hla hc (fun w q => by rcases mem2 w q with r | r <;> rw [r] <;> assumption) oc
  have fa : a < la → (1 ≤ zr3 a b a ∧ zr3 a b a ≤ 3) ∧ ((zc3 a b da db dc a = -1 ∧ y a = 0) ∨ ((0 ≤ zc3 a b da db dc a ∧ zc3 a b da db dc a < B 86 0) ∧ (B 87 (zc3 a b da db dc a).toNat = (a : Int) ∨ B 88 (zc3 a b da db dc a).toNat = (a : Int)) ∧ 0 < B 99 (zc3 a b da db dc a).toNat ∧ B 99 (zc3 a b da db dc a).toNat * zyl y la (B 88 (zc3 a b da db dc a).toNat).toNat = B 100 (zc3 a b da db dc a).toNat * zyl y la (B 87 (zc3 a b da db dc a).toNat).toNat ∧ ((otr B a (zc3 a b da db dc a).toNat).toNat = la ∨ (1 ≤ (otr B a (zc3 a b da db dc a).toNat).toNat ∧ (otr B a (zc3 a b da db dc a).toNat).toNat < la ∧ zr3 a b (otr B a (zc3 a b da db dc a).toNat).toNat < zr3 a b a)))) := by
    intro v2
    rw [zc3_a, zr3_a]
    refine ⟨by decide, ?_⟩
    rcases pa v2 with q | ⟨q1, q2, q3, q4, q5⟩
    · exact Or.inl q
    · exact Or.inr ⟨q1, q2, q3, q4, q5.elim Or.inl (fun q => absurd q.1 List.not_mem_nil)⟩
  have fb : b < la → (1 ≤ zr3 a b b ∧ zr3 a b b ≤ 3) ∧ ((zc3 a b da db dc b = -1 ∧ y b = 0) ∨ ((0 ≤ zc3 a b da db dc b ∧ zc3 a b da db dc b < B 86 0) ∧ (B 87 (zc3 a b da db dc b).toNat = (b : Int) ∨ B 88 (zc3 a b da db dc b).toNat = (b : Int)) ∧ 0 < B 99 (zc3 a b da db dc b).toNat ∧ B 99 (zc3 a b da db dc b).toNat * zyl y la (B 88 (zc3 a b da db dc b).toNat).toNat = B 100 (zc3 a b da db dc b).toNat * zyl y la (B 87 (zc3 a b da db dc b).toNat).toNat ∧ ((otr B b (zc3 a b da db dc b).toNat).toNat = la ∨ (1 ≤ (otr B b (zc3 a b da db dc b).toNat).toNat ∧ (otr B b (zc3 a b da db dc b).toNat).toNat < la ∧ zr3 a b (otr B b (zc3 a b da db dc b).toNat).toNat < zr3 a b b)))) := by
    intro v2
    rw [zc3_b hab.symm, zr3_b hab.symm]
    refine ⟨by decide, ?_⟩
    rcases pb v2 with q | ⟨q1, q2, q3, q4, q5⟩
    · exact Or.inl q
    · refine Or.inr ⟨q1, q2, q3, q4, q5.elim Or.inl (fun q => Or.inr ⟨q.2.1, q.2.2, ?_⟩)⟩
      rw [List.mem_singleton.mp q.1, zr3_a]
      decide
  have fc : c < la → (1 ≤ zr3 a b c ∧ zr3 a b c ≤ 3) ∧ ((zc3 a b da db dc c = -1 ∧ y c = 0) ∨ ((0 ≤ zc3 a b da db dc c ∧ zc3 a b da db dc c < B 86 0) ∧ (B 87 (zc3 a b da db dc c).toNat = (c : Int) ∨ B 88 (zc3 a b da db dc c).toNat = (c : Int)) ∧ 0 < B 99 (zc3 a b da db dc c).toNat ∧ B 99 (zc3 a b da db dc c).toNat * zyl y la (B 88 (zc3 a b da db dc c).toNat).toNat = B 100 (zc3 a b da db dc c).toNat * zyl y la (B 87 (zc3 a b da db dc c).toNat).toNat ∧ ((otr B c (zc3 a b da db dc c).toNat).toNat = la ∨ (1 ≤ (otr B c (zc3 a b da db dc c).toNat).toNat ∧ (otr B c (zc3 a b da db dc c).toNat).toNat < la ∧ zr3 a b (otr B c (zc3 a b da db dc c).toNat).toNat < zr3 a b c)))) := by
    intro v2
    rw [zc3_c hac.symm hbc.symm, zr3_c hac.symm hbc.symm]
    refine ⟨by decide, ?_⟩
    rcases pc v2 with q | ⟨q1, q2, q3, q4, q5⟩
    · exact Or.inl q
    · refine Or.inr ⟨q1, q2, q3, q4, q5.elim Or.inl (fun q => Or.inr ⟨q.2.1, q.2.2, ?_⟩)⟩
      rcases mem2 _ q.1 with r | r
      · rw [r, zr3_b hab.symm]; decide
      · rw [r, zr3_a]; decide
  clear pa pb pc
  have hft : zFt B la (zc3 a b da db dc) y (zr3 a b) := by
    intro v v1 v2
    rcases hall v v1 v2 with rfl | rfl | rfl
    · exact fa v2
    · exact fb v2
    · exact fc v2
  refine ⟨_, _, fun u u1 u2 => ?_, hft⟩
  rcases (hft u u1 u2).2 with ⟨q, -⟩ | ⟨q1, q2, -⟩
  · exact Or.inl q
  · exact Or.inr ⟨q1.1, q1.2, q2⟩
