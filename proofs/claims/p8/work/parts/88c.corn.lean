/-! corners and rows of prices -/
def zdt (r x : Nat → Int) : Int := r 1 * x 1 + r 2 * x 2 + r 3 * x 3 + r 4 * x 4
theorem zq_P (A B C : Nat → Int) : zdt A (zPn A B C) = 0 ∧ zdt B (zPn A B C) = 0 ∧ zdt C (zPn A B C) = 0 := by
  have e1 : zPn A B C 1 = C 2 * zMn A B 3 4 - C 3 * zMn A B 2 4 + C 4 * zMn A B 2 3 := rfl
  have e2 : zPn A B C 2 = C 3 * zMn A B 1 4 - C 1 * zMn A B 3 4 - C 4 * zMn A B 1 3 := rfl
  have e3 : zPn A B C 3 = C 1 * zMn A B 2 4 - C 2 * zMn A B 1 4 + C 4 * zMn A B 1 2 := rfl
  have e4 : zPn A B C 4 = C 2 * zMn A B 1 3 - C 1 * zMn A B 2 3 - C 3 * zMn A B 1 2 := rfl
  unfold zdt
  rw [e1, e2, e3, e4]
  unfold zMn
  refine ⟨by grind, by grind, by grind⟩
theorem zq_cram {A B C x : Nat → Int} (h1 : zdt A x = 0) (h2 : zdt B x = 0) (h3 : zdt C x = 0) : zEn A B C * x 1 = zPn A B C 1 * x 4 ∧ zEn A B C * x 2 = zPn A B C 2 * x 4 ∧ zEn A B C * x 3 = zPn A B C 3 * x 4 := by
  have e1 : zPn A B C 1 = C 2 * zMn A B 3 4 - C 3 * zMn A B 2 4 + C 4 * zMn A B 2 3 := rfl
  have e2 : zPn A B C 2 = C 3 * zMn A B 1 4 - C 1 * zMn A B 3 4 - C 4 * zMn A B 1 3 := rfl
  have e3 : zPn A B C 3 = C 1 * zMn A B 2 4 - C 2 * zMn A B 1 4 + C 4 * zMn A B 1 2 := rfl
  rw [e1, e2, e3]
  unfold zdt at h1 h2 h3
  unfold zEn zMn
  refine ⟨?_, ?_, ?_⟩
  · have k : (C 2 * (A 1 * B 3 - A 3 * B 1) - C 1 * (A 2 * B 3 - A 3 * B 2) - C 3 * (A 1 * B 2 - A 2 * B 1)) * x 1 - (C 2 * (A 3 * B 4 - A 4 * B 3) - C 3 * (A 2 * B 4 - A 4 * B 2) + C 4 * (A 2 * B 3 - A 3 * B 2)) * x 4 = -((B 2 * C 3 - B 3 * C 2) * (A 1 * x 1 + A 2 * x 2 + A 3 * x 3 + A 4 * x 4)) + (A 2 * C 3 - A 3 * C 2) * (B 1 * x 1 + B 2 * x 2 + B 3 * x 3 + B 4 * x 4) - (A 2 * B 3 - A 3 * B 2) * (C 1 * x 1 + C 2 * x 2 + C 3 * x 3 + C 4 * x 4) := by grind
    rw [h1, h2, h3, Int.mul_zero, Int.mul_zero, Int.mul_zero] at k
    omega
  · have k : (C 2 * (A 1 * B 3 - A 3 * B 1) - C 1 * (A 2 * B 3 - A 3 * B 2) - C 3 * (A 1 * B 2 - A 2 * B 1)) * x 2 - (C 3 * (A 1 * B 4 - A 4 * B 1) - C 1 * (A 3 * B 4 - A 4 * B 3) - C 4 * (A 1 * B 3 - A 3 * B 1)) * x 4 = (B 1 * C 3 - B 3 * C 1) * (A 1 * x 1 + A 2 * x 2 + A 3 * x 3 + A 4 * x 4) - (A 1 * C 3 - A 3 * C 1) * (B 1 * x 1 + B 2 * x 2 + B 3 * x 3 + B 4 * x 4) + (A 1 * B 3 - A 3 * B 1) * (C 1 * x 1 + C 2 * x 2 + C 3 * x 3 + C 4 * x 4) := by grind
    rw [h1, h2, h3, Int.mul_zero, Int.mul_zero, Int.mul_zero] at k
    omega
  · have k : (C 2 * (A 1 * B 3 - A 3 * B 1) - C 1 * (A 2 * B 3 - A 3 * B 2) - C 3 * (A 1 * B 2 - A 2 * B 1)) * x 3 - (C 1 * (A 2 * B 4 - A 4 * B 2) - C 2 * (A 1 * B 4 - A 4 * B 1) + C 4 * (A 1 * B 2 - A 2 * B 1)) * x 4 = -((B 1 * C 2 - B 2 * C 1) * (A 1 * x 1 + A 2 * x 2 + A 3 * x 3 + A 4 * x 4)) + (A 1 * C 2 - A 2 * C 1) * (B 1 * x 1 + B 2 * x 2 + B 3 * x 3 + B 4 * x 4) - (A 1 * B 2 - A 2 * B 1) * (C 1 * x 1 + C 2 * x 2 + C 3 * x 3 + C 4 * x 4) := by grind
    rw [h1, h2, h3, Int.mul_zero, Int.mul_zero, Int.mul_zero] at k
    omega
theorem zEn_12 (A B C : Nat → Int) : zEn B A C = -zEn A B C := by unfold zEn zMn; grind
theorem zEn_23 (A B C : Nat → Int) : zEn A C B = -zEn A B C := by unfold zEn zMn; grind
/-- what a plane is -/
def zRw (L : MM) (r : Nat → Int) : Prop := (∃ u, (1 ≤ u ∧ u ≤ 3) ∧ zqU r u) ∨ ∃ a : Nat, (a : Int) < L 21 5 ∧ zqB L a ∧ zqL L r a
theorem zq_du {r x : Nat → Int} {u : Nat} (hu : 1 ≤ u ∧ u ≤ 3) (h : zqU r u) : zdt r x = x u := by
  have h1 := h 1 (by decide)
  have h2 := h 2 (by decide)
  have h3 := h 3 (by decide)
  have h4 := h 4 (by decide)
  unfold zdt
  rw [h1, h2, h3, h4]
  have hc : u = 1 ∨ u = 2 ∨ u = 3 := by omega
  rcases hc with rfl | rfl | rfl
  · show 1 * x 1 + 0 * x 2 + 0 * x 3 + 0 * x 4 = x 1
    omega
  · show 0 * x 1 + 1 * x 2 + 0 * x 3 + 0 * x 4 = x 2
    omega
  · show 0 * x 1 + 0 * x 2 + 1 * x 3 + 0 * x 4 = x 3
    omega
theorem zq_d4 {r x : Nat → Int} {f t : Nat} {p q : Int} (hf : 1 ≤ f ∧ f ≤ 3) (ht : 1 ≤ t ∧ t ≤ 4) (hne : f ≠ t) (h : ∀ k, k < 5 → r k = if k = f then -q else if k = t then p else 0) : zdt r x = p * x t - q * x f := by
  have h1 := h 1 (by decide)
  have h2 := h 2 (by decide)
  have h3 := h 3 (by decide)
  have h4 := h 4 (by decide)
  unfold zdt
  rw [h1, h2, h3, h4]
  have cf : f = 1 ∨ f = 2 ∨ f = 3 := by omega
  have ct : t = 1 ∨ t = 2 ∨ t = 3 ∨ t = 4 := by omega
  rcases cf with rfl | rfl | rfl
  · rcases ct with rfl | rfl | rfl | rfl
    · exact absurd rfl hne
    · show -q * x 1 + p * x 2 + 0 * x 3 + 0 * x 4 = p * x 2 - q * x 1
      rw [Int.neg_mul]; omega
    · show -q * x 1 + 0 * x 2 + p * x 3 + 0 * x 4 = p * x 3 - q * x 1
      rw [Int.neg_mul]; omega
    · show -q * x 1 + 0 * x 2 + 0 * x 3 + p * x 4 = p * x 4 - q * x 1
      rw [Int.neg_mul]; omega
  · rcases ct with rfl | rfl | rfl | rfl
    · show p * x 1 + -q * x 2 + 0 * x 3 + 0 * x 4 = p * x 1 - q * x 2
      rw [Int.neg_mul]; omega
    · exact absurd rfl hne
    · show 0 * x 1 + -q * x 2 + p * x 3 + 0 * x 4 = p * x 3 - q * x 2
      rw [Int.neg_mul]; omega
    · show 0 * x 1 + -q * x 2 + 0 * x 3 + p * x 4 = p * x 4 - q * x 2
      rw [Int.neg_mul]; omega
  · rcases ct with rfl | rfl | rfl | rfl
    · show p * x 1 + 0 * x 2 + -q * x 3 + 0 * x 4 = p * x 1 - q * x 3
      rw [Int.neg_mul]; omega
    · show 0 * x 1 + p * x 2 + -q * x 3 + 0 * x 4 = p * x 2 - q * x 3
      rw [Int.neg_mul]; omega
    · exact absurd rfl hne
    · show 0 * x 1 + 0 * x 2 + -q * x 3 + p * x 4 = p * x 4 - q * x 3
      rw [Int.neg_mul]; omega
theorem zq_ends {L : MM} (hz : zNe L) {a : Nat} (ha : (a : Int) < L 21 5) (hb : zqB L a) : (1 ≤ (L 22 a).toNat ∧ (L 22 a).toNat ≤ 3) ∧ (1 ≤ (L 23 a).toNat ∧ (L 23 a).toNat ≤ 4) ∧ (L 22 a).toNat ≠ (L 23 a).toNat ∧ 0 < L 25 a ∧ 1 ≤ L 26 a := by
  have q := hz.2 a ha
  unfold ZPL at q
  obtain ⟨b1, b2, b3⟩ := hb
  omega
theorem zq_dl {L : MM} (hz : zNe L) {r : Nat → Int} {a : Nat} (ha : (a : Int) < L 21 5) (hb : zqB L a) (h : zqL L r a) (x : Nat → Int) : zdt r x = zwn L x a := by
  have e := zq_ends hz ha hb
  exact zq_d4 e.1 e.2.1 e.2.2.1 h
theorem zTi.nn {L : MM} (hz : zNe L) {x : Nat → Int} {v w : Nat} (h : zTi L x v w) (hw : 0 ≤ x w) : 0 ≤ x v := by
  obtain ⟨a, ha, hb, hs, h0⟩ := h
  have e := zq_ends hz ha hb
  unfold zwn at h0
  rcases hs with ⟨s1, s2⟩ | ⟨s1, s2⟩
  · rw [s1, s2] at h0
    have m := Int.mul_nonneg (a := L 25 a) (b := x w) (by omega) hw
    by_cases c : 0 ≤ x v
    · exact c
    · have m2 := Int.mul_pos (a := L 26 a) (b := -(x v)) (by omega) (by omega)
      rw [Int.mul_neg] at m2
      omega
  · rw [s1, s2] at h0
    have m := Int.mul_nonneg (a := L 26 a) (b := x w) (by omega) hw
    by_cases c : 0 ≤ x v
    · exact c
    · have m2 := Int.mul_pos (a := L 25 a) (b := -(x v)) (by omega) (by omega)
      rw [Int.mul_neg] at m2
      omega
/-- three planes that meet in one point tie each post to the end, or it is 0 -/
theorem zq_cstep {L : MM} (hz : zNe L) {A B C : Nat → Int} (rA : zRw L A) (rB : zRw L B) (rC : zRw L C) (hE : zEn A B C ≠ 0) {x : Nat → Int} (hxA : zdt A x = 0) (hxB : zdt B x = 0) (hxC : zdt C x = 0) {l : List Nat} (hU : ∃ v, (1 ≤ v ∧ v ≤ 3) ∧ v ∉ l) : ∃ v, ((1 ≤ v ∧ v ≤ 3) ∧ v ∉ l) ∧ (x v = 0 ∨ zTi L x v 4 ∨ ∃ w, w ∈ l ∧ zTi L x v w) := by
  by_cases hA : ∃ v, ((1 ≤ v ∧ v ≤ 3) ∧ v ∉ l) ∧ (x v = 0 ∨ zTi L x v 4 ∨ ∃ w, w ∈ l ∧ zTi L x v w)
  · exact hA
  exfalso
  have hA0 : ∀ v, (1 ≤ v ∧ v ≤ 3) ∧ v ∉ l → x v ≠ 0 := fun v hv q => hA ⟨v, hv, Or.inl q⟩
  have hA4 : ∀ v, (1 ≤ v ∧ v ≤ 3) ∧ v ∉ l → ¬ zTi L x v 4 := fun v hv q => hA ⟨v, hv, Or.inr (Or.inl q)⟩
  have hAl : ∀ v w, (1 ≤ v ∧ v ≤ 3) ∧ v ∉ l → w ∈ l → ¬ zTi L x v w := fun v w hv hw q => hA ⟨v, hv, Or.inr (Or.inr ⟨w, hw, q⟩)⟩
  obtain ⟨U, hUd⟩ : ∃ U : Nat → Bool, ∀ v, U v = true ↔ ((1 ≤ v ∧ v ≤ 3) ∧ v ∉ l) := ⟨fun v => decide ((1 ≤ v ∧ v ≤ 3) ∧ v ∉ l), fun v => decide_eq_true_iff⟩
  have hout : ∀ v, ¬ U v = true → 1 ≤ v → v ≤ 3 → v ∈ l := fun v hv h1 h3 => by
    by_cases c : v ∈ l
    · exact c
    · exact absurd ((hUd v).mpr ⟨⟨h1, h3⟩, c⟩) hv
  let y : Nat → Int := fun v => if U v = true then 2 * x v else x v
  have y1 : ∀ v, U v = true → y v = 2 * x v := fun v hv => if_pos hv
  have y2 : ∀ v, ¬ U v = true → y v = x v := fun v hv => if_neg hv
  have hU4 : ¬ U 4 = true := fun q => by have := (hUd 4).mp q; omega
  have hrow : ∀ r, zRw L r → zdt r x = 0 → zdt r y = 0 := by
    intro r hr h0
    rcases hr with ⟨u, hu, h⟩ | ⟨a, ha, hb, h⟩
    · rw [zq_du hu h] at h0 ⊢
      by_cases c : U u = true
      · rw [y1 u c, h0]; rfl
      · rw [y2 u c, h0]
    · rw [zq_dl hz ha hb h] at h0 ⊢
      have e := zq_ends hz ha hb
      have h0' := h0
      unfold zwn at h0 ⊢
      by_cases ct : U (L 23 a).toNat = true
      · by_cases cf : U (L 22 a).toNat = true
        · rw [y1 _ ct, y1 _ cf, Int.mul_left_comm, Int.mul_left_comm (L 26 a)]; omega
        · exact absurd ⟨a, ha, hb, Or.inr ⟨rfl, rfl⟩, h0'⟩ (hAl _ _ ((hUd _).mp ct) (hout _ cf e.1.1 e.1.2))
      · by_cases cf : U (L 22 a).toNat = true
        · by_cases c4 : (L 23 a).toNat = 4
          · exact absurd ⟨a, ha, hb, Or.inl ⟨rfl, c4⟩, h0'⟩ (hA4 _ ((hUd _).mp cf))
          · exact absurd ⟨a, ha, hb, Or.inl ⟨rfl, rfl⟩, h0'⟩ (hAl _ _ ((hUd _).mp cf) (hout _ ct e.2.1.1 (by omega)))
        · rw [y2 _ ct, y2 _ cf]; exact h0
  have cx := zq_cram hxA hxB hxC
  have cy := zq_cram (hrow A rA hxA) (hrow B rB hxB) (hrow C rC hxC)
  rw [y2 4 hU4, ← cx.1, ← cx.2.1, ← cx.2.2] at cy
  have k1 := Int.eq_of_mul_eq_mul_left hE cy.1
  have k2 := Int.eq_of_mul_eq_mul_left hE cy.2.1
  have k3 := Int.eq_of_mul_eq_mul_left hE cy.2.2
  obtain ⟨v, hv⟩ := hU
  have hUv := (hUd v).mpr hv
  have hx0 := hA0 v hv
  have hyv := y1 v hUv
  have hc : v = 1 ∨ v = 2 ∨ v = 3 := by have := hv.1; omega
  rcases hc with rfl | rfl | rfl
  · omega
  · omega
  · omega
theorem zdt_s (A x : Nat → Int) (s : Int) : zdt A (fun v => s * x v) = s * zdt A x := by
  unfold zdt
  rw [Int.mul_add, Int.mul_add, Int.mul_add, Int.mul_left_comm, Int.mul_left_comm (A 2), Int.mul_left_comm (A 3), Int.mul_left_comm (A 4)]
theorem zq_corn {L : MM} (hz : zNe L) {A B C : Nat → Int} (rA : zRw L A) (rB : zRw L B) (rC : zRw L C) (hE : zEn A B C ≠ 0) : zVx (zQn A B C) ∧ ∃ a b c, (1 ≤ a ∧ a ≤ 3) ∧ (1 ≤ b ∧ b ≤ 3) ∧ (1 ≤ c ∧ c ≤ 3) ∧ a ≠ b ∧ a ≠ c ∧ b ≠ c ∧ zOk L (zQn A B C) [c, b, a] := by
  have hP := zq_P A B C
  have hd : ∀ R, zdt R (zPn A B C) = 0 → zdt R (zQn A B C) = 0 := fun R h => by
    have := zdt_s R (zPn A B C) (zsg (zEn A B C))
    rw [h, Int.mul_zero] at this
    exact this
  have hA := hd A hP.1
  have hB := hd B hP.2.1
  have hC := hd C hP.2.2
  obtain ⟨a, ⟨a1, -⟩, a2⟩ := zq_cstep hz rA rB rC hE hA hB hC (l := []) ⟨1, by decide, List.not_mem_nil⟩
  obtain ⟨b, ⟨b1, b0⟩, b2⟩ := zq_cstep hz rA rB rC hE hA hB hC (l := [a]) (by
    by_cases c : a = 1
    · exact ⟨2, by decide, fun q => by have := List.mem_singleton.mp q; omega⟩
    · exact ⟨1, by decide, fun q => by have := List.mem_singleton.mp q; omega⟩)
  have hab : b ≠ a := fun q => b0 (by rw [q]; exact List.mem_singleton.mpr rfl)
  have mem2 : ∀ v, v ∈ [b, a] → v = b ∨ v = a := fun v hv => by
    rcases List.mem_cons.mp hv with q | q
    · exact Or.inl q
    · exact Or.inr (List.mem_singleton.mp q)
  obtain ⟨c, ⟨c1, c0⟩, c2⟩ := zq_cstep hz rA rB rC hE hA hB hC (l := [b, a]) (by
    have : ∃ v : Nat, (1 ≤ v ∧ v ≤ 3) ∧ v ≠ b ∧ v ≠ a := by
      by_cases q1 : 1 ≠ b ∧ 1 ≠ a
      · exact ⟨1, by decide, q1⟩
      · by_cases q2 : 2 ≠ b ∧ 2 ≠ a
        · exact ⟨2, by decide, q2⟩
        · exact ⟨3, by decide, by omega, by omega⟩
    obtain ⟨v, w1, w2, w3⟩ := this
    exact ⟨v, w1, fun q => by rcases mem2 v q with r | r <;> omega⟩)
  have hcb : c ≠ b := fun q => c0 (by rw [q]; exact List.mem_cons_self)
  have hca : c ≠ a := fun q => c0 (by rw [q]; exact List.mem_cons_of_mem _ (List.mem_singleton.mpr rfl))
  have x4 : 0 < zQn A B C 4 := zsg_pos hE
  have x0 : zQn A B C 0 = 0 := Int.mul_zero _
  have na : 0 ≤ zQn A B C a := by
    rcases a2 with q | q | ⟨w, hw, -⟩
    · omega
    · exact q.nn hz (by omega)
    · exact absurd hw List.not_mem_nil
  have nb : 0 ≤ zQn A B C b := by
    rcases b2 with q | q | ⟨w, hw, q⟩
    · omega
    · exact q.nn hz (by omega)
    · exact q.nn hz (by rw [List.mem_singleton.mp hw]; exact na)
  have nc : 0 ≤ zQn A B C c := by
    rcases c2 with q | q | ⟨w, hw, q⟩
    · omega
    · exact q.nn hz (by omega)
    · exact q.nn hz (by rcases mem2 w hw with r | r <;> rw [r] <;> assumption)
  refine ⟨⟨x0, x4, fun v hv => ?_⟩, a, b, c, a1, b1, c1, by omega, by omega, by omega, ⟨⟨⟨trivial, a2⟩, b2⟩, c2⟩⟩
  have hc : v = 0 ∨ v = 4 ∨ v = a ∨ v = b ∨ v = c := by omega
  rcases hc with rfl | rfl | rfl | rfl | rfl
  · omega
  · omega
  · exact na
  · exact nb
  · exact nc
