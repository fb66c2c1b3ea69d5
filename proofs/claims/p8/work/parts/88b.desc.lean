/-! rows of prices: brought to ties without growing -/
def zNe (L : MM) : Prop := (0 ≤ L 21 5 ∧ L 21 5 ≤ 10) ∧ ∀ k : Nat, (k : Int) < L 21 5 → ZPL L k ∧ L 22 k ≠ L 23 k
def zVx (x : Nat → Int) : Prop := x 0 = 0 ∧ 0 < x 4 ∧ ∀ v, v < 5 → 0 ≤ x v
def zWt (L : MM) (k : Nat) : Int := L 24 k * (2520 : Int).tdiv (L 26 k)
def zTi (L : MM) (x : Nat → Int) (v w : Nat) : Prop := ∃ a : Nat, (a : Int) < L 21 5 ∧ zqB L a ∧ (((L 22 a).toNat = v ∧ (L 23 a).toNat = w) ∨ ((L 22 a).toNat = w ∧ (L 23 a).toNat = v)) ∧ zwn L x a = 0
def zOk (L : MM) (x : Nat → Int) : List Nat → Prop
  | [] => True
  | v :: l => zOk L x l ∧ (x v = 0 ∨ zTi L x v 4 ∨ ∃ w, w ∈ l ∧ zTi L x v w)
theorem zwn_lin (L : MM) (f g : Nat → Int) (a b : Int) (k : Nat) : zwn L (fun v => a * f v + b * g v) k = zwn L f k * a + zwn L g k * b := by
  show L 25 k * (a * f (L 23 k).toNat + b * g (L 23 k).toNat) - L 26 k * (a * f (L 22 k).toNat + b * g (L 22 k).toNat) = (L 25 k * f (L 23 k).toNat - L 26 k * f (L 22 k).toNat) * a + (L 25 k * g (L 23 k).toNat - L 26 k * g (L 22 k).toNat) * b
  generalize f (L 23 k).toNat = f1
  generalize f (L 22 k).toNat = f0
  generalize g (L 23 k).toNat = g1
  generalize g (L 22 k).toNat = g0
  generalize L 25 k = p
  generalize L 26 k = q
  rw [Int.mul_add, Int.mul_add, Int.sub_mul, Int.sub_mul]
  have e1 : p * (a * f1) = p * f1 * a := by rw [Int.mul_left_comm, Int.mul_comm]
  have e2 : p * (b * g1) = p * g1 * b := by rw [Int.mul_left_comm, Int.mul_comm]
  have e3 : q * (a * f0) = q * f0 * a := by rw [Int.mul_left_comm, Int.mul_comm]
  have e4 : q * (b * g0) = q * g0 * b := by rw [Int.mul_left_comm, Int.mul_comm]
  omega
theorem ztn_mx (L : MM) (x : Nat → Int) (k : Nat) : ztn L x k = zWt L k * zmx (zwn L x k) := by
  unfold ztn zWt zmx
  split
  · rfl
  · rw [Int.mul_zero]
theorem zSn_pf (L : MM) (f g : Nat → Int) (a b : Int) : zSn L (fun v => a * f v + b * g v) = zPf (zWt L) (zwn L f) (zwn L g) (L 21 5).toNat a b := by
  unfold zSn zPf
  refine zq_sumc _ (fun k _ => ?_)
  rw [ztn_mx, zwn_lin]
theorem zWt_nn {L : MM} (hz : zNe L) {k : Nat} (hk : (k : Int) < L 21 5) : 0 ≤ zWt L k ∧ (zWt L k ≠ 0 → 0 < L 24 k) := by
  have q := (hz.2 k hk).1
  unfold ZPL at q
  have hp := parts_bd (q := L 26 k) q.2.2.2.2
  refine ⟨Int.mul_nonneg q.2.2.1.1 (by omega), fun h => ?_⟩
  by_cases c : L 24 k = 0
  · exfalso
    apply h
    unfold zWt
    rw [c, Int.zero_mul]
  · omega
theorem zOk.mono {L : MM} {x y : Nat → Int} {l : List Nat} (h0 : ∀ v, v ∈ l → x v = 0 → y v = 0) (h1 : ∀ v w, v ∈ l → (w = 4 ∨ w ∈ l) → zTi L x v w → zTi L y v w) (h : zOk L x l) : zOk L y l := by
  induction l with
  | nil => trivial
  | cons v l ih =>
    obtain ⟨a, b⟩ := h
    refine ⟨ih (fun u hu => h0 u (List.mem_cons_of_mem _ hu)) (fun u w hu hw => h1 u w (List.mem_cons_of_mem _ hu) (hw.elim Or.inl (fun q => Or.inr (List.mem_cons_of_mem _ q)))) a, ?_⟩
    rcases b with b | b | ⟨w, hw, b⟩
    · exact Or.inl (h0 v List.mem_cons_self b)
    · exact Or.inr (Or.inl (h1 v 4 List.mem_cons_self (Or.inl rfl) b))
    · exact Or.inr (Or.inr ⟨w, hw, h1 v w List.mem_cons_self (Or.inr (List.mem_cons_of_mem _ hw)) b⟩)
theorem zq_step {L : MM} (hz : zNe L) {x : Nat → Int} (hx : zVx x) {l : List Nat} (hl : zOk L x l) (hin : ∀ v, v ∈ l → 1 ≤ v ∧ v ≤ 3) (hU : ∃ v, (1 ≤ v ∧ v ≤ 3) ∧ v ∉ l) : ∃ (v : Nat) (y : Nat → Int), ((1 ≤ v ∧ v ≤ 3) ∧ v ∉ l) ∧ zVx y ∧ zOk L y (v :: l) ∧ zSn L y * x 4 ≤ zSn L x * y 4 := by
  by_cases hA : ∃ v, ((1 ≤ v ∧ v ≤ 3) ∧ v ∉ l) ∧ (x v = 0 ∨ zTi L x v 4 ∨ ∃ w, w ∈ l ∧ zTi L x v w)
  · obtain ⟨v, hv, hq⟩ := hA
    exact ⟨v, x, hv, hx, ⟨hl, hq⟩, Int.le_refl _⟩
  have hA0 : ∀ v, (1 ≤ v ∧ v ≤ 3) ∧ v ∉ l → x v ≠ 0 := fun v hv q => hA ⟨v, hv, Or.inl q⟩
  have hA4 : ∀ v, (1 ≤ v ∧ v ≤ 3) ∧ v ∉ l → ¬ zTi L x v 4 := fun v hv q => hA ⟨v, hv, Or.inr (Or.inl q)⟩
  have hAl : ∀ v w, (1 ≤ v ∧ v ≤ 3) ∧ v ∉ l → w ∈ l → ¬ zTi L x v w := fun v w hv hw q => hA ⟨v, hv, Or.inr (Or.inr ⟨w, hw, q⟩)⟩
  obtain ⟨U, hUd⟩ : ∃ U : Nat → Bool, ∀ v, U v = true ↔ ((1 ≤ v ∧ v ≤ 3) ∧ v ∉ l) := ⟨fun v => decide ((1 ≤ v ∧ v ≤ 3) ∧ v ∉ l), fun v => decide_eq_true_iff⟩
  have hout : ∀ v, ¬ U v = true → 1 ≤ v → v ≤ 3 → v ∈ l := fun v hv h1 h3 => by
    by_cases c : v ∈ l
    · exact c
    · exact absurd ((hUd v).mpr ⟨⟨h1, h3⟩, c⟩) hv
  have hU4 : ¬ U 4 = true := fun q => by have := (hUd 4).mp q; omega
  have hU0 : ¬ U 0 = true := fun q => by have := (hUd 0).mp q; omega
  have hUl : ∀ v, v ∈ l → ¬ U v = true := fun v hv q => ((hUd v).mp q).2 hv
  let xu : Nat → Int := fun v => if U v = true then x v else 0
  let xo : Nat → Int := fun v => if U v = true then 0 else x v
  have eu1 : ∀ v, U v = true → xu v = x v ∧ xo v = 0 := fun v hv => ⟨if_pos hv, if_pos hv⟩
  have eu2 : ∀ v, ¬ U v = true → xu v = 0 ∧ xo v = x v := fun v hv => ⟨if_neg hv, if_neg hv⟩
  have exx : (fun v => 1 * xu v + 1 * xo v) = x := by
    funext v
    by_cases c : U v = true
    · rw [(eu1 v c).1, (eu1 v c).2]; omega
    · rw [(eu2 v c).1, (eu2 v c).2]; omega
  have esum : ∀ k, zwn L x k = zwn L xu k + zwn L xo k := fun k => by
    have := zwn_lin L xu xo 1 1 k
    rw [exx, Int.mul_one, Int.mul_one] at this
    exact this
  have cas : ∀ k : Nat, (k : Int) < L 21 5 → (zwn L xu k = 0 ∨ zwn L xo k = 0) ∨ ((U (L 23 k).toNat = true ∧ ¬ U (L 22 k).toNat = true ∧ 0 < zwn L xu k ∧ zwn L xo k < 0 ∧ 0 < L 25 k ∧ 1 ≤ (L 22 k).toNat ∧ (L 22 k).toNat ∈ l)) ∨ (U (L 22 k).toNat = true ∧ ¬ U (L 23 k).toNat = true ∧ zwn L xu k < 0 ∧ 0 < zwn L xo k ∧ 0 < L 25 k ∧ ((L 23 k).toNat = 4 ∨ (L 23 k).toNat ∈ l)) := by
    intro k hk
    have q := (hz.2 k hk).1
    unfold ZPL at q
    by_cases ct : U (L 23 k).toNat = true
    · by_cases cf : U (L 22 k).toNat = true
      · left; right
        unfold zwn
        rw [(eu1 _ ct).2, (eu1 _ cf).2]; omega
      · have p1 : zwn L xu k = L 25 k * x (L 23 k).toNat := by
          unfold zwn
          rw [(eu1 _ ct).1, (eu2 _ cf).1]; omega
        have p2 : zwn L xo k = -(L 26 k * x (L 22 k).toNat) := by
          unfold zwn
          rw [(eu1 _ ct).2, (eu2 _ cf).2]; omega
        have hxt : 0 < x (L 23 k).toNat := by
          have := hx.2.2 (L 23 k).toNat (by omega)
          have := hA0 _ ((hUd _).mp ct)
          omega
        have hxf := hx.2.2 (L 22 k).toNat (by omega)
        by_cases c1 : L 25 k = 0
        · left; left; rw [p1, c1, Int.zero_mul]
        · by_cases c2 : x (L 22 k).toNat = 0
          · left; right; rw [p2, c2, Int.mul_zero]; rfl
          · right; left
            have f0 : (L 22 k).toNat ≠ 0 := fun w => c2 (by rw [w]; exact hx.1)
            have m1 := Int.mul_pos (a := L 25 k) (b := x (L 23 k).toNat) (by omega) hxt
            have m2 := Int.mul_pos (a := L 26 k) (b := x (L 22 k).toNat) (by omega) (by omega)
            exact ⟨ct, cf, by omega, by omega, by omega, by omega, hout _ cf (by omega) (by omega)⟩
    · by_cases cf : U (L 22 k).toNat = true
      · have p1 : zwn L xu k = -(L 26 k * x (L 22 k).toNat) := by
          unfold zwn
          rw [(eu2 _ ct).1, (eu1 _ cf).1]; omega
        have p2 : zwn L xo k = L 25 k * x (L 23 k).toNat := by
          unfold zwn
          rw [(eu2 _ ct).2, (eu1 _ cf).2]; omega
        have hxf : 0 < x (L 22 k).toNat := by
          have := hx.2.2 (L 22 k).toNat (by omega)
          have := hA0 _ ((hUd _).mp cf)
          omega
        have hxt := hx.2.2 (L 23 k).toNat (by omega)
        by_cases c1 : L 25 k = 0
        · left; right; rw [p2, c1, Int.zero_mul]
        · by_cases c2 : x (L 23 k).toNat = 0
          · left; right; rw [p2, c2, Int.mul_zero]
          · right; right
            have m1 := Int.mul_pos (a := L 25 k) (b := x (L 23 k).toNat) (by omega) (by omega)
            have m2 := Int.mul_pos (a := L 26 k) (b := x (L 22 k).toNat) (by omega) hxf
            refine ⟨cf, ct, by omega, by omega, by omega, ?_⟩
            by_cases c4 : (L 23 k).toNat = 4
            · exact Or.inl c4
            · exact Or.inr (hout _ ct (by omega) (by omega))
      · left; left
        unfold zwn
        rw [(eu2 _ ct).1, (eu2 _ cf).1]; omega
  have hzero : 0 ≤ L 21 5 := hz.1.1
  obtain ⟨a, b, ha, hb, hle, hend⟩ := zq_pl (W := zWt L) (al := zwn L xu) (be := zwn L xo) (n := (L 21 5).toNat) (fun i hi => (zWt_nn hz (by omega)).1) (fun i hi => by
    by_cases cw : zWt L i = 0
    · exact Or.inl cw
    have h24 := (zWt_nn hz (k := i) (by omega)).2 cw
    have q := (hz.2 i (by omega)).1
    unfold ZPL at q
    rcases cas i (by omega) with (c | c) | c | c
    · exact Or.inr (Or.inl c)
    · exact Or.inr (Or.inr (Or.inl c))
    · obtain ⟨ct, cf, k1, k2, k3, k4, k5⟩ := c
      refine Or.inr (Or.inr (Or.inr ⟨Or.inl ⟨k1, k2⟩, fun w => ?_⟩))
      refine hAl _ _ ((hUd _).mp ct) k5 ⟨i, by omega, ⟨by omega, h24, k3⟩, Or.inr ⟨rfl, rfl⟩, ?_⟩
      rw [esum]; exact w
    · obtain ⟨cf, ct, k1, k2, k3, k5⟩ := c
      refine Or.inr (Or.inr (Or.inr ⟨Or.inr ⟨k1, k2⟩, fun w => ?_⟩))
      have hb : zqB L i := ⟨by have := (hUd _).mp cf; omega, h24, k3⟩
      rcases k5 with k5 | k5
      · exact hA4 _ ((hUd _).mp cf) ⟨i, by omega, hb, Or.inl ⟨rfl, k5⟩, by rw [esum]; exact w⟩
      · exact hAl _ _ ((hUd _).mp cf) k5 ⟨i, by omega, hb, Or.inl ⟨rfl, rfl⟩, by rw [esum]; exact w⟩)
  have ey : ∀ v, U v = true → a * xu v + b * xo v = a * x v := fun v hv => by rw [(eu1 v hv).1, (eu1 v hv).2, Int.mul_zero, Int.add_zero]
  have eo : ∀ v, ¬ U v = true → a * xu v + b * xo v = b * x v := fun v hv => by rw [(eu2 v hv).1, (eu2 v hv).2, Int.mul_zero, Int.zero_add]
  have hVy : zVx (fun v => a * xu v + b * xo v) := by
    refine ⟨?_, ?_, fun v hv => ?_⟩
    · show a * xu 0 + b * xo 0 = 0
      rw [eo 0 hU0, hx.1, Int.mul_zero]
    · show 0 < a * xu 4 + b * xo 4
      rw [eo 4 hU4]; exact Int.mul_pos hb hx.2.1
    · show 0 ≤ a * xu v + b * xo v
      by_cases c : U v = true
      · rw [ey v c]; exact Int.mul_nonneg ha (hx.2.2 v hv)
      · rw [eo v c]; exact Int.mul_nonneg (by omega) (hx.2.2 v hv)
  have hle2 : zSn L (fun v => a * xu v + b * xo v) * x 4 ≤ zSn L x * (a * xu 4 + b * xo 4) := by
    rw [eo 4 hU4, zSn_pf]
    have e1 : zSn L x = zPf (zWt L) (zwn L xu) (zwn L xo) (L 21 5).toNat 1 1 := by rw [← zSn_pf, exx]
    rw [e1, ← Int.mul_assoc]
    exact Int.mul_le_mul_of_nonneg_right hle (by have := hx.2.1; omega)
  have hold : zOk L (fun v => a * xu v + b * xo v) l := by
    refine hl.mono (fun v hv q => ?_) (fun v w hv hw q => ?_)
    · show a * xu v + b * xo v = 0
      rw [eo v (hUl v hv), q, Int.mul_zero]
    · obtain ⟨i, i1, i2, i3, i4⟩ := q
      refine ⟨i, i1, i2, i3, ?_⟩
      have hw2 : ¬ U w = true := hw.elim (fun q => by rw [q]; exact hU4) (fun q => hUl w q)
      have hn : ¬ U (L 23 i).toNat = true ∧ ¬ U (L 22 i).toNat = true := by
        rcases i3 with ⟨j1, j2⟩ | ⟨j1, j2⟩
        · rw [j1, j2]; exact ⟨hw2, hUl v hv⟩
        · rw [j1, j2]; exact ⟨hUl v hv, hw2⟩
      have hxu : zwn L xu i = 0 := by
        unfold zwn
        rw [(eu2 _ hn.1).1, (eu2 _ hn.2).1]; omega
      rw [zwn_lin, hxu]
      have := esum i
      rw [hxu, i4] at this
      rw [show zwn L xo i = 0 by omega]
      omega
  rcases hend with h0 | ⟨hap, i, i1, i2, i3, i4⟩
  · obtain ⟨v, hv⟩ := hU
    refine ⟨v, _, hv, hVy, ⟨hold, Or.inl ?_⟩, hle2⟩
    show a * xu v + b * xo v = 0
    rw [ey v ((hUd v).mpr hv), h0, Int.zero_mul]
  · have h24 := (zWt_nn hz (k := i) (by omega)).2 i2
    have ez : zwn L (fun v => a * xu v + b * xo v) i = 0 := by rw [zwn_lin]; exact i4
    rcases cas i (by omega) with (c | c) | c | c
    · rcases i3 with w | w <;> omega
    · rcases i3 with w | w <;> omega
    · obtain ⟨ct, cf, k1, k2, k3, k4, k5⟩ := c
      exact ⟨(L 23 i).toNat, _, (hUd _).mp ct, hVy, ⟨hold, Or.inr (Or.inr ⟨(L 22 i).toNat, k5, i, by omega, ⟨by omega, h24, k3⟩, Or.inr ⟨rfl, rfl⟩, ez⟩)⟩, hle2⟩
    · obtain ⟨cf, ct, k1, k2, k3, k5⟩ := c
      have hb : zqB L i := ⟨by have := (hUd _).mp cf; omega, h24, k3⟩
      rcases k5 with k5 | k5
      · exact ⟨(L 22 i).toNat, _, (hUd _).mp cf, hVy, ⟨hold, Or.inr (Or.inl ⟨i, by omega, hb, Or.inl ⟨rfl, k5⟩, ez⟩)⟩, hle2⟩
      · exact ⟨(L 22 i).toNat, _, (hUd _).mp cf, hVy, ⟨hold, Or.inr (Or.inr ⟨(L 23 i).toNat, k5, i, by omega, hb, Or.inl ⟨rfl, rfl⟩, ez⟩)⟩, hle2⟩
/-- each row of prices has one, all of whose posts are 0 or tied to the end, that sums up to no more -/
theorem zq_desc {L : MM} (hz : zNe L) {x : Nat → Int} (hx : zVx x) : ∃ (y : Nat → Int) (a b c : Nat), zVx y ∧ (1 ≤ a ∧ a ≤ 3) ∧ (1 ≤ b ∧ b ≤ 3) ∧ (1 ≤ c ∧ c ≤ 3) ∧ a ≠ b ∧ a ≠ c ∧ b ≠ c ∧ zOk L y [c, b, a] ∧ zSn L y * x 4 ≤ zSn L x * y 4 := by
  obtain ⟨a, y1, ⟨a1, -⟩, v1, o1, s1⟩ := zq_step hz hx (l := []) trivial (fun v hv => absurd hv List.not_mem_nil) ⟨1, by decide, List.not_mem_nil⟩
  obtain ⟨b, y2, ⟨b1, b2⟩, v2, o2, s2⟩ := zq_step hz v1 (l := [a]) o1 (fun v hv => by rw [List.mem_singleton.mp hv]; exact a1) (by
    by_cases c : a = 1
    · exact ⟨2, by decide, fun q => by have := List.mem_singleton.mp q; omega⟩
    · exact ⟨1, by decide, fun q => by have := List.mem_singleton.mp q; omega⟩)
  have hab : b ≠ a := fun q => b2 (by rw [q]; exact List.mem_singleton.mpr rfl)
  have mem2 : ∀ v, v ∈ [b, a] → v = b ∨ v = a := fun v hv => by
    rcases List.mem_cons.mp hv with q | q
    · exact Or.inl q
    · exact Or.inr (List.mem_singleton.mp q)
  obtain ⟨c, y3, ⟨c1, c2⟩, v3, o3, s3⟩ := zq_step hz v2 (l := [b, a]) o2 (fun v hv => by rcases mem2 v hv with q | q <;> rw [q] <;> assumption) (by
    have : ∃ v : Nat, (1 ≤ v ∧ v ≤ 3) ∧ v ≠ b ∧ v ≠ a := by
      by_cases q1 : 1 ≠ b ∧ 1 ≠ a
      · exact ⟨1, by decide, q1⟩
      · by_cases q2 : 2 ≠ b ∧ 2 ≠ a
        · exact ⟨2, by decide, q2⟩
        · exact ⟨3, by decide, by omega, by omega⟩
    obtain ⟨v, w1, w2, w3⟩ := this
    exact ⟨v, w1, fun q => by rcases mem2 v q with r | r <;> omega⟩)
  have hcb : c ≠ b := fun q => c2 (by rw [q]; exact List.mem_cons_self)
  have hca : c ≠ a := fun q => c2 (by rw [q]; exact List.mem_cons_of_mem _ (List.mem_singleton.mpr rfl))
  refine ⟨y3, a, b, c, v3, a1, b1, c1, by omega, by omega, by omega, o3, ?_⟩
  have p1 := v1.2.1
  have p2 := v2.2.1
  have p3 := v3.2.1
  have p0 := hx.2.1
  have t1 := zq_ftr (x1 := zSn L y2) (y1 := y2 4) (x2 := zSn L y1) (y2 := y1 4) (x3 := zSn L x) (y3 := x 4) (by omega) p1 (by omega) s2 s1
  exact zq_ftr (x1 := zSn L y3) (y1 := y3 4) (x2 := zSn L y2) (y2 := y2 4) (x3 := zSn L x) (y3 := x 4) (by omega) p2 (by omega) s3 t1
