/-! prices, by the class: cell 21; 22..26 its lanes, 27 planes (28 .. 40), 41 the prices -/
def zcol (M : MM) (c : Nat) (g : Nat → Int) (i : Nat) : MM := fun c' => if c' = c then (fun k => if k < i then g k else M c' k) else M c'
theorem zcol_0 (M : MM) (c : Nat) (g : Nat → Int) : zcol M c g 0 = M := by
  funext c'
  unfold zcol
  by_cases h : c' = c
  · rw [if_pos h]; funext k; rw [if_neg (Nat.not_lt_zero k)]
  · rw [if_neg h]
theorem zcol_s (M : MM) (c : Nat) (g : Nat → Int) (i : Nat) : up2 (zcol M c g i) c i (g i) = zcol M c g (i + 1) := by
  funext c'
  unfold up2 zcol
  by_cases h : c' = c
  · rw [if_pos h, if_pos h, if_pos h]
    funext k
    by_cases hk : k = i
    · rw [if_pos hk, if_pos (by omega), hk]
    · rw [if_neg hk]
      by_cases h2 : k < i
      · rw [if_pos h2, if_pos (by omega)]
      · rw [if_neg h2, if_neg (by omega)]
  · rw [if_neg h, if_neg h, if_neg h]
theorem zq_rf27 {j : Nat} (h : j < 13) : rF 27 j = some (28 + j) := if_pos h
theorem zq_ly28a : ∀ j, j < 13 → ly (28 + j) = (6, 5) := by decide
theorem zq_m17 {x y B : Int} (hx : -17 ≤ x ∧ x ≤ 17) (hy : -B ≤ y ∧ y ≤ B) : -(17 * B) ≤ x * y ∧ x * y ≤ 17 * B := by
  have hB : 0 ≤ B := by omega
  have h1 : x * y ≤ (x.natAbs : Int) * (y.natAbs : Int) := by rw [← Int.natCast_mul, ← Int.natAbs_mul]; omega
  have h2 : -(x * y) ≤ (x.natAbs : Int) * (y.natAbs : Int) := by rw [← Int.natCast_mul, ← Int.natAbs_mul]; omega
  have h3 := mul_bd (a := (x.natAbs : Int)) (b := (y.natAbs : Int)) (A := 17) (B := B) (by omega) (by omega)
  omega
set_option maxRecDepth 100000 in
set_option maxHeartbeats 4000000 in
theorem c_X2_changeRoom (G : GG) (l : Launch) (k r : Int) (M : MM) (hk : 0 ≤ k ∧ k < 10) : CMv G l yX2_changeRoom cX2_changeRoom 3 none 1 [.ref 21, vi k, vi r] M (fun M' => M' = up2 M 24 k.toNat r) := by
  refine CT.intro (by decide) (Nat.le_of_ble_eq_true rfl) (fun E hE A T0 => ?_)
  subst hE
  refine a_aload_n (z := 21) A dX2_changeRoom_0 rfl ?_
  refine gf_X2_18 (r := 24) A dX2_changeRoom_1 rfl (by decide) rfl ?_
  refine a_iload_n (z := k) A dX2_changeRoom_4 rfl ?_
  refine a_iload_n (z := r) A dX2_changeRoom_5 rfl ?_
  refine a_iastore (i := k) (j := k.toNat) A dX2_changeRoom_6 rfl (by decide) (by decide) (by omega) rfl ?_
  exact m_return A T0 dX2_changeRoom_7 (by rfl)
set_option maxRecDepth 100000 in
set_option maxHeartbeats 4000000 in
theorem c_X2_upperOfShare (G : GG) (l : Launch) (c : Nat) (w : Int) (M : MM) (hl_c : ly c = (6, 8)) (ha_c : c < 108) (hw : I32 w) (h3 : 1 ≤ M c 3 ∧ M c 3 ≤ 9) (h5 : 0 ≤ M c 5 ∧ M c 5 ≤ 8) : CMi G l yX2_upperOfShare cX2_upperOfShare 2 (some .int) 1 [.ref c, vi w] M (fun z M' => M' = M ∧ ((w = 1 ∧ z = if 0 < M c 3 - M c 5 then M c 3 - M c 5 else 0) ∨ (w ≠ 1 ∧ w = 2 ∧ z = M c 3 + M c 5) ∨ (w ≠ 1 ∧ w ≠ 2 ∧ z = M c 3))) := by
  refine CT.intro (by decide) (Nat.le_of_ble_eq_true rfl) (fun E hE A T0 => ?_)
  subst hE
  refine a_iload_n (z := w) A dX2_upperOfShare_0 rfl ?_
  refine a_iconst A dX2_upperOfShare_1 ?_
  refine a_icmp_ne (tgt := 17) A dX2_upperOfShare_2 (by decide) (by omega) (by omega) (fun h2 => ?_) (fun h2 => ?_)
  · refine a_iload_n (z := w) A dX2_upperOfShare_17 rfl ?_
    refine a_iconst A dX2_upperOfShare_18 ?_
    refine a_icmp_ne (tgt := 32) A dX2_upperOfShare_19 (by decide) (by omega) (by omega) (fun h19 => ?_) (fun h19 => ?_)
    · refine a_aload_n (z := c) A dX2_upperOfShare_32 rfl ?_
      refine a_iconst A dX2_upperOfShare_33 ?_
      refine a_iaload (i := 3) (x := M c 3) A dX2_upperOfShare_34 hl_c ha_c (by decide) (by omega) rfl ?_
      exact m_ireturn A T0 dX2_upperOfShare_35 (by first | exact ⟨rfl, Or.inl ⟨h2, rfl⟩⟩ | exact ⟨rfl, Or.inr (Or.inl ⟨h2, h19, rfl⟩)⟩ | exact ⟨rfl, Or.inr (Or.inr ⟨h2, h19, rfl⟩)⟩)
    · refine a_aload_n (z := c) A dX2_upperOfShare_22 rfl ?_
      refine a_iconst A dX2_upperOfShare_23 ?_
      refine a_iaload (i := 3) (x := M c 3) A dX2_upperOfShare_24 hl_c ha_c (by decide) (by omega) rfl ?_
      refine a_aload_n (z := c) A dX2_upperOfShare_25 rfl ?_
      refine a_iconst A dX2_upperOfShare_26 ?_
      refine a_iaload (i := 5) (x := M c 5) A dX2_upperOfShare_27 hl_c ha_c (by decide) (by omega) rfl ?_
      refine a_iadd (x := (M c 3)) (y := (M c 5)) A dX2_upperOfShare_28 ?_
      refine a_goto (tgt := 35) A dX2_upperOfShare_29 (by decide) ?_
      exact m_ireturn A T0 dX2_upperOfShare_35 (by first | exact ⟨rfl, Or.inl ⟨h2, rfl⟩⟩ | exact ⟨rfl, Or.inr (Or.inl ⟨h2, h19, rfl⟩)⟩ | exact ⟨rfl, Or.inr (Or.inr ⟨h2, h19, rfl⟩)⟩)
  · refine a_iconst A dX2_upperOfShare_5 ?_
    refine a_aload_n (z := c) A dX2_upperOfShare_6 rfl ?_
    refine a_iconst A dX2_upperOfShare_7 ?_
    refine a_iaload (i := 3) (x := M c 3) A dX2_upperOfShare_8 hl_c ha_c (by decide) (by omega) rfl ?_
    refine a_aload_n (z := c) A dX2_upperOfShare_9 rfl ?_
    refine a_iconst A dX2_upperOfShare_10 ?_
    refine a_iaload (i := 5) (x := M c 5) A dX2_upperOfShare_11 hl_c ha_c (by decide) (by omega) rfl ?_
    refine a_isub (x := (M c 3)) (y := (M c 5)) A dX2_upperOfShare_12 ?_
    refine a_max A cj_X2_104 j_max1 j_math j_max2 dX2_upperOfShare_13 (by decide) ⟨Nat.le_refl _, Nat.le_refl _⟩ (Nat.le_of_ble_eq_true rfl) (by omega) (by omega) ?_
    exact m_ireturn A T0 dX2_upperOfShare_16 (by first | exact ⟨rfl, Or.inl ⟨h2, rfl⟩⟩ | exact ⟨rfl, Or.inr (Or.inl ⟨h2, h19, rfl⟩)⟩ | exact ⟨rfl, Or.inr (Or.inr ⟨h2, h19, rfl⟩)⟩)
set_option maxRecDepth 100000 in
set_option maxHeartbeats 4000000 in
theorem c_X2_bendsTheSum (G : GG) (l : Launch) (k : Int) (M : MM) (hk : 0 ≤ k ∧ k < 10) (h22 : I32 (M 22 k.toNat)) (h24 : I32 (M 24 k.toNat)) (h25 : I32 (M 25 k.toNat)) : CMi G l yX2_bendsTheSum cX2_bendsTheSum 2 (some .boolean) 1 [.ref 21, vi k] M (fun z M' => M' = M ∧ ((z = 1 ∧ (M 22 k.toNat ≠ 0 ∧ 0 < M 24 k.toNat ∧ 0 < M 25 k.toNat)) ∨ (z = 0 ∧ ¬ (M 22 k.toNat ≠ 0 ∧ 0 < M 24 k.toNat ∧ 0 < M 25 k.toNat)))) := by
  refine CT.intro (by decide) (Nat.le_of_ble_eq_true rfl) (fun E hE A T0 => ?_)
  subst hE
  refine a_aload_n (z := 21) A dX2_bendsTheSum_0 rfl ?_
  refine gf_X2_9 (r := 22) A dX2_bendsTheSum_1 rfl (by decide) rfl ?_
  refine a_iload_n (z := k) A dX2_bendsTheSum_4 rfl ?_
  refine a_iaload (i := k) (x := M 22 k.toNat) A dX2_bendsTheSum_5 rfl (by decide) (by decide) (by omega) rfl ?_
  refine a_if_eq (tgt := 31) A dX2_bendsTheSum_6 (by decide) (by omega) (fun h6 => ?_) (fun h6 => ?_)
  · refine a_iconst A dX2_bendsTheSum_31 ?_
    exact m_zreturn A T0 dX2_bendsTheSum_32 (by first | exact Or.inl rfl | exact Or.inr rfl | omega) (by exact ⟨rfl, by omega⟩)
  · refine a_aload_n (z := 21) A dX2_bendsTheSum_9 rfl ?_
    refine gf_X2_18 (r := 24) A dX2_bendsTheSum_10 rfl (by decide) rfl ?_
    refine a_iload_n (z := k) A dX2_bendsTheSum_13 rfl ?_
    refine a_iaload (i := k) (x := M 24 k.toNat) A dX2_bendsTheSum_14 rfl (by decide) (by decide) (by omega) rfl ?_
    refine a_if_le (tgt := 31) A dX2_bendsTheSum_15 (by decide) (by omega) (fun h15 => ?_) (fun h15 => ?_)
    · refine a_iconst A dX2_bendsTheSum_31 ?_
      exact m_zreturn A T0 dX2_bendsTheSum_32 (by first | exact Or.inl rfl | exact Or.inr rfl | omega) (by exact ⟨rfl, by omega⟩)
    · refine a_aload_n (z := 21) A dX2_bendsTheSum_18 rfl ?_
      refine gf_X2_21 (r := 25) A dX2_bendsTheSum_19 rfl (by decide) rfl ?_
      refine a_iload_n (z := k) A dX2_bendsTheSum_22 rfl ?_
      refine a_iaload (i := k) (x := M 25 k.toNat) A dX2_bendsTheSum_23 rfl (by decide) (by decide) (by omega) rfl ?_
      refine a_if_le (tgt := 31) A dX2_bendsTheSum_24 (by decide) (by omega) (fun h24 => ?_) (fun h24 => ?_)
      · refine a_iconst A dX2_bendsTheSum_31 ?_
        exact m_zreturn A T0 dX2_bendsTheSum_32 (by first | exact Or.inl rfl | exact Or.inr rfl | omega) (by exact ⟨rfl, by omega⟩)
      · refine a_iconst A dX2_bendsTheSum_27 ?_
        refine a_goto (tgt := 32) A dX2_bendsTheSum_28 (by decide) ?_
        exact m_zreturn A T0 dX2_bendsTheSum_32 (by first | exact Or.inl rfl | exact Or.inr rfl | omega) (by exact ⟨rfl, by omega⟩)
set_option maxRecDepth 100000 in
set_option maxHeartbeats 4000000 in
theorem ep_loop2 {G : GG} {E : EE} {P : Nat → MM → Prop} (A : AmM G E cX2_emptyPlane 3 yX2_emptyPlane.cls 1) (T0 : RT E G yX2_emptyPlane 108 0 0 (some (.array .int)) (fun r rf' M' => rf' = rF ∧ ∃ z, r = some (.ref z) ∧ P z M')) (X : MM) (pl : Nat) (hl_pl : ly pl = (6, 5)) (ha_pl : pl < 108) (hp : P pl (zcol X pl (fun _ => 0) 5)) : ∀ (n : Nat) (i : Nat), 5 - i < n → i ≤ 5 → AM G E 3 22 [.ref 21, .ref pl, vi (i : Int)] [] (zcol X pl (fun _ => 0) i) := by
  intro n
  induction n with
  | zero => intro i hn hi; exfalso; omega
  | succ n ih =>
    intro i hn hi
    refine a_iload_n (z := (i : Int)) A dX2_emptyPlane_22 rfl ?_
    refine a_iconst A dX2_emptyPlane_23 ?_
    refine a_icmp_ge (tgt := 37) A dX2_emptyPlane_24 (by decide) (by omega) (by omega) (fun h24 => ?_) (fun h24 => ?_)
    · refine a_aload_n (z := pl) A dX2_emptyPlane_37 rfl ?_
      exact m_areturn A T0 dX2_emptyPlane_38 (by rw [show i = 5 by omega]; exact hp)
    · refine a_aload_n (z := pl) A dX2_emptyPlane_27 rfl ?_
      refine a_iload_n (z := (i : Int)) A dX2_emptyPlane_28 rfl ?_
      refine a_iconst A dX2_emptyPlane_29 ?_
      refine a_iastore (i := (i : Int)) (j := i) A dX2_emptyPlane_30 hl_pl ha_pl (by decide) (by omega) rfl ?_
      refine a_iinc (z := (i : Int)) (lv' := [.ref 21, .ref pl, vi ((i : Int) + 1)]) A dX2_emptyPlane_31 rfl (by decide) rfl ?_
      refine a_goto (tgt := 22) A dX2_emptyPlane_34 (by decide) ?_
      have hq : up2 (zcol X pl (fun _ => 0) i) pl i 0 = zcol X pl (fun _ => 0) (i + 1) := zcol_s X pl (fun _ => 0) i
      rw [hq]
      exact ih (i + 1) (by omega) (by omega)
set_option maxRecDepth 100000 in
set_option maxHeartbeats 4000000 in
theorem c_X2_emptyPlane (G : GG) (l : Launch) (M : MM) (h7 : 0 ≤ M 21 7 ∧ M 21 7 < 13) : CMr G l yX2_emptyPlane cX2_emptyPlane 3 (some (.array .int)) 1 [.ref 21] M (fun z M' => z = (28 + (M 21 7).toNat) ∧ M' = zcol (up2 M 21 7 (M 21 7 + 1)) (28 + (M 21 7).toNat) (fun _ => 0) 5) := by
  refine CT.intro (by decide) (Nat.le_of_ble_eq_true rfl) (fun E hE A T0 => ?_)
  subst hE
  refine a_aload_n (z := 21) A dX2_emptyPlane_0 rfl ?_
  refine gf_X2_33 (r := 27) A dX2_emptyPlane_1 rfl (by decide) rfl ?_
  refine a_aload_n (z := 21) A dX2_emptyPlane_4 rfl ?_
  refine gf_X2_36 (x := M 21 7) A dX2_emptyPlane_5 rfl (by decide) rfl ?_
  refine a_aaload (i := (M 21 7)) (r := (28 + (M 21 7).toNat)) A dX2_emptyPlane_8 rfl (Or.inr rfl) (by decide) (by decide) (by omega) (zq_rf27 (by omega)) ?_
  refine a_astore_n (lv' := [.ref 21, .ref (28 + (M 21 7).toNat), jk]) A dX2_emptyPlane_9 (by decide) rfl ?_
  refine a_aload_n (z := 21) A dX2_emptyPlane_10 rfl ?_
  refine a_dup A dX2_emptyPlane_11 rfl ?_
  refine gf_X2_36 (x := M 21 7) A dX2_emptyPlane_12 rfl (by decide) rfl ?_
  refine a_iconst A dX2_emptyPlane_15 ?_
  refine a_iadd (x := (M 21 7)) (y := 1) A dX2_emptyPlane_16 ?_
  refine pf_X2_36 A dX2_emptyPlane_17 rfl (by decide) ?_
  refine a_iconst A dX2_emptyPlane_20 ?_
  refine a_istore_n (lv' := [.ref 21, .ref (28 + (M 21 7).toNat), vi 0]) A dX2_emptyPlane_21 (by decide) rfl ?_
  have hk := ep_loop2 A T0 (up2 M 21 7 (M 21 7 + 1)) (28 + (M 21 7).toNat) (zq_ly28a _ (by omega)) (by omega) ⟨rfl, rfl⟩ 6 0 (by omega) (by omega)
  rw [zcol_0] at hk
  exact hk
set_option maxRecDepth 100000 in
set_option maxHeartbeats 4000000 in
theorem c_X2_crossTwo (G : GG) (l : Launch) (a b : Nat) (M : MM) (hl_a : ly a = (6, 5)) (ha_a : a < 108) (hl_b : ly b = (6, 5)) (ha_b : b < 108) (h21a : a ≠ 21) (h21b : b ≠ 21) (hA : ∀ j, j < 5 → -17 ≤ M a j ∧ M a j ≤ 17) (hB : ∀ j, j < 5 → -17 ≤ M b j ∧ M b j ≤ 17) : CMv G l yX2_crossTwo cX2_crossTwo 3 none 1 [.ref 21, .ref a, .ref b] M (fun M' => M' = (up2 (up2 (up2 (up2 (up2 (up2 M 21 9 (M a 1 * M b 2 - M a 2 * M b 1)) 21 10 (M a 1 * M b 3 - M a 3 * M b 1)) 21 11 (M a 1 * M b 4 - M a 4 * M b 1)) 21 12 (M a 2 * M b 3 - M a 3 * M b 2)) 21 13 (M a 2 * M b 4 - M a 4 * M b 2)) 21 14 (M a 3 * M b 4 - M a 4 * M b 3))) := by
  refine CT.intro (by decide) (Nat.le_of_ble_eq_true rfl) (fun E hE A T0 => ?_)
  subst hE
  have m12 := zq_m17 (hA 1 (by decide)) (hB 2 (by decide))
  have m21 := zq_m17 (hA 2 (by decide)) (hB 1 (by decide))
  have m13 := zq_m17 (hA 1 (by decide)) (hB 3 (by decide))
  have m31 := zq_m17 (hA 3 (by decide)) (hB 1 (by decide))
  have m14 := zq_m17 (hA 1 (by decide)) (hB 4 (by decide))
  have m41 := zq_m17 (hA 4 (by decide)) (hB 1 (by decide))
  have m23 := zq_m17 (hA 2 (by decide)) (hB 3 (by decide))
  have m32 := zq_m17 (hA 3 (by decide)) (hB 2 (by decide))
  have m24 := zq_m17 (hA 2 (by decide)) (hB 4 (by decide))
  have m42 := zq_m17 (hA 4 (by decide)) (hB 2 (by decide))
  have m34 := zq_m17 (hA 3 (by decide)) (hB 4 (by decide))
  have m43 := zq_m17 (hA 4 (by decide)) (hB 3 (by decide))
  refine a_aload_n (z := 21) A dX2_crossTwo_0 rfl ?_
  refine a_aload_n (z := a) A dX2_crossTwo_1 rfl ?_
  refine a_iconst A dX2_crossTwo_2 ?_
  refine a_iaload (i := 1) (x := (M a 1)) A dX2_crossTwo_3 hl_a ha_a (by decide) (by omega) rfl ?_
  refine a_aload_n (z := b) A dX2_crossTwo_4 rfl ?_
  refine a_iconst A dX2_crossTwo_5 ?_
  refine a_iaload (i := 2) (x := (M b 2)) A dX2_crossTwo_6 hl_b ha_b (by decide) (by omega) rfl ?_
  refine a_imul (x := (M a 1)) (y := (M b 2)) A dX2_crossTwo_7 ?_
  refine a_aload_n (z := a) A dX2_crossTwo_8 rfl ?_
  refine a_iconst A dX2_crossTwo_9 ?_
  refine a_iaload (i := 2) (x := (M a 2)) A dX2_crossTwo_10 hl_a ha_a (by decide) (by omega) rfl ?_
  refine a_aload_n (z := b) A dX2_crossTwo_11 rfl ?_
  refine a_iconst A dX2_crossTwo_12 ?_
  refine a_iaload (i := 1) (x := (M b 1)) A dX2_crossTwo_13 hl_b ha_b (by decide) (by omega) rfl ?_
  refine a_imul (x := (M a 2)) (y := (M b 1)) A dX2_crossTwo_14 ?_
  refine a_isub (x := ((M a 1) * (M b 2))) (y := ((M a 2) * (M b 1))) A dX2_crossTwo_15 ?_
  refine a_i2l A dX2_crossTwo_16 (by omega) ?_
  refine pf_X2_43 A dX2_crossTwo_17 rfl (by decide) ?_
  refine a_aload_n (z := 21) A dX2_crossTwo_20 rfl ?_
  refine a_aload_n (z := a) A dX2_crossTwo_21 rfl ?_
  refine a_iconst A dX2_crossTwo_22 ?_
  refine a_iaload (i := 1) (x := (M a 1)) A dX2_crossTwo_23 hl_a ha_a (by decide) (by omega) (by simp only [up2_ne _ _ _ _ h21a]; rfl) ?_
  refine a_aload_n (z := b) A dX2_crossTwo_24 rfl ?_
  refine a_iconst A dX2_crossTwo_25 ?_
  refine a_iaload (i := 3) (x := (M b 3)) A dX2_crossTwo_26 hl_b ha_b (by decide) (by omega) (by simp only [up2_ne _ _ _ _ h21b]; rfl) ?_
  refine a_imul (x := (M a 1)) (y := (M b 3)) A dX2_crossTwo_27 ?_
  refine a_aload_n (z := a) A dX2_crossTwo_28 rfl ?_
  refine a_iconst A dX2_crossTwo_29 ?_
  refine a_iaload (i := 3) (x := (M a 3)) A dX2_crossTwo_30 hl_a ha_a (by decide) (by omega) (by simp only [up2_ne _ _ _ _ h21a]; rfl) ?_
  refine a_aload_n (z := b) A dX2_crossTwo_31 rfl ?_
  refine a_iconst A dX2_crossTwo_32 ?_
  refine a_iaload (i := 1) (x := (M b 1)) A dX2_crossTwo_33 hl_b ha_b (by decide) (by omega) (by simp only [up2_ne _ _ _ _ h21b]; rfl) ?_
  refine a_imul (x := (M a 3)) (y := (M b 1)) A dX2_crossTwo_34 ?_
  refine a_isub (x := ((M a 1) * (M b 3))) (y := ((M a 3) * (M b 1))) A dX2_crossTwo_35 ?_
  refine a_i2l A dX2_crossTwo_36 (by omega) ?_
  refine pf_X2_47 A dX2_crossTwo_37 rfl (by decide) ?_
  refine a_aload_n (z := 21) A dX2_crossTwo_40 rfl ?_
  refine a_aload_n (z := a) A dX2_crossTwo_41 rfl ?_
  refine a_iconst A dX2_crossTwo_42 ?_
  refine a_iaload (i := 1) (x := (M a 1)) A dX2_crossTwo_43 hl_a ha_a (by decide) (by omega) (by simp only [up2_ne _ _ _ _ h21a]; rfl) ?_
  refine a_aload_n (z := b) A dX2_crossTwo_44 rfl ?_
  refine a_iconst A dX2_crossTwo_45 ?_
  refine a_iaload (i := 4) (x := (M b 4)) A dX2_crossTwo_46 hl_b ha_b (by decide) (by omega) (by simp only [up2_ne _ _ _ _ h21b]; rfl) ?_
  refine a_imul (x := (M a 1)) (y := (M b 4)) A dX2_crossTwo_47 ?_
  refine a_aload_n (z := a) A dX2_crossTwo_48 rfl ?_
  refine a_iconst A dX2_crossTwo_49 ?_
  refine a_iaload (i := 4) (x := (M a 4)) A dX2_crossTwo_50 hl_a ha_a (by decide) (by omega) (by simp only [up2_ne _ _ _ _ h21a]; rfl) ?_
  refine a_aload_n (z := b) A dX2_crossTwo_51 rfl ?_
  refine a_iconst A dX2_crossTwo_52 ?_
  refine a_iaload (i := 1) (x := (M b 1)) A dX2_crossTwo_53 hl_b ha_b (by decide) (by omega) (by simp only [up2_ne _ _ _ _ h21b]; rfl) ?_
  refine a_imul (x := (M a 4)) (y := (M b 1)) A dX2_crossTwo_54 ?_
  refine a_isub (x := ((M a 1) * (M b 4))) (y := ((M a 4) * (M b 1))) A dX2_crossTwo_55 ?_
  refine a_i2l A dX2_crossTwo_56 (by omega) ?_
  refine pf_X2_50 A dX2_crossTwo_57 rfl (by decide) ?_
  refine a_aload_n (z := 21) A dX2_crossTwo_60 rfl ?_
  refine a_aload_n (z := a) A dX2_crossTwo_61 rfl ?_
  refine a_iconst A dX2_crossTwo_62 ?_
  refine a_iaload (i := 2) (x := (M a 2)) A dX2_crossTwo_63 hl_a ha_a (by decide) (by omega) (by simp only [up2_ne _ _ _ _ h21a]; rfl) ?_
  refine a_aload_n (z := b) A dX2_crossTwo_64 rfl ?_
  refine a_iconst A dX2_crossTwo_65 ?_
  refine a_iaload (i := 3) (x := (M b 3)) A dX2_crossTwo_66 hl_b ha_b (by decide) (by omega) (by simp only [up2_ne _ _ _ _ h21b]; rfl) ?_
  refine a_imul (x := (M a 2)) (y := (M b 3)) A dX2_crossTwo_67 ?_
  refine a_aload_n (z := a) A dX2_crossTwo_68 rfl ?_
  refine a_iconst A dX2_crossTwo_69 ?_
  refine a_iaload (i := 3) (x := (M a 3)) A dX2_crossTwo_70 hl_a ha_a (by decide) (by omega) (by simp only [up2_ne _ _ _ _ h21a]; rfl) ?_
  refine a_aload_n (z := b) A dX2_crossTwo_71 rfl ?_
  refine a_iconst A dX2_crossTwo_72 ?_
  refine a_iaload (i := 2) (x := (M b 2)) A dX2_crossTwo_73 hl_b ha_b (by decide) (by omega) (by simp only [up2_ne _ _ _ _ h21b]; rfl) ?_
  refine a_imul (x := (M a 3)) (y := (M b 2)) A dX2_crossTwo_74 ?_
  refine a_isub (x := ((M a 2) * (M b 3))) (y := ((M a 3) * (M b 2))) A dX2_crossTwo_75 ?_
  refine a_i2l A dX2_crossTwo_76 (by omega) ?_
  refine pf_X2_53 A dX2_crossTwo_77 rfl (by decide) ?_
  refine a_aload_n (z := 21) A dX2_crossTwo_80 rfl ?_
  refine a_aload_n (z := a) A dX2_crossTwo_81 rfl ?_
  refine a_iconst A dX2_crossTwo_82 ?_
  refine a_iaload (i := 2) (x := (M a 2)) A dX2_crossTwo_83 hl_a ha_a (by decide) (by omega) (by simp only [up2_ne _ _ _ _ h21a]; rfl) ?_
  refine a_aload_n (z := b) A dX2_crossTwo_84 rfl ?_
  refine a_iconst A dX2_crossTwo_85 ?_
  refine a_iaload (i := 4) (x := (M b 4)) A dX2_crossTwo_86 hl_b ha_b (by decide) (by omega) (by simp only [up2_ne _ _ _ _ h21b]; rfl) ?_
  refine a_imul (x := (M a 2)) (y := (M b 4)) A dX2_crossTwo_87 ?_
  refine a_aload_n (z := a) A dX2_crossTwo_88 rfl ?_
  refine a_iconst A dX2_crossTwo_89 ?_
  refine a_iaload (i := 4) (x := (M a 4)) A dX2_crossTwo_90 hl_a ha_a (by decide) (by omega) (by simp only [up2_ne _ _ _ _ h21a]; rfl) ?_
  refine a_aload_n (z := b) A dX2_crossTwo_91 rfl ?_
  refine a_iconst A dX2_crossTwo_92 ?_
  refine a_iaload (i := 2) (x := (M b 2)) A dX2_crossTwo_93 hl_b ha_b (by decide) (by omega) (by simp only [up2_ne _ _ _ _ h21b]; rfl) ?_
  refine a_imul (x := (M a 4)) (y := (M b 2)) A dX2_crossTwo_94 ?_
  refine a_isub (x := ((M a 2) * (M b 4))) (y := ((M a 4) * (M b 2))) A dX2_crossTwo_95 ?_
  refine a_i2l A dX2_crossTwo_96 (by omega) ?_
  refine pf_X2_56 A dX2_crossTwo_97 rfl (by decide) ?_
  refine a_aload_n (z := 21) A dX2_crossTwo_100 rfl ?_
  refine a_aload_n (z := a) A dX2_crossTwo_101 rfl ?_
  refine a_iconst A dX2_crossTwo_102 ?_
  refine a_iaload (i := 3) (x := (M a 3)) A dX2_crossTwo_103 hl_a ha_a (by decide) (by omega) (by simp only [up2_ne _ _ _ _ h21a]; rfl) ?_
  refine a_aload_n (z := b) A dX2_crossTwo_104 rfl ?_
  refine a_iconst A dX2_crossTwo_105 ?_
  refine a_iaload (i := 4) (x := (M b 4)) A dX2_crossTwo_106 hl_b ha_b (by decide) (by omega) (by simp only [up2_ne _ _ _ _ h21b]; rfl) ?_
  refine a_imul (x := (M a 3)) (y := (M b 4)) A dX2_crossTwo_107 ?_
  refine a_aload_n (z := a) A dX2_crossTwo_108 rfl ?_
  refine a_iconst A dX2_crossTwo_109 ?_
  refine a_iaload (i := 4) (x := (M a 4)) A dX2_crossTwo_110 hl_a ha_a (by decide) (by omega) (by simp only [up2_ne _ _ _ _ h21a]; rfl) ?_
  refine a_aload_n (z := b) A dX2_crossTwo_111 rfl ?_
  refine a_iconst A dX2_crossTwo_112 ?_
  refine a_iaload (i := 3) (x := (M b 3)) A dX2_crossTwo_113 hl_b ha_b (by decide) (by omega) (by simp only [up2_ne _ _ _ _ h21b]; rfl) ?_
  refine a_imul (x := (M a 4)) (y := (M b 3)) A dX2_crossTwo_114 ?_
  refine a_isub (x := ((M a 3) * (M b 4))) (y := ((M a 4) * (M b 3))) A dX2_crossTwo_115 ?_
  refine a_i2l A dX2_crossTwo_116 (by omega) ?_
  refine pf_X2_59 A dX2_crossTwo_117 rfl (by decide) ?_
  exact m_return A T0 dX2_crossTwo_120 (by rfl)
set_option maxRecDepth 100000 in
set_option maxHeartbeats 4000000 in
theorem c_X2_meetsAtCorner (G : GG) (l : Launch) (c : Nat) (M : MM) (hl_c : ly c = (6, 5)) (ha_c : c < 108) (h41 : c ≠ 41) (hC : ∀ j, j < 5 → -17 ≤ M c j ∧ M c j ≤ 17) (hM : ∀ j, 9 ≤ j → j ≤ 14 → -578 ≤ M 21 j ∧ M 21 j ≤ 578) : CMi G l yX2_meetsAtCorner cX2_meetsAtCorner 5 (some .boolean) 1 [.ref 21, .ref c] M (fun z M' => (z = 0 ∧ (M c 2 * M 21 10 - M c 1 * M 21 12 - M c 3 * M 21 9) = 0 ∧ M' = M) ∨ (z = 1 ∧ 0 < (M c 2 * M 21 10 - M c 1 * M 21 12 - M c 3 * M 21 9) ∧ M' = up2 (up2 (up2 (up2 M 41 1 (1 * (M c 2 * M 21 14 - M c 3 * M 21 13 + M c 4 * M 21 12))) 41 2 (1 * (M c 3 * M 21 11 - M c 1 * M 21 14 - M c 4 * M 21 10))) 41 3 (1 * (M c 1 * M 21 13 - M c 2 * M 21 11 + M c 4 * M 21 9))) 41 4 (1 * (M c 2 * M 21 10 - M c 1 * M 21 12 - M c 3 * M 21 9))) ∨ (z = 1 ∧ (M c 2 * M 21 10 - M c 1 * M 21 12 - M c 3 * M 21 9) < 0 ∧ M' = up2 (up2 (up2 (up2 M 41 1 ((-1) * (M c 2 * M 21 14 - M c 3 * M 21 13 + M c 4 * M 21 12))) 41 2 ((-1) * (M c 3 * M 21 11 - M c 1 * M 21 14 - M c 4 * M 21 10))) 41 3 ((-1) * (M c 1 * M 21 13 - M c 2 * M 21 11 + M c 4 * M 21 9))) 41 4 ((-1) * (M c 2 * M 21 10 - M c 1 * M 21 12 - M c 3 * M 21 9)))) := by
  refine CT.intro (by decide) (Nat.le_of_ble_eq_true rfl) (fun E hE A T0 => ?_)
  subst hE
  have n1 := zq_m17 (hC 2 (by decide)) (hM 10 (by decide) (by decide))
  have n2 := zq_m17 (hC 1 (by decide)) (hM 12 (by decide) (by decide))
  have n3 := zq_m17 (hC 3 (by decide)) (hM 9 (by decide) (by decide))
  have c1 := hC 1 (by decide)
  have c2 := hC 2 (by decide)
  have c3 := hC 3 (by decide)
  have c4 := hC 4 (by decide)
  refine a_aload_n (z := c) A dX2_meetsAtCorner_0 rfl ?_
  refine a_iconst A dX2_meetsAtCorner_1 ?_
  refine a_iaload (i := 2) (x := (M c 2)) A dX2_meetsAtCorner_2 hl_c ha_c (by decide) (by omega) rfl ?_
  refine a_i2l A dX2_meetsAtCorner_3 (by omega) ?_
  refine a_aload_n (z := 21) A dX2_meetsAtCorner_4 rfl ?_
  refine gf_X2_47 (x := M 21 10) A dX2_meetsAtCorner_5 rfl (by decide) rfl ?_
  refine a_lmul (x := (M c 2)) (y := (M 21 10)) A dX2_meetsAtCorner_8 ?_
  refine a_aload_n (z := c) A dX2_meetsAtCorner_9 rfl ?_
  refine a_iconst A dX2_meetsAtCorner_10 ?_
  refine a_iaload (i := 1) (x := (M c 1)) A dX2_meetsAtCorner_11 hl_c ha_c (by decide) (by omega) rfl ?_
  refine a_i2l A dX2_meetsAtCorner_12 (by omega) ?_
  refine a_aload_n (z := 21) A dX2_meetsAtCorner_13 rfl ?_
  refine gf_X2_53 (x := M 21 12) A dX2_meetsAtCorner_14 rfl (by decide) rfl ?_
  refine a_lmul (x := (M c 1)) (y := (M 21 12)) A dX2_meetsAtCorner_17 ?_
  refine a_lsub (x := ((M c 2) * (M 21 10))) (y := ((M c 1) * (M 21 12))) A dX2_meetsAtCorner_18 ?_
  refine a_aload_n (z := c) A dX2_meetsAtCorner_19 rfl ?_
  refine a_iconst A dX2_meetsAtCorner_20 ?_
  refine a_iaload (i := 3) (x := (M c 3)) A dX2_meetsAtCorner_21 hl_c ha_c (by decide) (by omega) rfl ?_
  refine a_i2l A dX2_meetsAtCorner_22 (by omega) ?_
  refine a_aload_n (z := 21) A dX2_meetsAtCorner_23 rfl ?_
  refine gf_X2_43 (x := M 21 9) A dX2_meetsAtCorner_24 rfl (by decide) rfl ?_
  refine a_lmul (x := (M c 3)) (y := (M 21 9)) A dX2_meetsAtCorner_27 ?_
  refine a_lsub (x := (((M c 2) * (M 21 10)) - ((M c 1) * (M 21 12)))) (y := ((M c 3) * (M 21 9))) A dX2_meetsAtCorner_28 ?_
  refine a_lstore_n (lv' := [.ref 21, .ref c, vl ((((M c 2) * (M 21 10)) - ((M c 1) * (M 21 12))) - ((M c 3) * (M 21 9))), jk, jk]) A dX2_meetsAtCorner_29 (by decide) rfl ?_
  refine a_lload_n (z := ((((M c 2) * (M 21 10)) - ((M c 1) * (M 21 12))) - ((M c 3) * (M 21 9)))) A dX2_meetsAtCorner_30 rfl ?_
  refine a_lconst0 A dX2_meetsAtCorner_31 ?_
  refine a_lcmp_ne (tgt := 38) A dX2_meetsAtCorner_32 dX2_meetsAtCorner_33 (by decide) (by omega) (by omega) (fun h32 => ?_) (fun h32 => ?_)
  · refine a_lload_n (z := ((((M c 2) * (M 21 10)) - ((M c 1) * (M 21 12))) - ((M c 3) * (M 21 9)))) A dX2_meetsAtCorner_38 rfl ?_
    refine a_lconst0 A dX2_meetsAtCorner_39 ?_
    refine a_lcmp_le (tgt := 48) A dX2_meetsAtCorner_40 dX2_meetsAtCorner_41 (by decide) (by omega) (by omega) (fun h40 => ?_) (fun h40 => ?_)
    · refine a_iconst A dX2_meetsAtCorner_48 ?_
      refine a_istore (lv' := [.ref 21, .ref c, vl ((((M c 2) * (M 21 10)) - ((M c 1) * (M 21 12))) - ((M c 3) * (M 21 9))), jk, vi (-1)]) A dX2_meetsAtCorner_49 (by decide) rfl ?_
      refine a_aload_n (z := 21) A dX2_meetsAtCorner_51 rfl ?_
      refine gf_X2_39 (r := 41) A dX2_meetsAtCorner_52 rfl (by decide) rfl ?_
      refine a_iconst A dX2_meetsAtCorner_55 ?_
      refine a_iload (z := (-1)) A dX2_meetsAtCorner_56 rfl ?_
      refine a_i2l A dX2_meetsAtCorner_58 (by omega) ?_
      refine a_aload_n (z := c) A dX2_meetsAtCorner_59 rfl ?_
      refine a_iconst A dX2_meetsAtCorner_60 ?_
      refine a_iaload (i := 2) (x := (M c 2)) A dX2_meetsAtCorner_61 hl_c ha_c (by decide) (by omega) rfl ?_
      refine a_i2l A dX2_meetsAtCorner_62 (by omega) ?_
      refine a_aload_n (z := 21) A dX2_meetsAtCorner_63 rfl ?_
      refine gf_X2_59 (x := M 21 14) A dX2_meetsAtCorner_64 rfl (by decide) rfl ?_
      refine a_lmul (x := (M c 2)) (y := (M 21 14)) A dX2_meetsAtCorner_67 ?_
      refine a_aload_n (z := c) A dX2_meetsAtCorner_68 rfl ?_
      refine a_iconst A dX2_meetsAtCorner_69 ?_
      refine a_iaload (i := 3) (x := (M c 3)) A dX2_meetsAtCorner_70 hl_c ha_c (by decide) (by omega) rfl ?_
      refine a_i2l A dX2_meetsAtCorner_71 (by omega) ?_
      refine a_aload_n (z := 21) A dX2_meetsAtCorner_72 rfl ?_
      refine gf_X2_56 (x := M 21 13) A dX2_meetsAtCorner_73 rfl (by decide) rfl ?_
      refine a_lmul (x := (M c 3)) (y := (M 21 13)) A dX2_meetsAtCorner_76 ?_
      refine a_lsub (x := ((M c 2) * (M 21 14))) (y := ((M c 3) * (M 21 13))) A dX2_meetsAtCorner_77 ?_
      refine a_aload_n (z := c) A dX2_meetsAtCorner_78 rfl ?_
      refine a_iconst A dX2_meetsAtCorner_79 ?_
      refine a_iaload (i := 4) (x := (M c 4)) A dX2_meetsAtCorner_80 hl_c ha_c (by decide) (by omega) rfl ?_
      refine a_i2l A dX2_meetsAtCorner_81 (by omega) ?_
      refine a_aload_n (z := 21) A dX2_meetsAtCorner_82 rfl ?_
      refine gf_X2_53 (x := M 21 12) A dX2_meetsAtCorner_83 rfl (by decide) rfl ?_
      refine a_lmul (x := (M c 4)) (y := (M 21 12)) A dX2_meetsAtCorner_86 ?_
      refine a_ladd (x := (((M c 2) * (M 21 14)) - ((M c 3) * (M 21 13)))) (y := ((M c 4) * (M 21 12))) A dX2_meetsAtCorner_87 ?_
      refine a_lmul (x := (-1)) (y := ((((M c 2) * (M 21 14)) - ((M c 3) * (M 21 13))) + ((M c 4) * (M 21 12)))) A dX2_meetsAtCorner_88 ?_
      refine a_lastore (i := 1) (j := 1) A dX2_meetsAtCorner_89 rfl (by decide) (by decide) (by omega) rfl ?_
      refine a_aload_n (z := 21) A dX2_meetsAtCorner_90 rfl ?_
      refine gf_X2_39 (r := 41) A dX2_meetsAtCorner_91 rfl (by decide) rfl ?_
      refine a_iconst A dX2_meetsAtCorner_94 ?_
      refine a_iload (z := (-1)) A dX2_meetsAtCorner_95 rfl ?_
      refine a_i2l A dX2_meetsAtCorner_97 (by omega) ?_
      refine a_aload_n (z := c) A dX2_meetsAtCorner_98 rfl ?_
      refine a_iconst A dX2_meetsAtCorner_99 ?_
      refine a_iaload (i := 3) (x := (M c 3)) A dX2_meetsAtCorner_100 hl_c ha_c (by decide) (by omega) (by simp only [up2_ne _ _ _ _ h41]; rfl) ?_
      refine a_i2l A dX2_meetsAtCorner_101 (by omega) ?_
      refine a_aload_n (z := 21) A dX2_meetsAtCorner_102 rfl ?_
      refine gf_X2_50 (x := M 21 11) A dX2_meetsAtCorner_103 rfl (by decide) rfl ?_
      refine a_lmul (x := (M c 3)) (y := (M 21 11)) A dX2_meetsAtCorner_106 ?_
      refine a_aload_n (z := c) A dX2_meetsAtCorner_107 rfl ?_
      refine a_iconst A dX2_meetsAtCorner_108 ?_
      refine a_iaload (i := 1) (x := (M c 1)) A dX2_meetsAtCorner_109 hl_c ha_c (by decide) (by omega) (by simp only [up2_ne _ _ _ _ h41]; rfl) ?_
      refine a_i2l A dX2_meetsAtCorner_110 (by omega) ?_
      refine a_aload_n (z := 21) A dX2_meetsAtCorner_111 rfl ?_
      refine gf_X2_59 (x := M 21 14) A dX2_meetsAtCorner_112 rfl (by decide) rfl ?_
      refine a_lmul (x := (M c 1)) (y := (M 21 14)) A dX2_meetsAtCorner_115 ?_
      refine a_lsub (x := ((M c 3) * (M 21 11))) (y := ((M c 1) * (M 21 14))) A dX2_meetsAtCorner_116 ?_
      refine a_aload_n (z := c) A dX2_meetsAtCorner_117 rfl ?_
      refine a_iconst A dX2_meetsAtCorner_118 ?_
      refine a_iaload (i := 4) (x := (M c 4)) A dX2_meetsAtCorner_119 hl_c ha_c (by decide) (by omega) (by simp only [up2_ne _ _ _ _ h41]; rfl) ?_
      refine a_i2l A dX2_meetsAtCorner_120 (by omega) ?_
      refine a_aload_n (z := 21) A dX2_meetsAtCorner_121 rfl ?_
      refine gf_X2_47 (x := M 21 10) A dX2_meetsAtCorner_122 rfl (by decide) rfl ?_
      refine a_lmul (x := (M c 4)) (y := (M 21 10)) A dX2_meetsAtCorner_125 ?_
      refine a_lsub (x := (((M c 3) * (M 21 11)) - ((M c 1) * (M 21 14)))) (y := ((M c 4) * (M 21 10))) A dX2_meetsAtCorner_126 ?_
      refine a_lmul (x := (-1)) (y := ((((M c 3) * (M 21 11)) - ((M c 1) * (M 21 14))) - ((M c 4) * (M 21 10)))) A dX2_meetsAtCorner_127 ?_
      refine a_lastore (i := 2) (j := 2) A dX2_meetsAtCorner_128 rfl (by decide) (by decide) (by omega) rfl ?_
      refine a_aload_n (z := 21) A dX2_meetsAtCorner_129 rfl ?_
      refine gf_X2_39 (r := 41) A dX2_meetsAtCorner_130 rfl (by decide) rfl ?_
      refine a_iconst A dX2_meetsAtCorner_133 ?_
      refine a_iload (z := (-1)) A dX2_meetsAtCorner_134 rfl ?_
      refine a_i2l A dX2_meetsAtCorner_136 (by omega) ?_
      refine a_aload_n (z := c) A dX2_meetsAtCorner_137 rfl ?_
      refine a_iconst A dX2_meetsAtCorner_138 ?_
      refine a_iaload (i := 1) (x := (M c 1)) A dX2_meetsAtCorner_139 hl_c ha_c (by decide) (by omega) (by simp only [up2_ne _ _ _ _ h41]; rfl) ?_
      refine a_i2l A dX2_meetsAtCorner_140 (by omega) ?_
      refine a_aload_n (z := 21) A dX2_meetsAtCorner_141 rfl ?_
      refine gf_X2_56 (x := M 21 13) A dX2_meetsAtCorner_142 rfl (by decide) rfl ?_
      refine a_lmul (x := (M c 1)) (y := (M 21 13)) A dX2_meetsAtCorner_145 ?_
      refine a_aload_n (z := c) A dX2_meetsAtCorner_146 rfl ?_
      refine a_iconst A dX2_meetsAtCorner_147 ?_
      refine a_iaload (i := 2) (x := (M c 2)) A dX2_meetsAtCorner_148 hl_c ha_c (by decide) (by omega) (by simp only [up2_ne _ _ _ _ h41]; rfl) ?_
      refine a_i2l A dX2_meetsAtCorner_149 (by omega) ?_
      refine a_aload_n (z := 21) A dX2_meetsAtCorner_150 rfl ?_
      refine gf_X2_50 (x := M 21 11) A dX2_meetsAtCorner_151 rfl (by decide) rfl ?_
      refine a_lmul (x := (M c 2)) (y := (M 21 11)) A dX2_meetsAtCorner_154 ?_
      refine a_lsub (x := ((M c 1) * (M 21 13))) (y := ((M c 2) * (M 21 11))) A dX2_meetsAtCorner_155 ?_
      refine a_aload_n (z := c) A dX2_meetsAtCorner_156 rfl ?_
      refine a_iconst A dX2_meetsAtCorner_157 ?_
      refine a_iaload (i := 4) (x := (M c 4)) A dX2_meetsAtCorner_158 hl_c ha_c (by decide) (by omega) (by simp only [up2_ne _ _ _ _ h41]; rfl) ?_
      refine a_i2l A dX2_meetsAtCorner_159 (by omega) ?_
      refine a_aload_n (z := 21) A dX2_meetsAtCorner_160 rfl ?_
      refine gf_X2_43 (x := M 21 9) A dX2_meetsAtCorner_161 rfl (by decide) rfl ?_
      refine a_lmul (x := (M c 4)) (y := (M 21 9)) A dX2_meetsAtCorner_164 ?_
      refine a_ladd (x := (((M c 1) * (M 21 13)) - ((M c 2) * (M 21 11)))) (y := ((M c 4) * (M 21 9))) A dX2_meetsAtCorner_165 ?_
      refine a_lmul (x := (-1)) (y := ((((M c 1) * (M 21 13)) - ((M c 2) * (M 21 11))) + ((M c 4) * (M 21 9)))) A dX2_meetsAtCorner_166 ?_
      refine a_lastore (i := 3) (j := 3) A dX2_meetsAtCorner_167 rfl (by decide) (by decide) (by omega) rfl ?_
      refine a_aload_n (z := 21) A dX2_meetsAtCorner_168 rfl ?_
      refine gf_X2_39 (r := 41) A dX2_meetsAtCorner_169 rfl (by decide) rfl ?_
      refine a_iconst A dX2_meetsAtCorner_172 ?_
      refine a_iload (z := (-1)) A dX2_meetsAtCorner_173 rfl ?_
      refine a_i2l A dX2_meetsAtCorner_175 (by omega) ?_
      refine a_lload_n (z := ((((M c 2) * (M 21 10)) - ((M c 1) * (M 21 12))) - ((M c 3) * (M 21 9)))) A dX2_meetsAtCorner_176 rfl ?_
      refine a_lmul (x := (-1)) (y := ((((M c 2) * (M 21 10)) - ((M c 1) * (M 21 12))) - ((M c 3) * (M 21 9)))) A dX2_meetsAtCorner_177 ?_
      refine a_lastore (i := 4) (j := 4) A dX2_meetsAtCorner_178 rfl (by decide) (by decide) (by omega) rfl ?_
      refine a_iconst A dX2_meetsAtCorner_179 ?_
      exact m_zreturn A T0 dX2_meetsAtCorner_180 (by first | exact Or.inl rfl | exact Or.inr rfl | omega) (by first | exact Or.inl ⟨rfl, h32, rfl⟩ | exact Or.inr (Or.inl ⟨rfl, by omega, rfl⟩) | exact Or.inr (Or.inr ⟨rfl, by omega, rfl⟩))
    · refine a_iconst A dX2_meetsAtCorner_44 ?_
      refine a_goto (tgt := 49) A dX2_meetsAtCorner_45 (by decide) ?_
      refine a_istore (lv' := [.ref 21, .ref c, vl ((((M c 2) * (M 21 10)) - ((M c 1) * (M 21 12))) - ((M c 3) * (M 21 9))), jk, vi 1]) A dX2_meetsAtCorner_49 (by decide) rfl ?_
      refine a_aload_n (z := 21) A dX2_meetsAtCorner_51 rfl ?_
      refine gf_X2_39 (r := 41) A dX2_meetsAtCorner_52 rfl (by decide) rfl ?_
      refine a_iconst A dX2_meetsAtCorner_55 ?_
      refine a_iload (z := 1) A dX2_meetsAtCorner_56 rfl ?_
      refine a_i2l A dX2_meetsAtCorner_58 (by omega) ?_
      refine a_aload_n (z := c) A dX2_meetsAtCorner_59 rfl ?_
      refine a_iconst A dX2_meetsAtCorner_60 ?_
      refine a_iaload (i := 2) (x := (M c 2)) A dX2_meetsAtCorner_61 hl_c ha_c (by decide) (by omega) rfl ?_
      refine a_i2l A dX2_meetsAtCorner_62 (by omega) ?_
      refine a_aload_n (z := 21) A dX2_meetsAtCorner_63 rfl ?_
      refine gf_X2_59 (x := M 21 14) A dX2_meetsAtCorner_64 rfl (by decide) rfl ?_
      refine a_lmul (x := (M c 2)) (y := (M 21 14)) A dX2_meetsAtCorner_67 ?_
      refine a_aload_n (z := c) A dX2_meetsAtCorner_68 rfl ?_
      refine a_iconst A dX2_meetsAtCorner_69 ?_
      refine a_iaload (i := 3) (x := (M c 3)) A dX2_meetsAtCorner_70 hl_c ha_c (by decide) (by omega) rfl ?_
      refine a_i2l A dX2_meetsAtCorner_71 (by omega) ?_
      refine a_aload_n (z := 21) A dX2_meetsAtCorner_72 rfl ?_
      refine gf_X2_56 (x := M 21 13) A dX2_meetsAtCorner_73 rfl (by decide) rfl ?_
      refine a_lmul (x := (M c 3)) (y := (M 21 13)) A dX2_meetsAtCorner_76 ?_
      refine a_lsub (x := ((M c 2) * (M 21 14))) (y := ((M c 3) * (M 21 13))) A dX2_meetsAtCorner_77 ?_
      refine a_aload_n (z := c) A dX2_meetsAtCorner_78 rfl ?_
      refine a_iconst A dX2_meetsAtCorner_79 ?_
      refine a_iaload (i := 4) (x := (M c 4)) A dX2_meetsAtCorner_80 hl_c ha_c (by decide) (by omega) rfl ?_
      refine a_i2l A dX2_meetsAtCorner_81 (by omega) ?_
      refine a_aload_n (z := 21) A dX2_meetsAtCorner_82 rfl ?_
      refine gf_X2_53 (x := M 21 12) A dX2_meetsAtCorner_83 rfl (by decide) rfl ?_
      refine a_lmul (x := (M c 4)) (y := (M 21 12)) A dX2_meetsAtCorner_86 ?_
      refine a_ladd (x := (((M c 2) * (M 21 14)) - ((M c 3) * (M 21 13)))) (y := ((M c 4) * (M 21 12))) A dX2_meetsAtCorner_87 ?_
      refine a_lmul (x := 1) (y := ((((M c 2) * (M 21 14)) - ((M c 3) * (M 21 13))) + ((M c 4) * (M 21 12)))) A dX2_meetsAtCorner_88 ?_
      refine a_lastore (i := 1) (j := 1) A dX2_meetsAtCorner_89 rfl (by decide) (by decide) (by omega) rfl ?_
      refine a_aload_n (z := 21) A dX2_meetsAtCorner_90 rfl ?_
      refine gf_X2_39 (r := 41) A dX2_meetsAtCorner_91 rfl (by decide) rfl ?_
      refine a_iconst A dX2_meetsAtCorner_94 ?_
      refine a_iload (z := 1) A dX2_meetsAtCorner_95 rfl ?_
      refine a_i2l A dX2_meetsAtCorner_97 (by omega) ?_
      refine a_aload_n (z := c) A dX2_meetsAtCorner_98 rfl ?_
      refine a_iconst A dX2_meetsAtCorner_99 ?_
      refine a_iaload (i := 3) (x := (M c 3)) A dX2_meetsAtCorner_100 hl_c ha_c (by decide) (by omega) (by simp only [up2_ne _ _ _ _ h41]; rfl) ?_
      refine a_i2l A dX2_meetsAtCorner_101 (by omega) ?_
      refine a_aload_n (z := 21) A dX2_meetsAtCorner_102 rfl ?_
      refine gf_X2_50 (x := M 21 11) A dX2_meetsAtCorner_103 rfl (by decide) rfl ?_
      refine a_lmul (x := (M c 3)) (y := (M 21 11)) A dX2_meetsAtCorner_106 ?_
      refine a_aload_n (z := c) A dX2_meetsAtCorner_107 rfl ?_
      refine a_iconst A dX2_meetsAtCorner_108 ?_
      refine a_iaload (i := 1) (x := (M c 1)) A dX2_meetsAtCorner_109 hl_c ha_c (by decide) (by omega) (by simp only [up2_ne _ _ _ _ h41]; rfl) ?_
      refine a_i2l A dX2_meetsAtCorner_110 (by omega) ?_
      refine a_aload_n (z := 21) A dX2_meetsAtCorner_111 rfl ?_
      refine gf_X2_59 (x := M 21 14) A dX2_meetsAtCorner_112 rfl (by decide) rfl ?_
      refine a_lmul (x := (M c 1)) (y := (M 21 14)) A dX2_meetsAtCorner_115 ?_
      refine a_lsub (x := ((M c 3) * (M 21 11))) (y := ((M c 1) * (M 21 14))) A dX2_meetsAtCorner_116 ?_
      refine a_aload_n (z := c) A dX2_meetsAtCorner_117 rfl ?_
      refine a_iconst A dX2_meetsAtCorner_118 ?_
      refine a_iaload (i := 4) (x := (M c 4)) A dX2_meetsAtCorner_119 hl_c ha_c (by decide) (by omega) (by simp only [up2_ne _ _ _ _ h41]; rfl) ?_
      refine a_i2l A dX2_meetsAtCorner_120 (by omega) ?_
      refine a_aload_n (z := 21) A dX2_meetsAtCorner_121 rfl ?_
      refine gf_X2_47 (x := M 21 10) A dX2_meetsAtCorner_122 rfl (by decide) rfl ?_
      refine a_lmul (x := (M c 4)) (y := (M 21 10)) A dX2_meetsAtCorner_125 ?_
      refine a_lsub (x := (((M c 3) * (M 21 11)) - ((M c 1) * (M 21 14)))) (y := ((M c 4) * (M 21 10))) A dX2_meetsAtCorner_126 ?_
      refine a_lmul (x := 1) (y := ((((M c 3) * (M 21 11)) - ((M c 1) * (M 21 14))) - ((M c 4) * (M 21 10)))) A dX2_meetsAtCorner_127 ?_
      refine a_lastore (i := 2) (j := 2) A dX2_meetsAtCorner_128 rfl (by decide) (by decide) (by omega) rfl ?_
      refine a_aload_n (z := 21) A dX2_meetsAtCorner_129 rfl ?_
      refine gf_X2_39 (r := 41) A dX2_meetsAtCorner_130 rfl (by decide) rfl ?_
      refine a_iconst A dX2_meetsAtCorner_133 ?_
      refine a_iload (z := 1) A dX2_meetsAtCorner_134 rfl ?_
      refine a_i2l A dX2_meetsAtCorner_136 (by omega) ?_
      refine a_aload_n (z := c) A dX2_meetsAtCorner_137 rfl ?_
      refine a_iconst A dX2_meetsAtCorner_138 ?_
      refine a_iaload (i := 1) (x := (M c 1)) A dX2_meetsAtCorner_139 hl_c ha_c (by decide) (by omega) (by simp only [up2_ne _ _ _ _ h41]; rfl) ?_
      refine a_i2l A dX2_meetsAtCorner_140 (by omega) ?_
      refine a_aload_n (z := 21) A dX2_meetsAtCorner_141 rfl ?_
      refine gf_X2_56 (x := M 21 13) A dX2_meetsAtCorner_142 rfl (by decide) rfl ?_
      refine a_lmul (x := (M c 1)) (y := (M 21 13)) A dX2_meetsAtCorner_145 ?_
      refine a_aload_n (z := c) A dX2_meetsAtCorner_146 rfl ?_
      refine a_iconst A dX2_meetsAtCorner_147 ?_
      refine a_iaload (i := 2) (x := (M c 2)) A dX2_meetsAtCorner_148 hl_c ha_c (by decide) (by omega) (by simp only [up2_ne _ _ _ _ h41]; rfl) ?_
      refine a_i2l A dX2_meetsAtCorner_149 (by omega) ?_
      refine a_aload_n (z := 21) A dX2_meetsAtCorner_150 rfl ?_
      refine gf_X2_50 (x := M 21 11) A dX2_meetsAtCorner_151 rfl (by decide) rfl ?_
      refine a_lmul (x := (M c 2)) (y := (M 21 11)) A dX2_meetsAtCorner_154 ?_
      refine a_lsub (x := ((M c 1) * (M 21 13))) (y := ((M c 2) * (M 21 11))) A dX2_meetsAtCorner_155 ?_
      refine a_aload_n (z := c) A dX2_meetsAtCorner_156 rfl ?_
      refine a_iconst A dX2_meetsAtCorner_157 ?_
      refine a_iaload (i := 4) (x := (M c 4)) A dX2_meetsAtCorner_158 hl_c ha_c (by decide) (by omega) (by simp only [up2_ne _ _ _ _ h41]; rfl) ?_
      refine a_i2l A dX2_meetsAtCorner_159 (by omega) ?_
      refine a_aload_n (z := 21) A dX2_meetsAtCorner_160 rfl ?_
      refine gf_X2_43 (x := M 21 9) A dX2_meetsAtCorner_161 rfl (by decide) rfl ?_
      refine a_lmul (x := (M c 4)) (y := (M 21 9)) A dX2_meetsAtCorner_164 ?_
      refine a_ladd (x := (((M c 1) * (M 21 13)) - ((M c 2) * (M 21 11)))) (y := ((M c 4) * (M 21 9))) A dX2_meetsAtCorner_165 ?_
      refine a_lmul (x := 1) (y := ((((M c 1) * (M 21 13)) - ((M c 2) * (M 21 11))) + ((M c 4) * (M 21 9)))) A dX2_meetsAtCorner_166 ?_
      refine a_lastore (i := 3) (j := 3) A dX2_meetsAtCorner_167 rfl (by decide) (by decide) (by omega) rfl ?_
      refine a_aload_n (z := 21) A dX2_meetsAtCorner_168 rfl ?_
      refine gf_X2_39 (r := 41) A dX2_meetsAtCorner_169 rfl (by decide) rfl ?_
      refine a_iconst A dX2_meetsAtCorner_172 ?_
      refine a_iload (z := 1) A dX2_meetsAtCorner_173 rfl ?_
      refine a_i2l A dX2_meetsAtCorner_175 (by omega) ?_
      refine a_lload_n (z := ((((M c 2) * (M 21 10)) - ((M c 1) * (M 21 12))) - ((M c 3) * (M 21 9)))) A dX2_meetsAtCorner_176 rfl ?_
      refine a_lmul (x := 1) (y := ((((M c 2) * (M 21 10)) - ((M c 1) * (M 21 12))) - ((M c 3) * (M 21 9)))) A dX2_meetsAtCorner_177 ?_
      refine a_lastore (i := 4) (j := 4) A dX2_meetsAtCorner_178 rfl (by decide) (by decide) (by omega) rfl ?_
      refine a_iconst A dX2_meetsAtCorner_179 ?_
      exact m_zreturn A T0 dX2_meetsAtCorner_180 (by first | exact Or.inl rfl | exact Or.inr rfl | omega) (by first | exact Or.inl ⟨rfl, h32, rfl⟩ | exact Or.inr (Or.inl ⟨rfl, by omega, rfl⟩) | exact Or.inr (Or.inr ⟨rfl, by omega, rfl⟩))
  · refine a_iconst A dX2_meetsAtCorner_36 ?_
    exact m_zreturn A T0 dX2_meetsAtCorner_37 (by first | exact Or.inl rfl | exact Or.inr rfl | omega) (by first | exact Or.inl ⟨rfl, h32, rfl⟩ | exact Or.inr (Or.inl ⟨rfl, by omega, rfl⟩) | exact Or.inr (Or.inr ⟨rfl, by omega, rfl⟩))
