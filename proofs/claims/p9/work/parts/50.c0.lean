theorem eu_step {x y t : Nat} (hy : 0 < y) (hxy : y < x) (h : x * y * 2 ^ t ≤ 2 ^ 127) : y * (x % y) * 2 ^ (t + 1) ≤ 2 ^ 127 := by
  have h1 := Nat.div_add_mod x y
  have h2 := Nat.mod_lt x hy
  have h3 : 1 ≤ x / y := Nat.div_pos (Nat.le_of_lt hxy) hy
  have h4 : y * 1 ≤ y * (x / y) := Nat.mul_le_mul_left y h3
  have h5 : 2 * (x % y) ≤ x := by omega
  calc y * (x % y) * 2 ^ (t + 1) = y * (2 * (x % y)) * 2 ^ t := by rw [Nat.pow_succ]; simp only [Nat.mul_assoc, Nat.mul_left_comm, Nat.mul_comm]
    _ ≤ y * x * 2 ^ t := Nat.mul_le_mul_right _ (Nat.mul_le_mul_left y h5)
    _ = x * y * 2 ^ t := by rw [Nat.mul_comm y x]
    _ ≤ 2 ^ 127 := h
set_option maxRecDepth 100000 in
set_option maxHeartbeats 4000000 in
theorem cd_loop0 {G : GG} {E : EE} {P : Int → MM → Prop} (A : AmM G E cX0_commonDivisor 11 yX0_commonDivisor.cls 1) (T0 : RT E G yX0_commonDivisor 108 0 0 (some .long) (fun r rf' M' => rf' = rF ∧ ∃ z, r = some (vl z) ∧ P z M')) (a b : Int) (M : MM) : ∀ (n : Nat) (x y t : Nat) (w : Value), y < n → t < 129 → x < 9223372036854775808 → y < 9223372036854775808 → (0 < x ∨ 0 < y) → (y < x ∨ t = 0) → x * y * 2 ^ t ≤ 2 ^ 127 → P ((Nat.gcd x y : Nat) : Int) M → AM G E 11 9 [vl a, jk, vl b, jk, vl (x : Int), jk, vl (y : Int), jk, vi (t : Int), w, jk] [] M := by
  intro n
  induction n with
  | zero => intro x y t w hn h129 hx hy hpos hlt hm hp; exfalso; omega
  | succ n ih =>
    intro x y t w hn h129 hx hy hpos hlt hm hp
    have ht : 0 < y → t < 128 := fun q => by
      rcases Nat.lt_or_ge t 128 with c | c
      · exact c
      · exfalso
        have hx0 : 0 < x := by omega
        have h1 : 2 ^ 128 ≤ 2 ^ t := Nat.pow_le_pow_right (by decide) c
        have h2 : 1 * 2 ^ 128 ≤ x * y * 2 ^ t := Nat.mul_le_mul (Nat.mul_pos hx0 q) h1
        have h3 : (2 : Nat) ^ 127 < 2 ^ 128 := by decide
        omega
    refine a_iload (z := (t : Int)) A dX0_commonDivisor_9 rfl ?_
    refine a_sipush A dX0_commonDivisor_11 (by decide) ?_
    refine a_icmp_ge (tgt := 45) A dX0_commonDivisor_14 (by decide) (by omega) (by omega) (fun h14 => ?_) (fun h14 => ?_)
    · refine a_lload (z := (x : Int)) A dX0_commonDivisor_45 rfl ?_
      refine a_lconst1 A dX0_commonDivisor_47 ?_
      refine a_lcmp_ge (tgt := 56) A dX0_commonDivisor_48 dX0_commonDivisor_49 (by decide) (by omega) (by omega) (fun h48 => ?_) (fun h48 => ?_)
      · refine a_lload (z := (x : Int)) A dX0_commonDivisor_56 rfl ?_
        exact m_lreturn A T0 dX0_commonDivisor_58 (by rw [show y = 0 by omega, Nat.gcd_zero_right] at hp; first | exact hp | (exfalso; omega))
      · refine a_lconst1 A dX0_commonDivisor_52 ?_
        refine a_goto (tgt := 58) A dX0_commonDivisor_53 (by decide) ?_
        exact m_lreturn A T0 dX0_commonDivisor_58 (by rw [show y = 0 by omega, Nat.gcd_zero_right] at hp; first | exact hp | (exfalso; omega))
    · refine a_lload (z := (y : Int)) A dX0_commonDivisor_17 rfl ?_
      refine a_lconst0 A dX0_commonDivisor_19 ?_
      refine a_lcmp_eq (tgt := 45) A dX0_commonDivisor_20 dX0_commonDivisor_21 (by decide) (by omega) (by omega) (fun h20 => ?_) (fun h20 => ?_)
      · refine a_lload (z := (x : Int)) A dX0_commonDivisor_45 rfl ?_
        refine a_lconst1 A dX0_commonDivisor_47 ?_
        refine a_lcmp_ge (tgt := 56) A dX0_commonDivisor_48 dX0_commonDivisor_49 (by decide) (by omega) (by omega) (fun h48 => ?_) (fun h48 => ?_)
        · refine a_lload (z := (x : Int)) A dX0_commonDivisor_56 rfl ?_
          exact m_lreturn A T0 dX0_commonDivisor_58 (by rw [show y = 0 by omega, Nat.gcd_zero_right] at hp; first | exact hp | (exfalso; omega))
        · refine a_lconst1 A dX0_commonDivisor_52 ?_
          refine a_goto (tgt := 58) A dX0_commonDivisor_53 (by decide) ?_
          exact m_lreturn A T0 dX0_commonDivisor_58 (by rw [show y = 0 by omega, Nat.gcd_zero_right] at hp; first | exact hp | (exfalso; omega))
      · refine a_lload (z := (x : Int)) A dX0_commonDivisor_24 rfl ?_
        refine a_lload (z := (y : Int)) A dX0_commonDivisor_26 rfl ?_
        refine a_lrem A dX0_commonDivisor_28 (by omega) (by omega) (by omega) ?_
        refine a_lstore (lv' := [vl a, jk, vl b, jk, vl (x : Int), jk, vl (y : Int), jk, vi (t : Int), vl ((x : Int).tmod (y : Int)), jk]) A dX0_commonDivisor_29 (by decide) rfl ?_
        refine a_lload (z := (y : Int)) A dX0_commonDivisor_31 rfl ?_
        refine a_lstore (lv' := [vl a, jk, vl b, jk, vl (y : Int), jk, vl (y : Int), jk, vi (t : Int), vl ((x : Int).tmod (y : Int)), jk]) A dX0_commonDivisor_33 (by decide) rfl ?_
        refine a_lload (z := ((x : Int).tmod (y : Int))) A dX0_commonDivisor_35 rfl ?_
        refine a_lstore (lv' := [vl a, jk, vl b, jk, vl (y : Int), jk, vl ((x : Int).tmod (y : Int)), jk, vi (t : Int), vl ((x : Int).tmod (y : Int)), jk]) A dX0_commonDivisor_37 (by decide) rfl ?_
        refine a_iinc (z := (t : Int)) (lv' := [vl a, jk, vl b, jk, vl (y : Int), jk, vl ((x : Int).tmod (y : Int)), jk, vi ((t : Int) + 1), vl ((x : Int).tmod (y : Int)), jk]) A dX0_commonDivisor_39 rfl (by decide) rfl ?_
        refine a_goto (tgt := 9) A dX0_commonDivisor_42 (by decide) ?_
        have hm2 := Nat.mod_lt x (show 0 < y by omega)
        refine ih y (x % y) (t + 1) _ (by omega) (by have := ht (by omega); omega) hy (by omega) (by omega) (by omega) ?_ (by rw [Nat.gcd_comm, ← Nat.gcd_rec, Nat.gcd_comm]; exact hp)
        rcases hlt with c | c
        · exact eu_step (by omega) c hm
        · subst c
          have e1 : y * (x % y) ≤ 9223372036854775808 * 9223372036854775808 := Nat.mul_le_mul (by omega) (by omega)
          have e2 : (9223372036854775808 : Nat) * 9223372036854775808 * 2 ^ (0 + 1) = 2 ^ 127 := by decide
          calc y * (x % y) * 2 ^ (0 + 1) ≤ 9223372036854775808 * 9223372036854775808 * 2 ^ (0 + 1) := Nat.mul_le_mul_right _ e1
            _ = 2 ^ 127 := e2
set_option maxRecDepth 100000 in
set_option maxHeartbeats 4000000 in
theorem c_X0_commonDivisor (G : GG) (l : Launch) (a : Nat) (b : Int) (M : MM) (ha : a < 9223372036854775808) (hb : 0 < b ∧ b < 9223372036854775808) : CMl G l yX0_commonDivisor cX0_commonDivisor 11 (some .long) 1 [vl (a : Int), vl b] M (fun z M' => M' = M ∧ z = (Int.gcd (a : Int) b : Int)) := by
  refine CT.intro (by decide) (Nat.le_of_ble_eq_true rfl) (fun E hE A T0 => ?_)
  subst hE
  refine a_lload_n (z := (a : Int)) A dX0_commonDivisor_0 rfl ?_
  refine a_lstore (lv' := [vl (a : Int), jk, vl b, jk, vl (a : Int), jk, jk, jk, jk, jk, jk]) A dX0_commonDivisor_1 (by decide) rfl ?_
  refine a_lload_n (z := b) A dX0_commonDivisor_3 rfl ?_
  refine a_lstore (lv' := [vl (a : Int), jk, vl b, jk, vl (a : Int), jk, vl b, jk, jk, jk, jk]) A dX0_commonDivisor_4 (by decide) rfl ?_
  refine a_iconst A dX0_commonDivisor_6 ?_
  refine a_istore (lv' := [vl (a : Int), jk, vl b, jk, vl (a : Int), jk, vl b, jk, vi 0, jk, jk]) A dX0_commonDivisor_7 (by decide) rfl ?_
  obtain ⟨b', hb'⟩ : ∃ b' : Nat, b = (b' : Int) := ⟨b.toNat, by omega⟩
  subst hb'
  have e1 : a * b' ≤ 9223372036854775808 * 9223372036854775808 := Nat.mul_le_mul (by omega) (by omega)
  have e2 : (9223372036854775808 : Nat) * 9223372036854775808 ≤ 2 ^ 127 := by decide
  exact cd_loop0 A T0 _ _ M (b' + 1) a b' 0 jk (by omega) (by omega) ha (by omega) (Or.inr (by omega)) (Or.inr rfl) (by rw [Nat.pow_zero, Nat.mul_one]; omega) ⟨rfl, rfl⟩
set_option maxRecDepth 100000 in
set_option maxHeartbeats 4000000 in
theorem c_X0_set (G : GG) (l : Launch) (fa : Nat) (u v : Int) (M : MM) (hl_fa : ly fa = (0, 0)) (ha_fa : fa < 108) (hu : -9223372036854775808 < u ∧ u < 9223372036854775808) (hv : 0 < v ∧ v < 9223372036854775808) : CMv G l yX0_set cX0_set 7 none 2 [.ref fa, vl u, vl v] M (fun M' => M' = up2 (up2 M fa 0 (nU u v)) fa 1 (nD u v)) := by
  refine CT.intro (by decide) (Nat.le_of_ble_eq_true rfl) (fun E hE A T0 => ?_)
  subst hE
  have hg := gcd_pos (a := u) hv.1
  refine a_lload_n (z := u) A dX0_set_0 rfl ?_
  refine a_abs A cj_X0_16 j_abs1 j_math j_abs2 dX0_set_1 (by decide) ⟨Nat.le_refl _, Nat.le_refl _⟩ (Nat.le_of_ble_eq_true rfl) (by omega) ?_
  refine a_lload_n (z := v) A dX0_set_4 rfl ?_
  refine m_invSl A (c_X0_commonDivisor G _ u.natAbs v M (by omega) (by omega)) (by decide) mi_X0_commonDivisor ms_X0_commonDivisor cs_X0_22 dX0_set_5 rfl rfl (Nat.le_of_ble_eq_true rfl) (fun z5 M5 h5 => ?_)
  obtain ⟨e5, hz5⟩ := h5
  have e5 := e5.symm
  subst e5
  have hz5 : z5 = (Int.gcd u v : Int) := by rw [hz5]; rfl
  subst hz5
  refine a_lstore (lv' := [.ref fa, vl u, jk, vl v, jk, vl (Int.gcd u v : Int), jk]) A dX0_set_8 (by decide) rfl ?_
  refine a_aload_n (z := fa) A dX0_set_10 rfl ?_
  refine a_lload_n (z := u) A dX0_set_11 rfl ?_
  refine a_lload (z := (Int.gcd u v : Int)) A dX0_set_12 rfl ?_
  refine a_ldiv A dX0_set_14 (by omega) (by omega) (by omega) ?_
  refine pf_X0_7 A dX0_set_15 hl_fa ha_fa ?_
  refine a_aload_n (z := fa) A dX0_set_18 rfl ?_
  refine a_lload_n (z := v) A dX0_set_19 rfl ?_
  refine a_lload (z := (Int.gcd u v : Int)) A dX0_set_20 rfl ?_
  refine a_ldiv A dX0_set_22 (by omega) (by omega) (by omega) ?_
  refine pf_X0_13 A dX0_set_23 hl_fa ha_fa ?_
  exact m_return A T0 dX0_set_26 (by rfl)
set_option maxRecDepth 100000 in
set_option maxHeartbeats 4000000 in
theorem c_X0_number (G : GG) (l : Launch) (fa : Nat) (b : Int) (M : MM) (hl_fa : ly fa = (0, 0)) (ha_fa : fa < 108) (hb : I32 b) : CMl G l yX0_number cX0_number 2 (some .long) 1 [.ref fa, vi b] M (fun z M' => M' = M ∧ ((b ≠ 0 ∧ z = M fa 1) ∨ (b = 0 ∧ z = M fa 0))) := by
  refine CT.intro (by decide) (Nat.le_of_ble_eq_true rfl) (fun E hE A T0 => ?_)
  subst hE
  refine a_iload_n (z := b) A dX0_number_0 rfl ?_
  refine a_if_eq (tgt := 11) A dX0_number_1 (by decide) (by omega) (fun h1 => ?_) (fun h1 => ?_)
  · refine a_aload_n (z := fa) A dX0_number_11 rfl ?_
    refine gf_X0_7 (x := M fa 0) A dX0_number_12 hl_fa ha_fa rfl ?_
    exact m_lreturn A T0 dX0_number_15 (by exact ⟨rfl, by omega⟩)
  · refine a_aload_n (z := fa) A dX0_number_4 rfl ?_
    refine gf_X0_13 (x := M fa 1) A dX0_number_5 hl_fa ha_fa rfl ?_
    refine a_goto (tgt := 15) A dX0_number_8 (by decide) ?_
    exact m_lreturn A T0 dX0_number_15 (by exact ⟨rfl, by omega⟩)
set_option maxRecDepth 100000 in
set_option maxHeartbeats 4000000 in
theorem c_X0_isAboveOne (G : GG) (l : Launch) (fa : Nat) (M : MM) (hl_fa : ly fa = (0, 0)) (ha_fa : fa < 108) (h0 : I64 (M fa 0)) (h1 : I64 (M fa 1)) : CMi G l yX0_isAboveOne cX0_isAboveOne 1 (some .boolean) 1 [.ref fa] M (fun z M' => M' = M ∧ ((z = 1 ∧ M fa 1 < M fa 0) ∨ (z = 0 ∧ M fa 0 ≤ M fa 1))) := by
  refine CT.intro (by decide) (Nat.le_of_ble_eq_true rfl) (fun E hE A T0 => ?_)
  subst hE
  refine a_aload_n (z := fa) A dX0_isAboveOne_0 rfl ?_
  refine gf_X0_7 (x := M fa 0) A dX0_isAboveOne_1 hl_fa ha_fa rfl ?_
  refine a_aload_n (z := fa) A dX0_isAboveOne_4 rfl ?_
  refine gf_X0_13 (x := M fa 1) A dX0_isAboveOne_5 hl_fa ha_fa rfl ?_
  refine a_lcmp_le (tgt := 16) A dX0_isAboveOne_8 dX0_isAboveOne_9 (by decide) (by omega) (by omega) (fun h8 => ?_) (fun h8 => ?_)
  · refine a_iconst A dX0_isAboveOne_16 ?_
    exact m_zreturn A T0 dX0_isAboveOne_17 (by first | exact Or.inl rfl | exact Or.inr rfl | omega) (by exact ⟨rfl, by omega⟩)
  · refine a_iconst A dX0_isAboveOne_12 ?_
    refine a_goto (tgt := 17) A dX0_isAboveOne_13 (by decide) ?_
    exact m_zreturn A T0 dX0_isAboveOne_17 (by first | exact Or.inl rfl | exact Or.inr rfl | omega) (by exact ⟨rfl, by omega⟩)
set_option maxRecDepth 100000 in
set_option maxHeartbeats 4000000 in
theorem c_X0_compareWith (G : GG) (l : Launch) (fa : Nat) (fb : Nat) (M : MM) (hl_fa : ly fa = (0, 0)) (ha_fa : fa < 108) (hl_fb : ly fb = (0, 0)) (ha_fb : fb < 108) : CMl G l yX0_compareWith cX0_compareWith 2 (some .long) 1 [.ref fa, .ref fb] M (fun z M' => M' = M ∧ z = M fa 0 * M fb 1 - M fb 0 * M fa 1) := by
  refine CT.intro (by decide) (Nat.le_of_ble_eq_true rfl) (fun E hE A T0 => ?_)
  subst hE
  refine a_aload_n (z := fa) A dX0_compareWith_0 rfl ?_
  refine gf_X0_7 (x := M fa 0) A dX0_compareWith_1 hl_fa ha_fa rfl ?_
  refine a_aload_n (z := fb) A dX0_compareWith_4 rfl ?_
  refine gf_X0_13 (x := M fb 1) A dX0_compareWith_5 hl_fb ha_fb rfl ?_
  refine a_lmul (x := (M fa 0)) (y := (M fb 1)) A dX0_compareWith_8 ?_
  refine a_aload_n (z := fb) A dX0_compareWith_9 rfl ?_
  refine gf_X0_7 (x := M fb 0) A dX0_compareWith_10 hl_fb ha_fb rfl ?_
  refine a_aload_n (z := fa) A dX0_compareWith_13 rfl ?_
  refine gf_X0_13 (x := M fa 1) A dX0_compareWith_14 hl_fa ha_fa rfl ?_
  refine a_lmul (x := (M fb 0)) (y := (M fa 1)) A dX0_compareWith_17 ?_
  refine a_lsub (x := ((M fa 0) * (M fb 1))) (y := ((M fb 0) * (M fa 1))) A dX0_compareWith_18 ?_
  exact m_lreturn A T0 dX0_compareWith_19 (by exact ⟨rfl, rfl⟩)
set_option maxRecDepth 100000 in
set_option maxHeartbeats 4000000 in
theorem c_X0_setDifference (G : GG) (l : Launch) (fa : Nat) (fb fc : Nat) (M : MM) (hl_fa : ly fa = (0, 0)) (ha_fa : fa < 108) (hl_fb : ly fb = (0, 0)) (ha_fb : fb < 108) (hl_fc : ly fc = (0, 0)) (ha_fc : fc < 108) (hx : -9223372036854775808 < M fb 0 * M fc 1 - M fc 0 * M fb 1 ∧ M fb 0 * M fc 1 - M fc 0 * M fb 1 < 9223372036854775808) (hy : 0 < M fb 1 * M fc 1 ∧ M fb 1 * M fc 1 < 9223372036854775808) : CMv G l yX0_setDifference cX0_setDifference 3 none 3 [.ref fa, .ref fb, .ref fc] M (fun M' => M' = up2 (up2 M fa 0 (nU (M fb 0 * M fc 1 - M fc 0 * M fb 1) (M fb 1 * M fc 1))) fa 1 (nD (M fb 0 * M fc 1 - M fc 0 * M fb 1) (M fb 1 * M fc 1))) := by
  refine CT.intro (by decide) (Nat.le_of_ble_eq_true rfl) (fun E hE A T0 => ?_)
  subst hE
  refine a_aload_n (z := fa) A dX0_setDifference_0 rfl ?_
  refine a_aload_n (z := fb) A dX0_setDifference_1 rfl ?_
  refine gf_X0_7 (x := M fb 0) A dX0_setDifference_2 hl_fb ha_fb rfl ?_
  refine a_aload_n (z := fc) A dX0_setDifference_5 rfl ?_
  refine gf_X0_13 (x := M fc 1) A dX0_setDifference_6 hl_fc ha_fc rfl ?_
  refine a_lmul (x := (M fb 0)) (y := (M fc 1)) A dX0_setDifference_9 ?_
  refine a_aload_n (z := fc) A dX0_setDifference_10 rfl ?_
  refine gf_X0_7 (x := M fc 0) A dX0_setDifference_11 hl_fc ha_fc rfl ?_
  refine a_aload_n (z := fb) A dX0_setDifference_14 rfl ?_
  refine gf_X0_13 (x := M fb 1) A dX0_setDifference_15 hl_fb ha_fb rfl ?_
  refine a_lmul (x := (M fc 0)) (y := (M fb 1)) A dX0_setDifference_18 ?_
  refine a_lsub (x := ((M fb 0) * (M fc 1))) (y := ((M fc 0) * (M fb 1))) A dX0_setDifference_19 ?_
  refine a_aload_n (z := fb) A dX0_setDifference_20 rfl ?_
  refine gf_X0_13 (x := M fb 1) A dX0_setDifference_21 hl_fb ha_fb rfl ?_
  refine a_aload_n (z := fc) A dX0_setDifference_24 rfl ?_
  refine gf_X0_13 (x := M fc 1) A dX0_setDifference_25 hl_fc ha_fc rfl ?_
  refine a_lmul (x := (M fb 1)) (y := (M fc 1)) A dX0_setDifference_28 ?_
  refine m_invVv A (c_X0_set G _ fa (((M fb 0) * (M fc 1)) - ((M fc 0) * (M fb 1))) ((M fb 1) * (M fc 1)) M hl_fa ha_fa hx hy) (by decide) mi_X0_set mv_X0_set cs_X0_26 cf0 dX0_setDifference_29 hl_fa ha_fa rfl rfl (Nat.le_of_ble_eq_true rfl) (fun M29 h29 => ?_)
  have h29 := h29.symm
  subst h29
  exact m_return A T0 dX0_setDifference_32 (by rfl)
set_option maxRecDepth 100000 in
set_option maxHeartbeats 4000000 in
theorem c_X4_within (G : GG) (l : Launch) (v lo hi : Int) (M : MM) (hv : I32 v) (hlo : I32 lo) (hhi : I32 hi) : CMi G l yX4_within cX4_within 3 (some .boolean) 1 [vi v, vi lo, vi hi] M (fun z M' => M' = M ∧ ((z = 1 ∧ lo ≤ v ∧ v ≤ hi) ∨ (z = 0 ∧ (v < lo ∨ hi < v)))) := by
  refine CT.intro (by decide) (Nat.le_of_ble_eq_true rfl) (fun E hE A T0 => ?_)
  subst hE
  refine a_iload_n (z := v) A dX4_within_0 rfl ?_
  refine a_iload_n (z := lo) A dX4_within_1 rfl ?_
  refine a_icmp_lt (tgt := 14) A dX4_within_2 (by decide) (by assumption) (by assumption) (fun h2 => ?_) (fun h2 => ?_)
  · refine a_iconst A dX4_within_14 ?_
    exact m_zreturn A T0 dX4_within_15 (by first | exact Or.inl rfl | exact Or.inr rfl | omega) (by exact ⟨rfl, by omega⟩)
  · refine a_iload_n (z := v) A dX4_within_5 rfl ?_
    refine a_iload_n (z := hi) A dX4_within_6 rfl ?_
    refine a_icmp_gt (tgt := 14) A dX4_within_7 (by decide) (by assumption) (by assumption) (fun h7 => ?_) (fun h7 => ?_)
    · refine a_iconst A dX4_within_14 ?_
      exact m_zreturn A T0 dX4_within_15 (by first | exact Or.inl rfl | exact Or.inr rfl | omega) (by exact ⟨rfl, by omega⟩)
    · refine a_iconst A dX4_within_10 ?_
      refine a_goto (tgt := 15) A dX4_within_11 (by decide) ?_
      exact m_zreturn A T0 dX4_within_15 (by first | exact Or.inl rfl | exact Or.inr rfl | omega) (by exact ⟨rfl, by omega⟩)
set_option maxRecDepth 100000 in
set_option maxHeartbeats 4000000 in
theorem c_X4_isRoom (G : GG) (l : Launch) (v : Int) (M : MM) (hv : I32 v) : CMi G l yX4_isRoom cX4_isRoom 1 (some .boolean) 2 [vi v] M (fun z M' => M' = M ∧ ((z = 1 ∧ 0 ≤ v ∧ v ≤ 100) ∨ (z = 0 ∧ (v < 0 ∨ 100 < v)))) := by
  refine CT.intro (by decide) (Nat.le_of_ble_eq_true rfl) (fun E hE A T0 => ?_)
  subst hE
  refine a_iload_n (z := v) A dX4_isRoom_0 rfl ?_
  refine a_iconst A dX4_isRoom_1 ?_
  refine a_bipush A dX4_isRoom_2 (by decide) ?_
  refine m_invSi A (c_X4_within G _ v 0 100 M (by omega) (by omega) (by omega)) (by decide) mi_X4_within ms_X4_within cs_X4_51 dX4_isRoom_4 rfl rfl (Nat.le_of_ble_eq_true rfl) (fun z4 M4 h4 => ?_)
  obtain ⟨e4, hc4⟩ := h4
  have e4 := e4.symm
  subst e4
  exact m_zreturn A T0 dX4_isRoom_7 (by first | exact Or.inl rfl | exact Or.inr rfl | omega) (by exact ⟨rfl, by omega⟩)
set_option maxRecDepth 100000 in
set_option maxHeartbeats 4000000 in
theorem c_X4_isShare (G : GG) (l : Launch) (p q : Int) (M : MM) (hp : I32 p) (hq : I32 q) : CMi G l yX4_isShare cX4_isShare 2 (some .boolean) 2 [vi p, vi q] M (fun z M' => M' = M ∧ ((z = 1 ∧ 1 ≤ p ∧ p ≤ 9 ∧ 1 ≤ q ∧ q ≤ 9) ∨ (z = 0 ∧ ¬ (1 ≤ p ∧ p ≤ 9 ∧ 1 ≤ q ∧ q ≤ 9)))) := by
  refine CT.intro (by decide) (Nat.le_of_ble_eq_true rfl) (fun E hE A T0 => ?_)
  subst hE
  refine a_iload_n (z := p) A dX4_isShare_0 rfl ?_
  refine a_iconst A dX4_isShare_1 ?_
  refine a_bipush A dX4_isShare_2 (by decide) ?_
  refine m_invSi A (c_X4_within G _ p 1 9 M (by omega) (by omega) (by omega)) (by decide) mi_X4_within ms_X4_within cs_X4_51 dX4_isShare_4 rfl rfl (Nat.le_of_ble_eq_true rfl) (fun z4 M4 h4 => ?_)
  obtain ⟨e4, hc4⟩ := h4
  have e4 := e4.symm
  subst e4
  refine a_if_eq (tgt := 24) A dX4_isShare_7 (by decide) (by omega) (fun h7 => ?_) (fun h7 => ?_)
  · refine a_iconst A dX4_isShare_24 ?_
    exact m_zreturn A T0 dX4_isShare_25 (by first | exact Or.inl rfl | exact Or.inr rfl | omega) (by exact ⟨rfl, by omega⟩)
  · refine a_iload_n (z := q) A dX4_isShare_10 rfl ?_
    refine a_iconst A dX4_isShare_11 ?_
    refine a_bipush A dX4_isShare_12 (by decide) ?_
    refine m_invSi A (c_X4_within G _ q 1 9 M (by omega) (by omega) (by omega)) (by decide) mi_X4_within ms_X4_within cs_X4_51 dX4_isShare_14 rfl rfl (Nat.le_of_ble_eq_true rfl) (fun z14 M14 h14 => ?_)
    obtain ⟨e14, hc14⟩ := h14
    have e14 := e14.symm
    subst e14
    refine a_if_eq (tgt := 24) A dX4_isShare_17 (by decide) (by omega) (fun h17 => ?_) (fun h17 => ?_)
    · refine a_iconst A dX4_isShare_24 ?_
      exact m_zreturn A T0 dX4_isShare_25 (by first | exact Or.inl rfl | exact Or.inr rfl | omega) (by exact ⟨rfl, by omega⟩)
    · refine a_iconst A dX4_isShare_20 ?_
      refine a_goto (tgt := 25) A dX4_isShare_21 (by decide) ?_
      exact m_zreturn A T0 dX4_isShare_25 (by first | exact Or.inl rfl | exact Or.inr rfl | omega) (by exact ⟨rfl, by omega⟩)
set_option maxRecDepth 100000 in
set_option maxHeartbeats 4000000 in
theorem c_X4_partsOfOne (G : GG) (l : Launch) (q : Int) (M : MM) (hq : 1 ≤ q ∧ q ≤ 9) : CMi G l yX4_partsOfOne cX4_partsOfOne 1 (some .int) 1 [vi q] M (fun z M' => M' = M ∧ z = (2520 : Int).tdiv q) := by
  refine CT.intro (by decide) (Nat.le_of_ble_eq_true rfl) (fun E hE A T0 => ?_)
  subst hE
  refine a_iload_n (z := q) A dX4_partsOfOne_0 rfl ?_
  refine a_iconst A dX4_partsOfOne_1 ?_
  refine a_icmp_ge (tgt := 9) A dX4_partsOfOne_2 (by decide) (by omega) (by omega) (fun h2 => ?_) (fun h2 => ?_)
  · refine a_sipush A dX4_partsOfOne_9 (by decide) ?_
    refine a_iload_n (z := q) A dX4_partsOfOne_12 rfl ?_
    refine a_idiv A dX4_partsOfOne_13 (by omega) (by omega) (by omega) ?_
    exact m_ireturn A T0 dX4_partsOfOne_14 (by first | exact ⟨rfl, rfl⟩ | (exfalso; omega))
  · refine a_iconst A dX4_partsOfOne_5 ?_
    refine a_goto (tgt := 14) A dX4_partsOfOne_6 (by decide) ?_
    exact m_ireturn A T0 dX4_partsOfOne_14 (by first | exact ⟨rfl, rfl⟩ | (exfalso; omega))
