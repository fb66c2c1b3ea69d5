theorem fr_lt {e f g h : Nat} (hf : 0 < f) (hh : 0 < h) (hq : e / f < g / h) : e * h < g * f := by
  have h1 : e < f * (e / f + 1) := by have := Nat.div_add_mod e f; have := Nat.mod_lt e hf; rw [Nat.mul_add]; omega
  have h2 : h * (g / h) ≤ g := Nat.mul_div_le g h
  calc e * h < f * (e / f + 1) * h := Nat.mul_lt_mul_of_pos_right h1 hh
    _ ≤ f * (g / h) * h := Nat.mul_le_mul_right h (Nat.mul_le_mul_left f hq)
    _ = (h * (g / h)) * f := by rw [Nat.mul_comm h, Nat.mul_assoc, Nat.mul_comm f]
    _ ≤ g * f := Nat.mul_le_mul_right f h2
theorem fr_eq {e f g h : Nat} (hq : e / f = g / h) : e * h < g * f ↔ e % f * h < g % h * f := by
  have h1 := Nat.div_add_mod e f
  have h2 := Nat.div_add_mod g h
  have e1 : e * h = f * (e / f) * h + e % f * h := by rw [← Nat.add_mul, h1]
  have e2 : g * f = f * (e / f) * h + g % h * f := by
    rw [hq]
    have : f * (g / h) * h = h * (g / h) * f := by rw [Nat.mul_comm f, Nat.mul_comm h, Nat.mul_assoc, Nat.mul_assoc, Nat.mul_comm f h]
    rw [this, ← Nat.add_mul, h2]
  omega
theorem sub_mod (e f : Nat) : (e : Int) - (e : Int).tdiv (f : Int) * (f : Int) = ((e % f : Nat) : Int) := by
  have h1 := Nat.div_add_mod e f
  have h2 : (e : Int).tdiv (f : Int) = ((e / f : Nat) : Int) := rfl
  rw [h2]
  have h3 : ((e / f : Nat) : Int) * (f : Int) = ((f * (e / f) : Nat) : Int) := by push_cast; rw [Int.mul_comm]
  rw [h3]
  omega
set_option maxRecDepth 100000 in
set_option maxHeartbeats 4000000 in
theorem less_loop5 {G : GG} {E : EE} {P : Int → MM → Prop} (A : AmM G E cX5_isLess 24 yX5_isLess.cls 1) (T0 : RT E G yX5_isLess 108 0 0 (some .boolean) (fun r rf' M' => rf' = rF ∧ ∃ z, r = some (vi z) ∧ P z M')) (a b c d : Int) (M : MM) : ∀ (n : Nat) (e f g h : Nat) (w16 w18 w20 w22 : Value), f + h < n → 0 < f → 0 < h → e < 9223372036854775808 → f < 9223372036854775808 → g < 9223372036854775808 → h < 9223372036854775808 → (e * h < g * f → P 1 M) → (¬ e * h < g * f → P 0 M) → AM G E 24 14 [vl a, jk, vl b, jk, vl c, jk, vl d, jk, vl (e : Int), jk, vl (f : Int), jk, vl (g : Int), jk, vl (h : Int), jk, w16, jk, w18, jk, w20, jk, w22, jk] [] M := by
  intro n
  induction n with
  | zero => intro e f g h w16 w18 w20 w22 hn hf hh b1 b2 b3 b4 hp1 hp0; exfalso; omega
  | succ n ih =>
    intro e f g h w16 w18 w20 w22 hn hf hh b1 b2 b3 b4 hp1 hp0
    have ex : (e : Int).tdiv (f : Int) = ((e / f : Nat) : Int) := rfl
    have ey : (g : Int).tdiv (h : Int) = ((g / h : Nat) : Int) := rfl
    have px : (0 : Int) ≤ (e : Int) / (f : Int) := Int.ediv_nonneg (by omega) (by omega)
    have py : (0 : Int) ≤ (g : Int) / (h : Int) := Int.ediv_nonneg (by omega) (by omega)
    have bx : e / f ≤ e := Nat.div_le_self _ _
    have by_ : g / h ≤ g := Nat.div_le_self _ _
    have me := Nat.mod_lt e hf
    have mg := Nat.mod_lt g hh
    have se := sub_mod e f
    have sg := sub_mod g h
    have hq : e / f = g / h → (e * h < g * f ↔ e % f * h < g % h * f) := fr_eq
    refine a_lload (z := (e : Int)) A dX5_isLess_14 rfl ?_
    refine a_lload (z := (f : Int)) A dX5_isLess_16 rfl ?_
    refine a_ldiv A dX5_isLess_18 (by omega) (by omega) (by omega) ?_
    refine a_lstore (lv' := [vl a, jk, vl b, jk, vl c, jk, vl d, jk, vl (e : Int), jk, vl (f : Int), jk, vl (g : Int), jk, vl (h : Int), jk, vl ((e : Int).tdiv (f : Int)), jk, w18, jk, w20, jk, w22, jk]) A dX5_isLess_19 (by decide) rfl ?_
    refine a_lload (z := (g : Int)) A dX5_isLess_21 rfl ?_
    refine a_lload (z := (h : Int)) A dX5_isLess_23 rfl ?_
    refine a_ldiv A dX5_isLess_25 (by omega) (by omega) (by omega) ?_
    refine a_lstore (lv' := [vl a, jk, vl b, jk, vl c, jk, vl d, jk, vl (e : Int), jk, vl (f : Int), jk, vl (g : Int), jk, vl (h : Int), jk, vl ((e : Int).tdiv (f : Int)), jk, vl ((g : Int).tdiv (h : Int)), jk, w20, jk, w22, jk]) A dX5_isLess_26 (by decide) rfl ?_
    refine a_lload (z := ((e : Int).tdiv (f : Int))) A dX5_isLess_28 rfl ?_
    refine a_lload (z := ((g : Int).tdiv (h : Int))) A dX5_isLess_30 rfl ?_
    refine a_lcmp_eq (tgt := 50) A dX5_isLess_32 dX5_isLess_33 (by decide) (by omega) (by omega) (fun h32 => ?_) (fun h32 => ?_)
    · refine a_lload (z := (e : Int)) A dX5_isLess_50 rfl ?_
      refine a_lload (z := ((e : Int).tdiv (f : Int))) A dX5_isLess_52 rfl ?_
      refine a_lload (z := (f : Int)) A dX5_isLess_54 rfl ?_
      refine a_lmul (x := ((e : Int).tdiv (f : Int))) (y := (f : Int)) A dX5_isLess_56 ?_
      refine a_lsub (x := (e : Int)) (y := (((e : Int).tdiv (f : Int)) * (f : Int))) A dX5_isLess_57 ?_
      refine a_lstore (lv' := [vl a, jk, vl b, jk, vl c, jk, vl d, jk, vl ((e : Int) - (((e : Int).tdiv (f : Int)) * (f : Int))), jk, vl (f : Int), jk, vl (g : Int), jk, vl (h : Int), jk, vl ((e : Int).tdiv (f : Int)), jk, vl ((g : Int).tdiv (h : Int)), jk, w20, jk, w22, jk]) A dX5_isLess_58 (by decide) rfl ?_
      refine a_lload (z := (g : Int)) A dX5_isLess_60 rfl ?_
      refine a_lload (z := ((g : Int).tdiv (h : Int))) A dX5_isLess_62 rfl ?_
      refine a_lload (z := (h : Int)) A dX5_isLess_64 rfl ?_
      refine a_lmul (x := ((g : Int).tdiv (h : Int))) (y := (h : Int)) A dX5_isLess_66 ?_
      refine a_lsub (x := (g : Int)) (y := (((g : Int).tdiv (h : Int)) * (h : Int))) A dX5_isLess_67 ?_
      refine a_lstore (lv' := [vl a, jk, vl b, jk, vl c, jk, vl d, jk, vl ((e : Int) - (((e : Int).tdiv (f : Int)) * (f : Int))), jk, vl (f : Int), jk, vl ((g : Int) - (((g : Int).tdiv (h : Int)) * (h : Int))), jk, vl (h : Int), jk, vl ((e : Int).tdiv (f : Int)), jk, vl ((g : Int).tdiv (h : Int)), jk, w20, jk, w22, jk]) A dX5_isLess_68 (by decide) rfl ?_
      refine a_lload (z := ((e : Int) - (((e : Int).tdiv (f : Int)) * (f : Int)))) A dX5_isLess_70 rfl ?_
      refine a_lconst0 A dX5_isLess_72 ?_
      refine a_lcmp_eq (tgt := 84) A dX5_isLess_73 dX5_isLess_74 (by decide) (by omega) (by omega) (fun h73 => ?_) (fun h73 => ?_)
      · refine a_lload (z := ((e : Int) - (((e : Int).tdiv (f : Int)) * (f : Int)))) A dX5_isLess_84 rfl ?_
        refine a_lconst0 A dX5_isLess_86 ?_
        refine a_lcmp_ne (tgt := 102) A dX5_isLess_87 dX5_isLess_88 (by decide) (by omega) (by omega) (fun h87 => ?_) (fun h87 => ?_)
        · refine a_iconst A dX5_isLess_102 ?_
          exact m_zreturn A T0 dX5_isLess_103 (by first | exact Or.inl rfl | exact Or.inr rfl | omega) (by first | exact hp1 ((hq (by omega)).mpr (by rw [show e % f = 0 by omega, Nat.zero_mul]; exact Nat.mul_pos (by omega) hf)) | exact hp0 (fun q => by have q2 := (hq (by omega)).mp q; first | (rw [show g % h = 0 by omega, Nat.zero_mul] at q2; omega) | omega))
        · refine a_lload (z := ((g : Int) - (((g : Int).tdiv (h : Int)) * (h : Int)))) A dX5_isLess_91 rfl ?_
          refine a_lconst0 A dX5_isLess_93 ?_
          refine a_lcmp_le (tgt := 102) A dX5_isLess_94 dX5_isLess_95 (by decide) (by omega) (by omega) (fun h94 => ?_) (fun h94 => ?_)
          · refine a_iconst A dX5_isLess_102 ?_
            exact m_zreturn A T0 dX5_isLess_103 (by first | exact Or.inl rfl | exact Or.inr rfl | omega) (by first | exact hp1 ((hq (by omega)).mpr (by rw [show e % f = 0 by omega, Nat.zero_mul]; exact Nat.mul_pos (by omega) hf)) | exact hp0 (fun q => by have q2 := (hq (by omega)).mp q; first | (rw [show g % h = 0 by omega, Nat.zero_mul] at q2; omega) | omega))
          · refine a_iconst A dX5_isLess_98 ?_
            refine a_goto (tgt := 103) A dX5_isLess_99 (by decide) ?_
            exact m_zreturn A T0 dX5_isLess_103 (by first | exact Or.inl rfl | exact Or.inr rfl | omega) (by first | exact hp1 ((hq (by omega)).mpr (by rw [show e % f = 0 by omega, Nat.zero_mul]; exact Nat.mul_pos (by omega) hf)) | exact hp0 (fun q => by have q2 := (hq (by omega)).mp q; first | (rw [show g % h = 0 by omega, Nat.zero_mul] at q2; omega) | omega))
      · refine a_lload (z := ((g : Int) - (((g : Int).tdiv (h : Int)) * (h : Int)))) A dX5_isLess_77 rfl ?_
        refine a_lconst0 A dX5_isLess_79 ?_
        refine a_lcmp_ne (tgt := 104) A dX5_isLess_80 dX5_isLess_81 (by decide) (by omega) (by omega) (fun h80 => ?_) (fun h80 => ?_)
        · refine a_lload (z := ((e : Int) - (((e : Int).tdiv (f : Int)) * (f : Int)))) A dX5_isLess_104 rfl ?_
          refine a_lstore (lv' := [vl a, jk, vl b, jk, vl c, jk, vl d, jk, vl ((e : Int) - (((e : Int).tdiv (f : Int)) * (f : Int))), jk, vl (f : Int), jk, vl ((g : Int) - (((g : Int).tdiv (h : Int)) * (h : Int))), jk, vl (h : Int), jk, vl ((e : Int).tdiv (f : Int)), jk, vl ((g : Int).tdiv (h : Int)), jk, vl ((e : Int) - (((e : Int).tdiv (f : Int)) * (f : Int))), jk, w22, jk]) A dX5_isLess_106 (by decide) rfl ?_
          refine a_lload (z := (f : Int)) A dX5_isLess_108 rfl ?_
          refine a_lstore (lv' := [vl a, jk, vl b, jk, vl c, jk, vl d, jk, vl ((e : Int) - (((e : Int).tdiv (f : Int)) * (f : Int))), jk, vl (f : Int), jk, vl ((g : Int) - (((g : Int).tdiv (h : Int)) * (h : Int))), jk, vl (h : Int), jk, vl ((e : Int).tdiv (f : Int)), jk, vl ((g : Int).tdiv (h : Int)), jk, vl ((e : Int) - (((e : Int).tdiv (f : Int)) * (f : Int))), jk, vl (f : Int), jk]) A dX5_isLess_110 (by decide) rfl ?_
          refine a_lload (z := (h : Int)) A dX5_isLess_112 rfl ?_
          refine a_lstore (lv' := [vl a, jk, vl b, jk, vl c, jk, vl d, jk, vl (h : Int), jk, vl (f : Int), jk, vl ((g : Int) - (((g : Int).tdiv (h : Int)) * (h : Int))), jk, vl (h : Int), jk, vl ((e : Int).tdiv (f : Int)), jk, vl ((g : Int).tdiv (h : Int)), jk, vl ((e : Int) - (((e : Int).tdiv (f : Int)) * (f : Int))), jk, vl (f : Int), jk]) A dX5_isLess_114 (by decide) rfl ?_
          refine a_lload (z := ((g : Int) - (((g : Int).tdiv (h : Int)) * (h : Int)))) A dX5_isLess_116 rfl ?_
          refine a_lstore (lv' := [vl a, jk, vl b, jk, vl c, jk, vl d, jk, vl (h : Int), jk, vl ((g : Int) - (((g : Int).tdiv (h : Int)) * (h : Int))), jk, vl ((g : Int) - (((g : Int).tdiv (h : Int)) * (h : Int))), jk, vl (h : Int), jk, vl ((e : Int).tdiv (f : Int)), jk, vl ((g : Int).tdiv (h : Int)), jk, vl ((e : Int) - (((e : Int).tdiv (f : Int)) * (f : Int))), jk, vl (f : Int), jk]) A dX5_isLess_118 (by decide) rfl ?_
          refine a_lload (z := (f : Int)) A dX5_isLess_120 rfl ?_
          refine a_lstore (lv' := [vl a, jk, vl b, jk, vl c, jk, vl d, jk, vl (h : Int), jk, vl ((g : Int) - (((g : Int).tdiv (h : Int)) * (h : Int))), jk, vl (f : Int), jk, vl (h : Int), jk, vl ((e : Int).tdiv (f : Int)), jk, vl ((g : Int).tdiv (h : Int)), jk, vl ((e : Int) - (((e : Int).tdiv (f : Int)) * (f : Int))), jk, vl (f : Int), jk]) A dX5_isLess_122 (by decide) rfl ?_
          refine a_lload (z := ((e : Int) - (((e : Int).tdiv (f : Int)) * (f : Int)))) A dX5_isLess_124 rfl ?_
          refine a_lstore (lv' := [vl a, jk, vl b, jk, vl c, jk, vl d, jk, vl (h : Int), jk, vl ((g : Int) - (((g : Int).tdiv (h : Int)) * (h : Int))), jk, vl (f : Int), jk, vl ((e : Int) - (((e : Int).tdiv (f : Int)) * (f : Int))), jk, vl ((e : Int).tdiv (f : Int)), jk, vl ((g : Int).tdiv (h : Int)), jk, vl ((e : Int) - (((e : Int).tdiv (f : Int)) * (f : Int))), jk, vl (f : Int), jk]) A dX5_isLess_126 (by decide) rfl ?_
          refine a_goto (tgt := 14) A dX5_isLess_128 (by decide) ?_
          rw [se, sg]
          have hq2 := hq (by omega)
          exact ih h (g % h) f (e % f) _ _ _ _ (by omega) (by omega) (by omega) (by omega) (by omega) (by omega) (by omega) (fun q => hp1 (hq2.mpr (by rw [Nat.mul_comm h, Nat.mul_comm f] at q; exact q))) (fun q => hp0 (fun q2 => q (by rw [Nat.mul_comm h, Nat.mul_comm f]; exact hq2.mp q2)))
        · refine a_lload (z := ((e : Int) - (((e : Int).tdiv (f : Int)) * (f : Int)))) A dX5_isLess_84 rfl ?_
          refine a_lconst0 A dX5_isLess_86 ?_
          refine a_lcmp_ne (tgt := 102) A dX5_isLess_87 dX5_isLess_88 (by decide) (by omega) (by omega) (fun h87 => ?_) (fun h87 => ?_)
          · refine a_iconst A dX5_isLess_102 ?_
            exact m_zreturn A T0 dX5_isLess_103 (by first | exact Or.inl rfl | exact Or.inr rfl | omega) (by first | exact hp1 ((hq (by omega)).mpr (by rw [show e % f = 0 by omega, Nat.zero_mul]; exact Nat.mul_pos (by omega) hf)) | exact hp0 (fun q => by have q2 := (hq (by omega)).mp q; first | (rw [show g % h = 0 by omega, Nat.zero_mul] at q2; omega) | omega))
          · refine a_lload (z := ((g : Int) - (((g : Int).tdiv (h : Int)) * (h : Int)))) A dX5_isLess_91 rfl ?_
            refine a_lconst0 A dX5_isLess_93 ?_
            refine a_lcmp_le (tgt := 102) A dX5_isLess_94 dX5_isLess_95 (by decide) (by omega) (by omega) (fun h94 => ?_) (fun h94 => ?_)
            · refine a_iconst A dX5_isLess_102 ?_
              exact m_zreturn A T0 dX5_isLess_103 (by first | exact Or.inl rfl | exact Or.inr rfl | omega) (by first | exact hp1 ((hq (by omega)).mpr (by rw [show e % f = 0 by omega, Nat.zero_mul]; exact Nat.mul_pos (by omega) hf)) | exact hp0 (fun q => by have q2 := (hq (by omega)).mp q; first | (rw [show g % h = 0 by omega, Nat.zero_mul] at q2; omega) | omega))
            · refine a_iconst A dX5_isLess_98 ?_
              refine a_goto (tgt := 103) A dX5_isLess_99 (by decide) ?_
              exact m_zreturn A T0 dX5_isLess_103 (by first | exact Or.inl rfl | exact Or.inr rfl | omega) (by first | exact hp1 ((hq (by omega)).mpr (by rw [show e % f = 0 by omega, Nat.zero_mul]; exact Nat.mul_pos (by omega) hf)) | exact hp0 (fun q => by have q2 := (hq (by omega)).mp q; first | (rw [show g % h = 0 by omega, Nat.zero_mul] at q2; omega) | omega))
    · refine a_lload (z := ((e : Int).tdiv (f : Int))) A dX5_isLess_36 rfl ?_
      refine a_lload (z := ((g : Int).tdiv (h : Int))) A dX5_isLess_38 rfl ?_
      refine a_lcmp_ge (tgt := 48) A dX5_isLess_40 dX5_isLess_41 (by decide) (by omega) (by omega) (fun h40 => ?_) (fun h40 => ?_)
      · refine a_iconst A dX5_isLess_48 ?_
        exact m_zreturn A T0 dX5_isLess_49 (by first | exact Or.inl rfl | exact Or.inr rfl | omega) (by first | exact hp1 (fr_lt hf hh (by omega)) | exact hp0 (fun q => by have := fr_lt (e := g) (f := h) (g := e) (h := f) hh hf (by omega); omega))
      · refine a_iconst A dX5_isLess_44 ?_
        refine a_goto (tgt := 49) A dX5_isLess_45 (by decide) ?_
        exact m_zreturn A T0 dX5_isLess_49 (by first | exact Or.inl rfl | exact Or.inr rfl | omega) (by first | exact hp1 (fr_lt hf hh (by omega)) | exact hp0 (fun q => by have := fr_lt (e := g) (f := h) (g := e) (h := f) hh hf (by omega); omega))
set_option maxRecDepth 100000 in
set_option maxHeartbeats 4000000 in
theorem c_X5_isLess (G : GG) (l : Launch) (a b c d : Nat) (M : MM) (ha : a < 9223372036854775808) (hb : 0 < b ∧ b < 9223372036854775808) (hc : c < 9223372036854775808) (hd : 0 < d ∧ d < 9223372036854775808) : CMi G l yX5_isLess cX5_isLess 24 (some .boolean) 1 [vl (a : Int), vl (b : Int), vl (c : Int), vl (d : Int)] M (fun z M' => M' = M ∧ ((z = 1 ∧ a * d < c * b) ∨ (z = 0 ∧ ¬ a * d < c * b))) := by
  refine CT.intro (by decide) (Nat.le_of_ble_eq_true rfl) (fun E hE A T0 => ?_)
  subst hE
  refine a_lload_n (z := (a : Int)) A dX5_isLess_0 rfl ?_
  refine a_lstore (lv' := [vl (a : Int), jk, vl (b : Int), jk, vl (c : Int), jk, vl (d : Int), jk, vl (a : Int), jk, jk, jk, jk, jk, jk, jk, jk, jk, jk, jk, jk, jk, jk, jk]) A dX5_isLess_1 (by decide) rfl ?_
  refine a_lload_n (z := (b : Int)) A dX5_isLess_3 rfl ?_
  refine a_lstore (lv' := [vl (a : Int), jk, vl (b : Int), jk, vl (c : Int), jk, vl (d : Int), jk, vl (a : Int), jk, vl (b : Int), jk, jk, jk, jk, jk, jk, jk, jk, jk, jk, jk, jk, jk]) A dX5_isLess_4 (by decide) rfl ?_
  refine a_lload (z := (c : Int)) A dX5_isLess_6 rfl ?_
  refine a_lstore (lv' := [vl (a : Int), jk, vl (b : Int), jk, vl (c : Int), jk, vl (d : Int), jk, vl (a : Int), jk, vl (b : Int), jk, vl (c : Int), jk, jk, jk, jk, jk, jk, jk, jk, jk, jk, jk]) A dX5_isLess_8 (by decide) rfl ?_
  refine a_lload (z := (d : Int)) A dX5_isLess_10 rfl ?_
  refine a_lstore (lv' := [vl (a : Int), jk, vl (b : Int), jk, vl (c : Int), jk, vl (d : Int), jk, vl (a : Int), jk, vl (b : Int), jk, vl (c : Int), jk, vl (d : Int), jk, jk, jk, jk, jk, jk, jk, jk, jk]) A dX5_isLess_12 (by decide) rfl ?_
  exact less_loop5 A T0 _ _ _ _ M (b + d + 1) a b c d jk jk jk jk (by omega) hb.1 hd.1 ha hb.2 hc hd.2 (fun q => ⟨rfl, Or.inl ⟨rfl, q⟩⟩) (fun q => ⟨rfl, Or.inr ⟨rfl, q⟩⟩)
/-- the share's upper number that is reckoned with -/
def sup (M : MM) (w : Int) (k : Nat) : Int := if M 90 k + (if w = 0 then 0 else if w = 1 then -(M 92 k) else M 92 k) < 0 then 0 else M 90 k + (if w = 0 then 0 else if w = 1 then -(M 92 k) else M 92 k)
def ssK (M : MM) (w : Int) (i : Nat) : MM := fun c => if c = 99 then (fun k => if k < i then sup M w k else M 99 k) else if c = 100 then (fun k => if k < i then M 91 k else M 100 k) else if c = 101 then (fun k => if k < i then M 89 k else M 101 k) else M c
theorem ssK_0 (M : MM) (w : Int) : ssK M w 0 = M := by
  funext c k
  unfold ssK
  split
  · rename_i h; simp [h]
  · split
    · rename_i h; simp [h]
    · split
      · rename_i h; simp [h]
      · rfl
theorem ssK_succ (M : MM) (w : Int) (i : Nat) : up2 (up2 (up2 (ssK M w i) 99 i (sup M w i)) 100 i (M 91 i)) 101 i (M 89 i) = ssK M w (i + 1) := by
  funext c k
  by_cases h1 : c = 99
  · subst h1
    simp only [up2, ssK, if_true]
    by_cases hk : k = i
    · subst hk; simp
    · by_cases h2 : k < i
      · simp [hk, h2, Nat.lt_succ_of_lt h2]
      · simp [hk, h2, show ¬ k < i + 1 by omega]
  · by_cases h2 : c = 100
    · subst h2
      simp only [up2, ssK]
      by_cases hk : k = i
      · subst hk; simp
      · by_cases h2 : k < i
        · simp [hk, h2, Nat.lt_succ_of_lt h2]
        · simp [hk, h2, show ¬ k < i + 1 by omega]
    · by_cases h3 : c = 101
      · subst h3
        simp only [up2, ssK]
        by_cases hk : k = i
        · subst hk; simp
        · by_cases h2 : k < i
          · simp [hk, h2, Nat.lt_succ_of_lt h2]
          · simp [hk, h2, show ¬ k < i + 1 by omega]
      · simp [up2, ssK, h1, h2, h3]
set_option maxRecDepth 100000 in
set_option maxHeartbeats 4000000 in
theorem ss_loop5 {G : GG} {E : EE} {P : MM → Prop} (A : AmM G E cX5_setShares 4 yX5_setShares.cls 1) (T0 : RT E G yX5_setShares 108 0 0 none (fun r rf' M' => rf' = rF ∧ r = none ∧ P M')) (M : MM) (w : Int) (hw0 : 0 ≤ w ∧ w ≤ 2) (hw : WM M) (hp : P (ssK M w (M 86 0).toNat)) : ∀ (n : Nat) (i : Nat) (w3 : Value), (M 86 0).toNat - i < n → (i : Int) ≤ M 86 0 → AM G E 4 2 [.ref 84, vi w, vi (i : Int), w3] [] (ssK M w i) := by
  intro n
  induction n with
  | zero => intro i w3 hn hi; exfalso; omega
  | succ n ih =>
    intro i w3 hn hi
    have hL := hw.2.1
    have hl0 : (i : Int) < M 86 0 → LW M i := hw.2.2 i
    unfold LW at hl0
    refine a_iload_n (z := (i : Int)) A dX5_setShares_2 rfl ?_
    refine a_aload_n (z := 84) A dX5_setShares_3 rfl ?_
    refine gf_X5_13 (r := 86) A dX5_setShares_4 rfl (by decide) rfl ?_
    refine a_iconst A dX5_setShares_7 ?_
    refine a_iaload (i := 0) (x := M 86 0) A dX5_setShares_8 rfl (by decide) (by decide) (by omega) rfl ?_
    refine a_icmp_ge (tgt := 101) A dX5_setShares_9 (by decide) (by omega) (by omega) (fun h9 => ?_) (fun h9 => ?_)
    · exact m_return A T0 dX5_setShares_101 (by rw [show (M 86 0).toNat = i by omega] at hp; exact hp)
    · refine a_iload_n (z := w) A dX5_setShares_12 rfl ?_
      refine a_if_ne (tgt := 20) A dX5_setShares_13 (by decide) (by omega) (fun h13 => ?_) (fun h13 => ?_)
      · refine a_iload_n (z := w) A dX5_setShares_20 rfl ?_
        refine a_iconst A dX5_setShares_21 ?_
        refine a_icmp_ne (tgt := 35) A dX5_setShares_22 (by decide) (by omega) (by omega) (fun h22 => ?_) (fun h22 => ?_)
        · refine a_aload_n (z := 84) A dX5_setShares_35 rfl ?_
          refine gf_X5_31 (r := 92) A dX5_setShares_36 rfl (by decide) rfl ?_
          refine a_iload_n (z := (i : Int)) A dX5_setShares_39 rfl ?_
          refine a_iaload (i := (i : Int)) (x := M 92 i) A dX5_setShares_40 rfl (by decide) (by decide) (by omega) rfl ?_
          refine a_istore_n (lv' := [.ref 84, vi w, vi (i : Int), vi (M 92 i)]) A dX5_setShares_41 (by decide) rfl ?_
          refine a_aload_n (z := 84) A dX5_setShares_42 rfl ?_
          refine gf_X5_53 (r := 99) A dX5_setShares_43 rfl (by decide) rfl ?_
          refine a_iload_n (z := (i : Int)) A dX5_setShares_46 rfl ?_
          refine a_aload_n (z := 84) A dX5_setShares_47 rfl ?_
          refine gf_X5_25 (r := 90) A dX5_setShares_48 rfl (by decide) rfl ?_
          refine a_iload_n (z := (i : Int)) A dX5_setShares_51 rfl ?_
          refine a_iaload (i := (i : Int)) (x := M 90 i) A dX5_setShares_52 rfl (by decide) (by decide) (by omega) rfl ?_
          refine a_iload_n (z := (M 92 i)) A dX5_setShares_53 rfl ?_
          refine a_iadd (x := (M 90 i)) (y := (M 92 i)) A dX5_setShares_54 ?_
          refine a_if_ge (tgt := 62) A dX5_setShares_55 (by decide) (by omega) (fun h55 => ?_) (fun h55 => ?_)
          · refine a_aload_n (z := 84) A dX5_setShares_62 rfl ?_
            refine gf_X5_25 (r := 90) A dX5_setShares_63 rfl (by decide) rfl ?_
            refine a_iload_n (z := (i : Int)) A dX5_setShares_66 rfl ?_
            refine a_iaload (i := (i : Int)) (x := M 90 i) A dX5_setShares_67 rfl (by decide) (by decide) (by omega) rfl ?_
            refine a_iload_n (z := (M 92 i)) A dX5_setShares_68 rfl ?_
            refine a_iadd (x := (M 90 i)) (y := (M 92 i)) A dX5_setShares_69 ?_
            refine a_iastore (i := (i : Int)) (j := i) A dX5_setShares_70 rfl (by decide) (by decide) (by omega) rfl ?_
            refine a_aload_n (z := 84) A dX5_setShares_71 rfl ?_
            refine gf_X5_56 (r := 100) A dX5_setShares_72 rfl (by decide) rfl ?_
            refine a_iload_n (z := (i : Int)) A dX5_setShares_75 rfl ?_
            refine a_aload_n (z := 84) A dX5_setShares_76 rfl ?_
            refine gf_X5_28 (r := 91) A dX5_setShares_77 rfl (by decide) rfl ?_
            refine a_iload_n (z := (i : Int)) A dX5_setShares_80 rfl ?_
            refine a_iaload (i := (i : Int)) (x := M 91 i) A dX5_setShares_81 rfl (by decide) (by decide) (by omega) rfl ?_
            refine a_iastore (i := (i : Int)) (j := i) A dX5_setShares_82 rfl (by decide) (by decide) (by omega) rfl ?_
            refine a_aload_n (z := 84) A dX5_setShares_83 rfl ?_
            refine gf_X5_59 (r := 101) A dX5_setShares_84 rfl (by decide) rfl ?_
            refine a_iload_n (z := (i : Int)) A dX5_setShares_87 rfl ?_
            refine a_aload_n (z := 84) A dX5_setShares_88 rfl ?_
            refine gf_X5_22 (r := 89) A dX5_setShares_89 rfl (by decide) rfl ?_
            refine a_iload_n (z := (i : Int)) A dX5_setShares_92 rfl ?_
            refine a_iaload (i := (i : Int)) (x := M 89 i) A dX5_setShares_93 rfl (by decide) (by decide) (by omega) rfl ?_
            refine a_iastore (i := (i : Int)) (j := i) A dX5_setShares_94 rfl (by decide) (by decide) (by omega) rfl ?_
            refine a_iinc (z := (i : Int)) (lv' := [.ref 84, vi w, vi ((i : Int) + 1), vi (M 92 i)]) A dX5_setShares_95 rfl (by decide) rfl ?_
            refine a_goto (tgt := 2) A dX5_setShares_98 (by decide) ?_
            rw [show ((M 90 i) + (M 92 i)) = sup M w i by unfold sup; repeat' split <;> omega, ssK_succ]
            exact ih (i + 1) _ (by omega) (by omega)
          · refine a_iconst A dX5_setShares_58 ?_
            refine a_goto (tgt := 70) A dX5_setShares_59 (by decide) ?_
            refine a_iastore (i := (i : Int)) (j := i) A dX5_setShares_70 rfl (by decide) (by decide) (by omega) rfl ?_
            refine a_aload_n (z := 84) A dX5_setShares_71 rfl ?_
            refine gf_X5_56 (r := 100) A dX5_setShares_72 rfl (by decide) rfl ?_
            refine a_iload_n (z := (i : Int)) A dX5_setShares_75 rfl ?_
            refine a_aload_n (z := 84) A dX5_setShares_76 rfl ?_
            refine gf_X5_28 (r := 91) A dX5_setShares_77 rfl (by decide) rfl ?_
            refine a_iload_n (z := (i : Int)) A dX5_setShares_80 rfl ?_
            refine a_iaload (i := (i : Int)) (x := M 91 i) A dX5_setShares_81 rfl (by decide) (by decide) (by omega) rfl ?_
            refine a_iastore (i := (i : Int)) (j := i) A dX5_setShares_82 rfl (by decide) (by decide) (by omega) rfl ?_
            refine a_aload_n (z := 84) A dX5_setShares_83 rfl ?_
            refine gf_X5_59 (r := 101) A dX5_setShares_84 rfl (by decide) rfl ?_
            refine a_iload_n (z := (i : Int)) A dX5_setShares_87 rfl ?_
            refine a_aload_n (z := 84) A dX5_setShares_88 rfl ?_
            refine gf_X5_22 (r := 89) A dX5_setShares_89 rfl (by decide) rfl ?_
            refine a_iload_n (z := (i : Int)) A dX5_setShares_92 rfl ?_
            refine a_iaload (i := (i : Int)) (x := M 89 i) A dX5_setShares_93 rfl (by decide) (by decide) (by omega) rfl ?_
            refine a_iastore (i := (i : Int)) (j := i) A dX5_setShares_94 rfl (by decide) (by decide) (by omega) rfl ?_
            refine a_iinc (z := (i : Int)) (lv' := [.ref 84, vi w, vi ((i : Int) + 1), vi (M 92 i)]) A dX5_setShares_95 rfl (by decide) rfl ?_
            refine a_goto (tgt := 2) A dX5_setShares_98 (by decide) ?_
            rw [show 0 = sup M w i by unfold sup; repeat' split <;> omega, ssK_succ]
            exact ih (i + 1) _ (by omega) (by omega)
        · refine a_aload_n (z := 84) A dX5_setShares_25 rfl ?_
          refine gf_X5_31 (r := 92) A dX5_setShares_26 rfl (by decide) rfl ?_
          refine a_iload_n (z := (i : Int)) A dX5_setShares_29 rfl ?_
          refine a_iaload (i := (i : Int)) (x := M 92 i) A dX5_setShares_30 rfl (by decide) (by decide) (by omega) rfl ?_
          refine a_ineg A dX5_setShares_31 ?_
          refine a_goto (tgt := 41) A dX5_setShares_32 (by decide) ?_
          refine a_istore_n (lv' := [.ref 84, vi w, vi (i : Int), vi (-(M 92 i))]) A dX5_setShares_41 (by decide) rfl ?_
          refine a_aload_n (z := 84) A dX5_setShares_42 rfl ?_
          refine gf_X5_53 (r := 99) A dX5_setShares_43 rfl (by decide) rfl ?_
          refine a_iload_n (z := (i : Int)) A dX5_setShares_46 rfl ?_
          refine a_aload_n (z := 84) A dX5_setShares_47 rfl ?_
          refine gf_X5_25 (r := 90) A dX5_setShares_48 rfl (by decide) rfl ?_
          refine a_iload_n (z := (i : Int)) A dX5_setShares_51 rfl ?_
          refine a_iaload (i := (i : Int)) (x := M 90 i) A dX5_setShares_52 rfl (by decide) (by decide) (by omega) rfl ?_
          refine a_iload_n (z := (-(M 92 i))) A dX5_setShares_53 rfl ?_
          refine a_iadd (x := (M 90 i)) (y := (-(M 92 i))) A dX5_setShares_54 ?_
          refine a_if_ge (tgt := 62) A dX5_setShares_55 (by decide) (by omega) (fun h55 => ?_) (fun h55 => ?_)
          · refine a_aload_n (z := 84) A dX5_setShares_62 rfl ?_
            refine gf_X5_25 (r := 90) A dX5_setShares_63 rfl (by decide) rfl ?_
            refine a_iload_n (z := (i : Int)) A dX5_setShares_66 rfl ?_
            refine a_iaload (i := (i : Int)) (x := M 90 i) A dX5_setShares_67 rfl (by decide) (by decide) (by omega) rfl ?_
            refine a_iload_n (z := (-(M 92 i))) A dX5_setShares_68 rfl ?_
            refine a_iadd (x := (M 90 i)) (y := (-(M 92 i))) A dX5_setShares_69 ?_
            refine a_iastore (i := (i : Int)) (j := i) A dX5_setShares_70 rfl (by decide) (by decide) (by omega) rfl ?_
            refine a_aload_n (z := 84) A dX5_setShares_71 rfl ?_
            refine gf_X5_56 (r := 100) A dX5_setShares_72 rfl (by decide) rfl ?_
            refine a_iload_n (z := (i : Int)) A dX5_setShares_75 rfl ?_
            refine a_aload_n (z := 84) A dX5_setShares_76 rfl ?_
            refine gf_X5_28 (r := 91) A dX5_setShares_77 rfl (by decide) rfl ?_
            refine a_iload_n (z := (i : Int)) A dX5_setShares_80 rfl ?_
            refine a_iaload (i := (i : Int)) (x := M 91 i) A dX5_setShares_81 rfl (by decide) (by decide) (by omega) rfl ?_
            refine a_iastore (i := (i : Int)) (j := i) A dX5_setShares_82 rfl (by decide) (by decide) (by omega) rfl ?_
            refine a_aload_n (z := 84) A dX5_setShares_83 rfl ?_
            refine gf_X5_59 (r := 101) A dX5_setShares_84 rfl (by decide) rfl ?_
            refine a_iload_n (z := (i : Int)) A dX5_setShares_87 rfl ?_
            refine a_aload_n (z := 84) A dX5_setShares_88 rfl ?_
            refine gf_X5_22 (r := 89) A dX5_setShares_89 rfl (by decide) rfl ?_
            refine a_iload_n (z := (i : Int)) A dX5_setShares_92 rfl ?_
            refine a_iaload (i := (i : Int)) (x := M 89 i) A dX5_setShares_93 rfl (by decide) (by decide) (by omega) rfl ?_
            refine a_iastore (i := (i : Int)) (j := i) A dX5_setShares_94 rfl (by decide) (by decide) (by omega) rfl ?_
            refine a_iinc (z := (i : Int)) (lv' := [.ref 84, vi w, vi ((i : Int) + 1), vi (-(M 92 i))]) A dX5_setShares_95 rfl (by decide) rfl ?_
            refine a_goto (tgt := 2) A dX5_setShares_98 (by decide) ?_
            rw [show ((M 90 i) + (-(M 92 i))) = sup M w i by unfold sup; repeat' split <;> omega, ssK_succ]
            exact ih (i + 1) _ (by omega) (by omega)
          · refine a_iconst A dX5_setShares_58 ?_
            refine a_goto (tgt := 70) A dX5_setShares_59 (by decide) ?_
            refine a_iastore (i := (i : Int)) (j := i) A dX5_setShares_70 rfl (by decide) (by decide) (by omega) rfl ?_
            refine a_aload_n (z := 84) A dX5_setShares_71 rfl ?_
            refine gf_X5_56 (r := 100) A dX5_setShares_72 rfl (by decide) rfl ?_
            refine a_iload_n (z := (i : Int)) A dX5_setShares_75 rfl ?_
            refine a_aload_n (z := 84) A dX5_setShares_76 rfl ?_
            refine gf_X5_28 (r := 91) A dX5_setShares_77 rfl (by decide) rfl ?_
            refine a_iload_n (z := (i : Int)) A dX5_setShares_80 rfl ?_
            refine a_iaload (i := (i : Int)) (x := M 91 i) A dX5_setShares_81 rfl (by decide) (by decide) (by omega) rfl ?_
            refine a_iastore (i := (i : Int)) (j := i) A dX5_setShares_82 rfl (by decide) (by decide) (by omega) rfl ?_
            refine a_aload_n (z := 84) A dX5_setShares_83 rfl ?_
            refine gf_X5_59 (r := 101) A dX5_setShares_84 rfl (by decide) rfl ?_
            refine a_iload_n (z := (i : Int)) A dX5_setShares_87 rfl ?_
            refine a_aload_n (z := 84) A dX5_setShares_88 rfl ?_
            refine gf_X5_22 (r := 89) A dX5_setShares_89 rfl (by decide) rfl ?_
            refine a_iload_n (z := (i : Int)) A dX5_setShares_92 rfl ?_
            refine a_iaload (i := (i : Int)) (x := M 89 i) A dX5_setShares_93 rfl (by decide) (by decide) (by omega) rfl ?_
            refine a_iastore (i := (i : Int)) (j := i) A dX5_setShares_94 rfl (by decide) (by decide) (by omega) rfl ?_
            refine a_iinc (z := (i : Int)) (lv' := [.ref 84, vi w, vi ((i : Int) + 1), vi (-(M 92 i))]) A dX5_setShares_95 rfl (by decide) rfl ?_
            refine a_goto (tgt := 2) A dX5_setShares_98 (by decide) ?_
            rw [show 0 = sup M w i by unfold sup; repeat' split <;> omega, ssK_succ]
            exact ih (i + 1) _ (by omega) (by omega)
      · refine a_iconst A dX5_setShares_16 ?_
        refine a_goto (tgt := 41) A dX5_setShares_17 (by decide) ?_
        refine a_istore_n (lv' := [.ref 84, vi w, vi (i : Int), vi 0]) A dX5_setShares_41 (by decide) rfl ?_
        refine a_aload_n (z := 84) A dX5_setShares_42 rfl ?_
        refine gf_X5_53 (r := 99) A dX5_setShares_43 rfl (by decide) rfl ?_
        refine a_iload_n (z := (i : Int)) A dX5_setShares_46 rfl ?_
        refine a_aload_n (z := 84) A dX5_setShares_47 rfl ?_
        refine gf_X5_25 (r := 90) A dX5_setShares_48 rfl (by decide) rfl ?_
        refine a_iload_n (z := (i : Int)) A dX5_setShares_51 rfl ?_
        refine a_iaload (i := (i : Int)) (x := M 90 i) A dX5_setShares_52 rfl (by decide) (by decide) (by omega) rfl ?_
        refine a_iload_n (z := 0) A dX5_setShares_53 rfl ?_
        refine a_iadd (x := (M 90 i)) (y := 0) A dX5_setShares_54 ?_
        refine a_if_ge (tgt := 62) A dX5_setShares_55 (by decide) (by omega) (fun h55 => ?_) (fun h55 => ?_)
        · refine a_aload_n (z := 84) A dX5_setShares_62 rfl ?_
          refine gf_X5_25 (r := 90) A dX5_setShares_63 rfl (by decide) rfl ?_
          refine a_iload_n (z := (i : Int)) A dX5_setShares_66 rfl ?_
          refine a_iaload (i := (i : Int)) (x := M 90 i) A dX5_setShares_67 rfl (by decide) (by decide) (by omega) rfl ?_
          refine a_iload_n (z := 0) A dX5_setShares_68 rfl ?_
          refine a_iadd (x := (M 90 i)) (y := 0) A dX5_setShares_69 ?_
          refine a_iastore (i := (i : Int)) (j := i) A dX5_setShares_70 rfl (by decide) (by decide) (by omega) rfl ?_
          refine a_aload_n (z := 84) A dX5_setShares_71 rfl ?_
          refine gf_X5_56 (r := 100) A dX5_setShares_72 rfl (by decide) rfl ?_
          refine a_iload_n (z := (i : Int)) A dX5_setShares_75 rfl ?_
          refine a_aload_n (z := 84) A dX5_setShares_76 rfl ?_
          refine gf_X5_28 (r := 91) A dX5_setShares_77 rfl (by decide) rfl ?_
          refine a_iload_n (z := (i : Int)) A dX5_setShares_80 rfl ?_
          refine a_iaload (i := (i : Int)) (x := M 91 i) A dX5_setShares_81 rfl (by decide) (by decide) (by omega) rfl ?_
          refine a_iastore (i := (i : Int)) (j := i) A dX5_setShares_82 rfl (by decide) (by decide) (by omega) rfl ?_
          refine a_aload_n (z := 84) A dX5_setShares_83 rfl ?_
          refine gf_X5_59 (r := 101) A dX5_setShares_84 rfl (by decide) rfl ?_
          refine a_iload_n (z := (i : Int)) A dX5_setShares_87 rfl ?_
          refine a_aload_n (z := 84) A dX5_setShares_88 rfl ?_
          refine gf_X5_22 (r := 89) A dX5_setShares_89 rfl (by decide) rfl ?_
          refine a_iload_n (z := (i : Int)) A dX5_setShares_92 rfl ?_
          refine a_iaload (i := (i : Int)) (x := M 89 i) A dX5_setShares_93 rfl (by decide) (by decide) (by omega) rfl ?_
          refine a_iastore (i := (i : Int)) (j := i) A dX5_setShares_94 rfl (by decide) (by decide) (by omega) rfl ?_
          refine a_iinc (z := (i : Int)) (lv' := [.ref 84, vi w, vi ((i : Int) + 1), vi 0]) A dX5_setShares_95 rfl (by decide) rfl ?_
          refine a_goto (tgt := 2) A dX5_setShares_98 (by decide) ?_
          rw [show ((M 90 i) + 0) = sup M w i by unfold sup; repeat' split <;> omega, ssK_succ]
          exact ih (i + 1) _ (by omega) (by omega)
        · refine a_iconst A dX5_setShares_58 ?_
          refine a_goto (tgt := 70) A dX5_setShares_59 (by decide) ?_
          refine a_iastore (i := (i : Int)) (j := i) A dX5_setShares_70 rfl (by decide) (by decide) (by omega) rfl ?_
          refine a_aload_n (z := 84) A dX5_setShares_71 rfl ?_
          refine gf_X5_56 (r := 100) A dX5_setShares_72 rfl (by decide) rfl ?_
          refine a_iload_n (z := (i : Int)) A dX5_setShares_75 rfl ?_
          refine a_aload_n (z := 84) A dX5_setShares_76 rfl ?_
          refine gf_X5_28 (r := 91) A dX5_setShares_77 rfl (by decide) rfl ?_
          refine a_iload_n (z := (i : Int)) A dX5_setShares_80 rfl ?_
          refine a_iaload (i := (i : Int)) (x := M 91 i) A dX5_setShares_81 rfl (by decide) (by decide) (by omega) rfl ?_
          refine a_iastore (i := (i : Int)) (j := i) A dX5_setShares_82 rfl (by decide) (by decide) (by omega) rfl ?_
          refine a_aload_n (z := 84) A dX5_setShares_83 rfl ?_
          refine gf_X5_59 (r := 101) A dX5_setShares_84 rfl (by decide) rfl ?_
          refine a_iload_n (z := (i : Int)) A dX5_setShares_87 rfl ?_
          refine a_aload_n (z := 84) A dX5_setShares_88 rfl ?_
          refine gf_X5_22 (r := 89) A dX5_setShares_89 rfl (by decide) rfl ?_
          refine a_iload_n (z := (i : Int)) A dX5_setShares_92 rfl ?_
          refine a_iaload (i := (i : Int)) (x := M 89 i) A dX5_setShares_93 rfl (by decide) (by decide) (by omega) rfl ?_
          refine a_iastore (i := (i : Int)) (j := i) A dX5_setShares_94 rfl (by decide) (by decide) (by omega) rfl ?_
          refine a_iinc (z := (i : Int)) (lv' := [.ref 84, vi w, vi ((i : Int) + 1), vi 0]) A dX5_setShares_95 rfl (by decide) rfl ?_
          refine a_goto (tgt := 2) A dX5_setShares_98 (by decide) ?_
          rw [show 0 = sup M w i by unfold sup; repeat' split <;> omega, ssK_succ]
          exact ih (i + 1) _ (by omega) (by omega)
set_option maxRecDepth 100000 in
set_option maxHeartbeats 4000000 in
theorem c_X5_setShares (G : GG) (l : Launch) (w : Int) (M : MM) (hw0 : 0 ≤ w ∧ w ≤ 2) (hw : WM M) : CMv G l yX5_setShares cX5_setShares 4 none 1 [.ref 84, vi w] M (fun M' => M' = ssK M w (M 86 0).toNat) := by
  refine CT.intro (by decide) (Nat.le_of_ble_eq_true rfl) (fun E hE A T0 => ?_)
  subst hE
  refine a_iconst A dX5_setShares_0 ?_
  refine a_istore_n (lv' := [.ref 84, vi w, vi 0, jk]) A dX5_setShares_1 (by decide) rfl ?_
  have := ss_loop5 A T0 M w hw0 hw rfl ((M 86 0).toNat + 1) 0 jk (by omega) (by have := hw.2.1; omega)
  rw [ssK_0] at this
  exact this
