/-! sums, lanes that may be, fractions in least terms -/
def sumZ (f : Nat → Int) : Nat → Int
  | 0 => 0
  | n + 1 => sumZ f n + f n
def LW (M : MM) (i : Nat) : Prop := 0 ≤ M 87 i ∧ M 87 i < M 85 0 - 1 ∧ 0 < M 88 i ∧ M 88 i < M 85 0 ∧ M 87 i ≠ M 88 i ∧ 0 ≤ M 89 i ∧ M 89 i ≤ 100 ∧ 1 ≤ M 90 i ∧ M 90 i ≤ 9 ∧ 1 ≤ M 91 i ∧ M 91 i ≤ 9 ∧ 0 ≤ M 92 i ∧ M 92 i ≤ 8 ∧ 0 ≤ M 93 i ∧ M 93 i ≤ 1000 ∧ 1 ≤ M 94 i ∧ M 94 i ≤ 9
def nU (a b : Int) : Int := a.tdiv (Int.gcd a b)
def nD (a b : Int) : Int := b.tdiv (Int.gcd a b)
theorem gcd_pos {a b : Int} (hb : 0 < b) : 0 < (Int.gcd a b : Int) ∧ (Int.gcd a b : Int) ≤ b := by
  have h1 : Int.gcd a b ∣ b.natAbs := by rw [Int.gcd_eq_natAbs_gcd_natAbs]; exact Nat.gcd_dvd_right _ _
  have h2 := Nat.le_of_dvd (by omega) h1
  have h3 := Nat.pos_of_dvd_of_pos h1 (by omega)
  omega
theorem mul_bd {a b A B : Int} (ha : 0 ≤ a ∧ a ≤ A) (hb : 0 ≤ b ∧ b ≤ B) : 0 ≤ a * b ∧ a * b ≤ A * B := ⟨Int.mul_nonneg ha.1 hb.1, Int.mul_le_mul ha.2 hb.2 hb.1 (by omega)⟩
theorem mul_pos9 {a b : Int} (ha : 1 ≤ a ∧ a ≤ 9) (hb : 1 ≤ b ∧ b ≤ 9) : 1 ≤ a * b ∧ a * b ≤ 81 := by
  have h1 := mul_bd (A := 9) (B := 9) ⟨by omega, ha.2⟩ ⟨by omega, hb.2⟩
  have h2 := Int.mul_le_mul ha.1 hb.1 (by omega) (by omega)
  omega
def arrF (M : MM) (v : Int) : Nat → Int := fun k => if M 88 k = v then (6350400 : Int).tdiv (M 94 k * M 91 k) * M 93 k * M 90 k else 0
def levF (M : MM) (v : Int) : Nat → Int := fun k => if M 87 k = v then (6350400 : Int).tdiv (M 94 k) * M 93 k else 0
set_option maxRecDepth 100000 in
set_option maxHeartbeats 4000000 in
theorem c_X5_put (G : GG) (l : Launch) (a b : Int) (M : MM) (ha : -9223372036854775808 < a ∧ a < 9223372036854775808) (hb : 0 < b ∧ b < 9223372036854775808) : CMv G l yX5_put cX5_put 7 none 2 [.ref 84, vl a, vl b] M (fun M' => M' = up2 (up2 M 84 15 (nU a b)) 84 16 (nD a b)) := by
  refine CT.intro (by decide) (Nat.le_of_ble_eq_true rfl) (fun E hE A T0 => ?_)
  subst hE
  have hg := gcd_pos (a := a) hb.1
  refine a_lload_n (z := a) A dX5_put_0 rfl ?_
  refine a_lload_n (z := b) A dX5_put_1 rfl ?_
  refine m_invSl A (c_X5_gcd G _ a b M (by omega) (by omega)) (by decide) mi_X5_gcd ms_X5_gcd cs_X5_111 dX5_put_2 rfl rfl (Nat.le_of_ble_eq_true rfl) (fun z2 M2 h2 => ?_)
  obtain ⟨e2, rfl⟩ := h2
  have e2 := e2.symm
  subst e2
  refine a_lstore (lv' := [.ref 84, vl a, jk, vl b, jk, vl (Int.gcd a b : Int), jk]) A dX5_put_5 (by decide) rfl ?_
  refine a_aload_n (z := 84) A dX5_put_7 rfl ?_
  refine a_lload_n (z := a) A dX5_put_8 rfl ?_
  refine a_lload (z := (Int.gcd a b : Int)) A dX5_put_9 rfl ?_
  refine a_ldiv A dX5_put_11 (by omega) (by omega) (by omega) ?_
  refine pf_X5_104 A dX5_put_12 rfl (by decide) ?_
  refine a_aload_n (z := 84) A dX5_put_15 rfl ?_
  refine a_lload_n (z := b) A dX5_put_16 rfl ?_
  refine a_lload (z := (Int.gcd a b : Int)) A dX5_put_17 rfl ?_
  refine a_ldiv A dX5_put_19 (by omega) (by omega) (by omega) ?_
  refine pf_X5_108 A dX5_put_20 rfl (by decide) ?_
  exact m_return A T0 dX5_put_23 (by rfl)
set_option maxRecDepth 100000 in
set_option maxHeartbeats 4000000 in
theorem c_X5_tell (G : GG) (l : Launch) (k w : Int) (M : MM) (hk : I32 k) (hw : I32 w) (hL : 0 ≤ M 86 0 ∧ M 86 0 ≤ 10) (hW : ∀ i : Nat, (i : Int) < M 86 0 → LW M i) : CMi G l yX5_tell cX5_tell 3 (some .int) 4 [.ref 84, vi k, vi w] M (fun z M' => (z = -1 ∧ (¬ (0 ≤ k ∧ k < M 86 0) ∨ w < 0 ∨ 7 < w) ∧ M' = up2 M 84 0 0) ∨ ((0 ≤ k ∧ k < M 86 0) ∧ M' = up2 M 84 0 0 ∧ ((w = 0 ∧ z = M 87 k.toNat) ∨ (w = 1 ∧ z = M 88 k.toNat) ∨ (w = 2 ∧ z = M 89 k.toNat) ∨ (w = 3 ∧ z = M 90 k.toNat) ∨ (w = 4 ∧ z = M 91 k.toNat) ∨ (w = 5 ∧ z = M 92 k.toNat))) ∨ ((0 ≤ k ∧ k < M 86 0) ∧ M' = up2 (up2 (up2 M 84 0 0) 84 15 (nU (M 93 k.toNat) (M 94 k.toNat))) 84 16 (nD (M 93 k.toNat) (M 94 k.toNat)) ∧ ((w = 6 ∧ z = nU (M 93 k.toNat) (M 94 k.toNat)) ∨ (w = 7 ∧ z = nD (M 93 k.toNat) (M 94 k.toNat))))) := by
  refine CT.intro (by decide) (Nat.le_of_ble_eq_true rfl) (fun E hE A T0 => ?_)
  subst hE
  refine a_aload_n (z := 84) A dX5_tell_0 rfl ?_
  refine a_iconst A dX5_tell_1 ?_
  refine pf_X5_81 A dX5_tell_2 rfl (by decide) ?_
  refine a_aload_n (z := 84) A dX5_tell_5 rfl ?_
  refine a_iload_n (z := k) A dX5_tell_6 rfl ?_
  refine m_invVi A (c_X5_isLane G _ k (up2 M 84 0 0) (by omega) hL) (by decide) mi_X5_isLane mv_X5_isLane cs_X5_97 cf5 dX5_tell_7 rfl (by decide) rfl rfl (Nat.le_of_ble_eq_true rfl) (fun z7 M7 h7 => ?_)
  obtain ⟨e7, hc7⟩ := h7
  have e7 := e7.symm
  subst e7
  have hc7 : (z7 = 1 ∧ 0 ≤ k ∧ k < M 86 0) ∨ (z7 = 0 ∧ (k < 0 ∨ M 86 0 ≤ k)) := hc7
  refine a_if_ne (tgt := 15) A dX5_tell_10 (by decide) (by omega) (fun h10 => ?_) (fun h10 => ?_)
  · have hl : LW M k.toNat := hW _ (by omega)
    unfold LW at hl
    refine a_iload_n (z := w) A dX5_tell_15 rfl ?_
    by_cases hsw : w < 0 ∨ 7 < w
    · refine a_tswO (tgt := 143) A dX5_tell_16 (by omega) hsw (by decide) ?_
      refine a_iconst A dX5_tell_143 ?_
      exact m_ireturn A T0 dX5_tell_144 (by first | exact Or.inl ⟨rfl, by omega, rfl⟩ | exact Or.inr (Or.inl ⟨by omega, rfl, by omega⟩) | exact Or.inr (Or.inr ⟨by omega, rfl, by omega⟩))
    · have hs2 : w = 0 ∨ w = 1 ∨ w = 2 ∨ w = 3 ∨ w = 4 ∨ w = 5 ∨ w = 6 ∨ w = 7 := by omega
      rcases hs2 with hs | hs | hs | hs | hs | hs | hs | hs
      · refine a_tswI (tgt := 64) (off := 48) A dX5_tell_16 (by omega) (by omega) (by omega) (by rw [hs]; rfl) (by decide) ?_
        refine a_aload_n (z := 84) A dX5_tell_64 rfl ?_
        refine gf_X5_16 (r := 87) A dX5_tell_65 rfl (by decide) rfl ?_
        refine a_iload_n (z := k) A dX5_tell_68 rfl ?_
        refine a_iaload (i := k) (x := M 87 k.toNat) A dX5_tell_69 rfl (by decide) (by decide) (by omega) rfl ?_
        exact m_ireturn A T0 dX5_tell_70 (by first | exact Or.inl ⟨rfl, by omega, rfl⟩ | exact Or.inr (Or.inl ⟨by omega, rfl, by omega⟩) | exact Or.inr (Or.inr ⟨by omega, rfl, by omega⟩))
      · refine a_tswI (tgt := 71) (off := 55) A dX5_tell_16 (by omega) (by omega) (by omega) (by rw [hs]; rfl) (by decide) ?_
        refine a_aload_n (z := 84) A dX5_tell_71 rfl ?_
        refine gf_X5_19 (r := 88) A dX5_tell_72 rfl (by decide) rfl ?_
        refine a_iload_n (z := k) A dX5_tell_75 rfl ?_
        refine a_iaload (i := k) (x := M 88 k.toNat) A dX5_tell_76 rfl (by decide) (by decide) (by omega) rfl ?_
        exact m_ireturn A T0 dX5_tell_77 (by first | exact Or.inl ⟨rfl, by omega, rfl⟩ | exact Or.inr (Or.inl ⟨by omega, rfl, by omega⟩) | exact Or.inr (Or.inr ⟨by omega, rfl, by omega⟩))
      · refine a_tswI (tgt := 78) (off := 62) A dX5_tell_16 (by omega) (by omega) (by omega) (by rw [hs]; rfl) (by decide) ?_
        refine a_aload_n (z := 84) A dX5_tell_78 rfl ?_
        refine gf_X5_22 (r := 89) A dX5_tell_79 rfl (by decide) rfl ?_
        refine a_iload_n (z := k) A dX5_tell_82 rfl ?_
        refine a_iaload (i := k) (x := M 89 k.toNat) A dX5_tell_83 rfl (by decide) (by decide) (by omega) rfl ?_
        exact m_ireturn A T0 dX5_tell_84 (by first | exact Or.inl ⟨rfl, by omega, rfl⟩ | exact Or.inr (Or.inl ⟨by omega, rfl, by omega⟩) | exact Or.inr (Or.inr ⟨by omega, rfl, by omega⟩))
      · refine a_tswI (tgt := 85) (off := 69) A dX5_tell_16 (by omega) (by omega) (by omega) (by rw [hs]; rfl) (by decide) ?_
        refine a_aload_n (z := 84) A dX5_tell_85 rfl ?_
        refine gf_X5_25 (r := 90) A dX5_tell_86 rfl (by decide) rfl ?_
        refine a_iload_n (z := k) A dX5_tell_89 rfl ?_
        refine a_iaload (i := k) (x := M 90 k.toNat) A dX5_tell_90 rfl (by decide) (by decide) (by omega) rfl ?_
        exact m_ireturn A T0 dX5_tell_91 (by first | exact Or.inl ⟨rfl, by omega, rfl⟩ | exact Or.inr (Or.inl ⟨by omega, rfl, by omega⟩) | exact Or.inr (Or.inr ⟨by omega, rfl, by omega⟩))
      · refine a_tswI (tgt := 92) (off := 76) A dX5_tell_16 (by omega) (by omega) (by omega) (by rw [hs]; rfl) (by decide) ?_
        refine a_aload_n (z := 84) A dX5_tell_92 rfl ?_
        refine gf_X5_28 (r := 91) A dX5_tell_93 rfl (by decide) rfl ?_
        refine a_iload_n (z := k) A dX5_tell_96 rfl ?_
        refine a_iaload (i := k) (x := M 91 k.toNat) A dX5_tell_97 rfl (by decide) (by decide) (by omega) rfl ?_
        exact m_ireturn A T0 dX5_tell_98 (by first | exact Or.inl ⟨rfl, by omega, rfl⟩ | exact Or.inr (Or.inl ⟨by omega, rfl, by omega⟩) | exact Or.inr (Or.inr ⟨by omega, rfl, by omega⟩))
      · refine a_tswI (tgt := 99) (off := 83) A dX5_tell_16 (by omega) (by omega) (by omega) (by rw [hs]; rfl) (by decide) ?_
        refine a_aload_n (z := 84) A dX5_tell_99 rfl ?_
        refine gf_X5_31 (r := 92) A dX5_tell_100 rfl (by decide) rfl ?_
        refine a_iload_n (z := k) A dX5_tell_103 rfl ?_
        refine a_iaload (i := k) (x := M 92 k.toNat) A dX5_tell_104 rfl (by decide) (by decide) (by omega) rfl ?_
        exact m_ireturn A T0 dX5_tell_105 (by first | exact Or.inl ⟨rfl, by omega, rfl⟩ | exact Or.inr (Or.inl ⟨by omega, rfl, by omega⟩) | exact Or.inr (Or.inr ⟨by omega, rfl, by omega⟩))
      · refine a_tswI (tgt := 106) (off := 90) A dX5_tell_16 (by omega) (by omega) (by omega) (by rw [hs]; rfl) (by decide) ?_
        refine a_aload_n (z := 84) A dX5_tell_106 rfl ?_
        refine a_aload_n (z := 84) A dX5_tell_107 rfl ?_
        refine gf_X5_34 (r := 93) A dX5_tell_108 rfl (by decide) rfl ?_
        refine a_iload_n (z := k) A dX5_tell_111 rfl ?_
        refine a_iaload (i := k) (x := M 93 k.toNat) A dX5_tell_112 rfl (by decide) (by decide) (by omega) rfl ?_
        refine a_i2l A dX5_tell_113 (by omega) ?_
        refine a_aload_n (z := 84) A dX5_tell_114 rfl ?_
        refine gf_X5_37 (r := 94) A dX5_tell_115 rfl (by decide) rfl ?_
        refine a_iload_n (z := k) A dX5_tell_118 rfl ?_
        refine a_iaload (i := k) (x := M 94 k.toNat) A dX5_tell_119 rfl (by decide) (by decide) (by omega) rfl ?_
        refine a_i2l A dX5_tell_120 (by omega) ?_
        refine m_invVv A (c_X5_put G _ (M 93 k.toNat) (M 94 k.toNat) (up2 M 84 0 0) (by omega) (by omega)) (by decide) mi_X5_put mv_X5_put cs_X5_100 cf5 dX5_tell_121 rfl (by decide) rfl rfl (Nat.le_of_ble_eq_true rfl) (fun M121 h121 => ?_)
        have h121 := h121.symm
        subst h121
        refine a_iload_n (z := w) A dX5_tell_124 rfl ?_
        refine a_bipush A dX5_tell_125 (by decide) ?_
        refine a_icmp_ne (tgt := 137) A dX5_tell_127 (by decide) (by omega) (by omega) (fun h127 => ?_) (fun h127 => ?_)
        · refine a_aload_n (z := 84) A dX5_tell_137 rfl ?_
          refine gf_X5_108 (x := (nD (M 93 k.toNat) (M 94 k.toNat))) A dX5_tell_138 rfl (by decide) rfl ?_
          refine a_l2i A dX5_tell_141 ?_
          exact m_ireturn A T0 dX5_tell_142 (by first | exact Or.inl ⟨rfl, by omega, rfl⟩ | exact Or.inr (Or.inl ⟨by omega, rfl, by omega⟩) | exact Or.inr (Or.inr ⟨by omega, rfl, by omega⟩))
        · refine a_aload_n (z := 84) A dX5_tell_130 rfl ?_
          refine gf_X5_104 (x := (nU (M 93 k.toNat) (M 94 k.toNat))) A dX5_tell_131 rfl (by decide) rfl ?_
          refine a_goto (tgt := 141) A dX5_tell_134 (by decide) ?_
          refine a_l2i A dX5_tell_141 ?_
          exact m_ireturn A T0 dX5_tell_142 (by first | exact Or.inl ⟨rfl, by omega, rfl⟩ | exact Or.inr (Or.inl ⟨by omega, rfl, by omega⟩) | exact Or.inr (Or.inr ⟨by omega, rfl, by omega⟩))
      · refine a_tswI (tgt := 106) (off := 90) A dX5_tell_16 (by omega) (by omega) (by omega) (by rw [hs]; rfl) (by decide) ?_
        refine a_aload_n (z := 84) A dX5_tell_106 rfl ?_
        refine a_aload_n (z := 84) A dX5_tell_107 rfl ?_
        refine gf_X5_34 (r := 93) A dX5_tell_108 rfl (by decide) rfl ?_
        refine a_iload_n (z := k) A dX5_tell_111 rfl ?_
        refine a_iaload (i := k) (x := M 93 k.toNat) A dX5_tell_112 rfl (by decide) (by decide) (by omega) rfl ?_
        refine a_i2l A dX5_tell_113 (by omega) ?_
        refine a_aload_n (z := 84) A dX5_tell_114 rfl ?_
        refine gf_X5_37 (r := 94) A dX5_tell_115 rfl (by decide) rfl ?_
        refine a_iload_n (z := k) A dX5_tell_118 rfl ?_
        refine a_iaload (i := k) (x := M 94 k.toNat) A dX5_tell_119 rfl (by decide) (by decide) (by omega) rfl ?_
        refine a_i2l A dX5_tell_120 (by omega) ?_
        refine m_invVv A (c_X5_put G _ (M 93 k.toNat) (M 94 k.toNat) (up2 M 84 0 0) (by omega) (by omega)) (by decide) mi_X5_put mv_X5_put cs_X5_100 cf5 dX5_tell_121 rfl (by decide) rfl rfl (Nat.le_of_ble_eq_true rfl) (fun M121 h121 => ?_)
        have h121 := h121.symm
        subst h121
        refine a_iload_n (z := w) A dX5_tell_124 rfl ?_
        refine a_bipush A dX5_tell_125 (by decide) ?_
        refine a_icmp_ne (tgt := 137) A dX5_tell_127 (by decide) (by omega) (by omega) (fun h127 => ?_) (fun h127 => ?_)
        · refine a_aload_n (z := 84) A dX5_tell_137 rfl ?_
          refine gf_X5_108 (x := (nD (M 93 k.toNat) (M 94 k.toNat))) A dX5_tell_138 rfl (by decide) rfl ?_
          refine a_l2i A dX5_tell_141 ?_
          exact m_ireturn A T0 dX5_tell_142 (by first | exact Or.inl ⟨rfl, by omega, rfl⟩ | exact Or.inr (Or.inl ⟨by omega, rfl, by omega⟩) | exact Or.inr (Or.inr ⟨by omega, rfl, by omega⟩))
        · refine a_aload_n (z := 84) A dX5_tell_130 rfl ?_
          refine gf_X5_104 (x := (nU (M 93 k.toNat) (M 94 k.toNat))) A dX5_tell_131 rfl (by decide) rfl ?_
          refine a_goto (tgt := 141) A dX5_tell_134 (by decide) ?_
          refine a_l2i A dX5_tell_141 ?_
          exact m_ireturn A T0 dX5_tell_142 (by first | exact Or.inl ⟨rfl, by omega, rfl⟩ | exact Or.inr (Or.inl ⟨by omega, rfl, by omega⟩) | exact Or.inr (Or.inr ⟨by omega, rfl, by omega⟩))
  · refine a_iconst A dX5_tell_13 ?_
    exact m_ireturn A T0 dX5_tell_14 (by first | exact Or.inl ⟨rfl, by omega, rfl⟩ | exact Or.inr (Or.inl ⟨by omega, rfl, by omega⟩) | exact Or.inr (Or.inr ⟨by omega, rfl, by omega⟩))
set_option maxRecDepth 100000 in
set_option maxHeartbeats 4000000 in
theorem arr_loop5 {G : GG} {E : EE} {P : Int → MM → Prop} (A : AmM G E cX5_arrives 5 yX5_arrives.cls 1) (T0 : RT E G yX5_arrives 108 0 0 (some .long) (fun r rf' M' => rf' = rF ∧ ∃ z, r = some (vl z) ∧ P z M')) (v : Int) (M : MM) (hv : I32 v) (hL : 0 ≤ M 86 0 ∧ M 86 0 ≤ 10) (hP : 2 ≤ M 85 0 ∧ M 85 0 ≤ 5) (hW : ∀ i : Nat, (i : Int) < M 86 0 → LW M i) (hp : P (sumZ (arrF M v) (M 86 0).toNat) M) : ∀ (n : Nat) (i : Nat), (M 86 0).toNat - i < n → (i : Int) ≤ M 86 0 → AM G E 5 5 [.ref 84, vi v, vl (sumZ (arrF M v) i), jk, vi (i : Int)] [] M := by
  intro n
  induction n with
  | zero => intro i hn hi; exfalso; omega
  | succ n ih =>
    intro i hn hi
    have hl0 : (i : Int) < M 86 0 → LW M i := hW i
    unfold LW at hl0
    have hm0 : (i : Int) < M 86 0 → 1 ≤ M 94 i * M 91 i ∧ M 94 i * M 91 i ≤ 81 := fun q => mul_pos9 (by omega) (by omega)
    refine a_iload (z := (i : Int)) A dX5_arrives_5 rfl ?_
    refine a_aload_n (z := 84) A dX5_arrives_7 rfl ?_
    refine gf_X5_13 (r := 86) A dX5_arrives_8 rfl (by decide) rfl ?_
    refine a_iconst A dX5_arrives_11 ?_
    refine a_iaload (i := 0) (x := M 86 0) A dX5_arrives_12 rfl (by decide) (by decide) (by omega) rfl ?_
    refine a_icmp_ge (tgt := 78) A dX5_arrives_13 (by decide) (by omega) (by omega) (fun h13 => ?_) (fun h13 => ?_)
    · refine a_lload_n (z := (sumZ (arrF M v) i)) A dX5_arrives_78 rfl ?_
      exact m_lreturn A T0 dX5_arrives_79 (by rw [show (M 86 0).toNat = i by omega] at hp; exact hp)
    · refine a_lload_n (z := (sumZ (arrF M v) i)) A dX5_arrives_16 rfl ?_
      refine a_aload_n (z := 84) A dX5_arrives_17 rfl ?_
      refine gf_X5_19 (r := 88) A dX5_arrives_18 rfl (by decide) rfl ?_
      refine a_iload (z := (i : Int)) A dX5_arrives_21 rfl ?_
      refine a_iaload (i := (i : Int)) (x := M 88 i) A dX5_arrives_23 rfl (by decide) (by decide) (by omega) rfl ?_
      refine a_iload_n (z := v) A dX5_arrives_24 rfl ?_
      refine a_icmp_ne (tgt := 69) A dX5_arrives_25 (by decide) (by omega) (by omega) (fun h25 => ?_) (fun h25 => ?_)
      · refine a_lconst0 A dX5_arrives_69 ?_
        refine a_ladd (x := (sumZ (arrF M v) i)) (y := 0) A dX5_arrives_70 ?_
        refine a_lstore_n (lv' := [.ref 84, vi v, vl ((sumZ (arrF M v) i) + 0), jk, vi (i : Int)]) A dX5_arrives_71 (by decide) rfl ?_
        refine a_iinc (z := (i : Int)) (lv' := [.ref 84, vi v, vl ((sumZ (arrF M v) i) + 0), jk, vi ((i : Int) + 1)]) A dX5_arrives_72 rfl (by decide) rfl ?_
        refine a_goto (tgt := 5) A dX5_arrives_75 (by decide) ?_
        rw [show ((sumZ (arrF M v) i) + 0) = sumZ (arrF M v) (i + 1) by simp [sumZ, arrF, h25]]
        exact ih (i + 1) (by omega) (by omega)
      · refine a_ldc2 A lk_X5_184 dX5_arrives_28 ?_
        refine a_aload_n (z := 84) A dX5_arrives_31 rfl ?_
        refine gf_X5_37 (r := 94) A dX5_arrives_32 rfl (by decide) rfl ?_
        refine a_iload (z := (i : Int)) A dX5_arrives_35 rfl ?_
        refine a_iaload (i := (i : Int)) (x := M 94 i) A dX5_arrives_37 rfl (by decide) (by decide) (by omega) rfl ?_
        refine a_aload_n (z := 84) A dX5_arrives_38 rfl ?_
        refine gf_X5_28 (r := 91) A dX5_arrives_39 rfl (by decide) rfl ?_
        refine a_iload (z := (i : Int)) A dX5_arrives_42 rfl ?_
        refine a_iaload (i := (i : Int)) (x := M 91 i) A dX5_arrives_44 rfl (by decide) (by decide) (by omega) rfl ?_
        refine a_imul (x := (M 94 i)) (y := (M 91 i)) A dX5_arrives_45 ?_
        refine a_i2l A dX5_arrives_46 (by omega) ?_
        refine a_ldiv A dX5_arrives_47 (by omega) (by omega) (by omega) ?_
        refine a_aload_n (z := 84) A dX5_arrives_48 rfl ?_
        refine gf_X5_34 (r := 93) A dX5_arrives_49 rfl (by decide) rfl ?_
        refine a_iload (z := (i : Int)) A dX5_arrives_52 rfl ?_
        refine a_iaload (i := (i : Int)) (x := M 93 i) A dX5_arrives_54 rfl (by decide) (by decide) (by omega) rfl ?_
        refine a_i2l A dX5_arrives_55 (by omega) ?_
        refine a_lmul (x := ((6350400 : Int).tdiv ((M 94 i) * (M 91 i)))) (y := (M 93 i)) A dX5_arrives_56 ?_
        refine a_aload_n (z := 84) A dX5_arrives_57 rfl ?_
        refine gf_X5_25 (r := 90) A dX5_arrives_58 rfl (by decide) rfl ?_
        refine a_iload (z := (i : Int)) A dX5_arrives_61 rfl ?_
        refine a_iaload (i := (i : Int)) (x := M 90 i) A dX5_arrives_63 rfl (by decide) (by decide) (by omega) rfl ?_
        refine a_i2l A dX5_arrives_64 (by omega) ?_
        refine a_lmul (x := (((6350400 : Int).tdiv ((M 94 i) * (M 91 i))) * (M 93 i))) (y := (M 90 i)) A dX5_arrives_65 ?_
        refine a_goto (tgt := 70) A dX5_arrives_66 (by decide) ?_
        refine a_ladd (x := (sumZ (arrF M v) i)) (y := ((((6350400 : Int).tdiv ((M 94 i) * (M 91 i))) * (M 93 i)) * (M 90 i))) A dX5_arrives_70 ?_
        refine a_lstore_n (lv' := [.ref 84, vi v, vl ((sumZ (arrF M v) i) + ((((6350400 : Int).tdiv ((M 94 i) * (M 91 i))) * (M 93 i)) * (M 90 i))), jk, vi (i : Int)]) A dX5_arrives_71 (by decide) rfl ?_
        refine a_iinc (z := (i : Int)) (lv' := [.ref 84, vi v, vl ((sumZ (arrF M v) i) + ((((6350400 : Int).tdiv ((M 94 i) * (M 91 i))) * (M 93 i)) * (M 90 i))), jk, vi ((i : Int) + 1)]) A dX5_arrives_72 rfl (by decide) rfl ?_
        refine a_goto (tgt := 5) A dX5_arrives_75 (by decide) ?_
        rw [show ((sumZ (arrF M v) i) + ((((6350400 : Int).tdiv ((M 94 i) * (M 91 i))) * (M 93 i)) * (M 90 i))) = sumZ (arrF M v) (i + 1) by simp [sumZ, arrF, h25]]
        exact ih (i + 1) (by omega) (by omega)
set_option maxRecDepth 100000 in
set_option maxHeartbeats 4000000 in
theorem lev_loop5 {G : GG} {E : EE} {P : Int → MM → Prop} (A : AmM G E cX5_leaves 5 yX5_leaves.cls 1) (T0 : RT E G yX5_leaves 108 0 0 (some .long) (fun r rf' M' => rf' = rF ∧ ∃ z, r = some (vl z) ∧ P z M')) (v : Int) (M : MM) (hv : I32 v) (hL : 0 ≤ M 86 0 ∧ M 86 0 ≤ 10) (hP : 2 ≤ M 85 0 ∧ M 85 0 ≤ 5) (hW : ∀ i : Nat, (i : Int) < M 86 0 → LW M i) (hp : P (sumZ (levF M v) (M 86 0).toNat) M) : ∀ (n : Nat) (i : Nat), (M 86 0).toNat - i < n → (i : Int) ≤ M 86 0 → AM G E 5 5 [.ref 84, vi v, vl (sumZ (levF M v) i), jk, vi (i : Int)] [] M := by
  intro n
  induction n with
  | zero => intro i hn hi; exfalso; omega
  | succ n ih =>
    intro i hn hi
    have hl0 : (i : Int) < M 86 0 → LW M i := hW i
    unfold LW at hl0
    refine a_iload (z := (i : Int)) A dX5_leaves_5 rfl ?_
    refine a_aload_n (z := 84) A dX5_leaves_7 rfl ?_
    refine gf_X5_13 (r := 86) A dX5_leaves_8 rfl (by decide) rfl ?_
    refine a_iconst A dX5_leaves_11 ?_
    refine a_iaload (i := 0) (x := M 86 0) A dX5_leaves_12 rfl (by decide) (by decide) (by omega) rfl ?_
    refine a_icmp_ge (tgt := 61) A dX5_leaves_13 (by decide) (by omega) (by omega) (fun h13 => ?_) (fun h13 => ?_)
    · refine a_lload_n (z := (sumZ (levF M v) i)) A dX5_leaves_61 rfl ?_
      exact m_lreturn A T0 dX5_leaves_62 (by rw [show (M 86 0).toNat = i by omega] at hp; exact hp)
    · refine a_lload_n (z := (sumZ (levF M v) i)) A dX5_leaves_16 rfl ?_
      refine a_aload_n (z := 84) A dX5_leaves_17 rfl ?_
      refine gf_X5_16 (r := 87) A dX5_leaves_18 rfl (by decide) rfl ?_
      refine a_iload (z := (i : Int)) A dX5_leaves_21 rfl ?_
      refine a_iaload (i := (i : Int)) (x := M 87 i) A dX5_leaves_23 rfl (by decide) (by decide) (by omega) rfl ?_
      refine a_iload_n (z := v) A dX5_leaves_24 rfl ?_
      refine a_icmp_ne (tgt := 52) A dX5_leaves_25 (by decide) (by omega) (by omega) (fun h25 => ?_) (fun h25 => ?_)
      · refine a_lconst0 A dX5_leaves_52 ?_
        refine a_ladd (x := (sumZ (levF M v) i)) (y := 0) A dX5_leaves_53 ?_
        refine a_lstore_n (lv' := [.ref 84, vi v, vl ((sumZ (levF M v) i) + 0), jk, vi (i : Int)]) A dX5_leaves_54 (by decide) rfl ?_
        refine a_iinc (z := (i : Int)) (lv' := [.ref 84, vi v, vl ((sumZ (levF M v) i) + 0), jk, vi ((i : Int) + 1)]) A dX5_leaves_55 rfl (by decide) rfl ?_
        refine a_goto (tgt := 5) A dX5_leaves_58 (by decide) ?_
        rw [show ((sumZ (levF M v) i) + 0) = sumZ (levF M v) (i + 1) by simp [sumZ, levF, h25]]
        exact ih (i + 1) (by omega) (by omega)
      · refine a_ldc2 A lk_X5_184 dX5_leaves_28 ?_
        refine a_aload_n (z := 84) A dX5_leaves_31 rfl ?_
        refine gf_X5_37 (r := 94) A dX5_leaves_32 rfl (by decide) rfl ?_
        refine a_iload (z := (i : Int)) A dX5_leaves_35 rfl ?_
        refine a_iaload (i := (i : Int)) (x := M 94 i) A dX5_leaves_37 rfl (by decide) (by decide) (by omega) rfl ?_
        refine a_i2l A dX5_leaves_38 (by omega) ?_
        refine a_ldiv A dX5_leaves_39 (by omega) (by omega) (by omega) ?_
        refine a_aload_n (z := 84) A dX5_leaves_40 rfl ?_
        refine gf_X5_34 (r := 93) A dX5_leaves_41 rfl (by decide) rfl ?_
        refine a_iload (z := (i : Int)) A dX5_leaves_44 rfl ?_
        refine a_iaload (i := (i : Int)) (x := M 93 i) A dX5_leaves_46 rfl (by decide) (by decide) (by omega) rfl ?_
        refine a_i2l A dX5_leaves_47 (by omega) ?_
        refine a_lmul (x := ((6350400 : Int).tdiv (M 94 i))) (y := (M 93 i)) A dX5_leaves_48 ?_
        refine a_goto (tgt := 53) A dX5_leaves_49 (by decide) ?_
        refine a_ladd (x := (sumZ (levF M v) i)) (y := (((6350400 : Int).tdiv (M 94 i)) * (M 93 i))) A dX5_leaves_53 ?_
        refine a_lstore_n (lv' := [.ref 84, vi v, vl ((sumZ (levF M v) i) + (((6350400 : Int).tdiv (M 94 i)) * (M 93 i))), jk, vi (i : Int)]) A dX5_leaves_54 (by decide) rfl ?_
        refine a_iinc (z := (i : Int)) (lv' := [.ref 84, vi v, vl ((sumZ (levF M v) i) + (((6350400 : Int).tdiv (M 94 i)) * (M 93 i))), jk, vi ((i : Int) + 1)]) A dX5_leaves_55 rfl (by decide) rfl ?_
        refine a_goto (tgt := 5) A dX5_leaves_58 (by decide) ?_
        rw [show ((sumZ (levF M v) i) + (((6350400 : Int).tdiv (M 94 i)) * (M 93 i))) = sumZ (levF M v) (i + 1) by simp [sumZ, levF, h25]]
        exact ih (i + 1) (by omega) (by omega)
set_option maxRecDepth 100000 in
set_option maxHeartbeats 4000000 in
theorem c_X5_arrives (G : GG) (l : Launch) (v : Int) (M : MM) (hv : I32 v) (hL : 0 ≤ M 86 0 ∧ M 86 0 ≤ 10) (hP : 2 ≤ M 85 0 ∧ M 85 0 ≤ 5) (hW : ∀ i : Nat, (i : Int) < M 86 0 → LW M i) : CMl G l yX5_arrives cX5_arrives 5 (some .long) 1 [.ref 84, vi v] M (fun z M' => M' = M ∧ z = sumZ (arrF M v) (M 86 0).toNat) := by
  refine CT.intro (by decide) (Nat.le_of_ble_eq_true rfl) (fun E hE A T0 => ?_)
  subst hE
  refine a_lconst0 A dX5_arrives_0 ?_
  refine a_lstore_n (lv' := [.ref 84, vi v, vl 0, jk, jk]) A dX5_arrives_1 (by decide) rfl ?_
  refine a_iconst A dX5_arrives_2 ?_
  refine a_istore (lv' := [.ref 84, vi v, vl 0, jk, vi 0]) A dX5_arrives_3 (by decide) rfl ?_
  exact arr_loop5 A T0 v M hv hL hP hW ⟨rfl, rfl⟩ ((M 86 0).toNat + 1) 0 (by omega) (by omega)
set_option maxRecDepth 100000 in
set_option maxHeartbeats 4000000 in
theorem c_X5_leaves (G : GG) (l : Launch) (v : Int) (M : MM) (hv : I32 v) (hL : 0 ≤ M 86 0 ∧ M 86 0 ≤ 10) (hP : 2 ≤ M 85 0 ∧ M 85 0 ≤ 5) (hW : ∀ i : Nat, (i : Int) < M 86 0 → LW M i) : CMl G l yX5_leaves cX5_leaves 5 (some .long) 1 [.ref 84, vi v] M (fun z M' => M' = M ∧ z = sumZ (levF M v) (M 86 0).toNat) := by
  refine CT.intro (by decide) (Nat.le_of_ble_eq_true rfl) (fun E hE A T0 => ?_)
  subst hE
  refine a_lconst0 A dX5_leaves_0 ?_
  refine a_lstore_n (lv' := [.ref 84, vi v, vl 0, jk, jk]) A dX5_leaves_1 (by decide) rfl ?_
  refine a_iconst A dX5_leaves_2 ?_
  refine a_istore (lv' := [.ref 84, vi v, vl 0, jk, vi 0]) A dX5_leaves_3 (by decide) rfl ?_
  exact lev_loop5 A T0 v M hv hL hP hW ⟨rfl, rfl⟩ ((M 86 0).toNat + 1) 0 (by omega) (by omega)
