set_option maxRecDepth 100000 in
set_option maxHeartbeats 4000000 in
theorem fw_loop5 {G : GG} {E : EE} {P : MM → Prop} (A : AmM G E cX5_findWorth 10 yX5_findWorth.cls 3) (T0 : RT E G yX5_findWorth 108 0 0 none (fun r rf' M' => rf' = rF ∧ r = none ∧ P M')) (M : MM) (Q : Int) (hw : WM M) (hc : CHK M) (hq : PRQ M Q) (hp : P (w2 M (nU (sumZ (wT M Q) (M 86 0).toNat) (2520 * Q)) (nD (sumZ (wT M Q) (M 86 0).toNat) (2520 * Q)))) : ∀ (n : Nat) (i : Nat) (x y : Int) (w6 w8 : Value), (M 86 0).toNat - i < n → (i : Int) ≤ M 86 0 → AM G E 10 7 [.ref 84, vl (nU (sumZ (wT M Q) i) (2520 * Q)), jk, vl (nD (sumZ (wT M Q) i) (2520 * Q)), jk, vi (i : Int), w6, jk, w8, jk] [] (w2 M x y) := by
  intro n
  induction n with
  | zero => intro i x y w6 w8 hn hi; exfalso; omega
  | succ n ih =>
    intro i x y w6 w8 hn hi
    have hP := hw.1
    have hL := hw.2.1
    have hl0 : (i : Int) < M 86 0 → LW M i := hw.2.2 i
    unfold LW at hl0
    have hk0 : (i : Int) < M 86 0 → 0 ≤ M 99 i ∧ M 99 i ≤ 17 ∧ 1 ≤ M 100 i ∧ M 100 i ≤ 9 ∧ 0 ≤ M 101 i ∧ M 101 i ≤ 100 := hc.2 i
    have hpt : (i : Int) < M 86 0 → 0 ≤ M 103 (M 88 i).toNat ∧ M 103 (M 88 i).toNat ≤ 4913 ∧ 1 ≤ M 104 (M 88 i).toNat ∧ M 104 (M 88 i).toNat ≤ 4913 ∧ M 104 (M 88 i).toNat ∣ Q := fun q => hq.2 _ (by have := hl0 q; omega)
    have hpf : (i : Int) < M 86 0 → 0 ≤ M 103 (M 87 i).toNat ∧ M 103 (M 87 i).toNat ≤ 4913 ∧ 1 ≤ M 104 (M 87 i).toNat ∧ M 104 (M 87 i).toNat ≤ 4913 ∧ M 104 (M 87 i).toNat ∣ Q := fun q => hq.2 _ (by have := hl0 q; omega)
    have y1 : (i : Int) < M 86 0 → 0 ≤ M 99 i * M 103 (M 88 i).toNat * M 104 (M 87 i).toNat ∧ M 99 i * M 103 (M 88 i).toNat * M 104 (M 87 i).toNat ≤ 17 * 4913 * 4913 := fun q => mul_bd (mul_bd (by have := hk0 q; omega) (by have := hpt q; omega)) (by have := hpf q; omega)
    have y2 : (i : Int) < M 86 0 → 0 ≤ M 103 (M 87 i).toNat * M 100 i * M 104 (M 88 i).toNat ∧ M 103 (M 87 i).toNat * M 100 i * M 104 (M 88 i).toNat ≤ 4913 * 9 * 4913 := fun q => mul_bd (mul_bd (by have := hpf q; omega) (by have := hk0 q; omega)) (by have := hpt q; omega)
    have hwc : (i : Int) < M 86 0 → _ := fun q => wT_c (i := i) hq (by have := hl0 q; omega) (by have := hl0 q; omega) (by have := hk0 q; omega) (by have := hk0 q; omega) (by have := hk0 q; omega)
    have hQ := hq.1
    have hden : (i : Int) < M 86 0 → 1 ≤ ((M 100 i * M 104 (M 88 i).toNat) * M 104 (M 87 i).toNat) ∧ ((M 100 i * M 104 (M 88 i).toNat) * M 104 (M 87 i).toNat) ≤ 9 * 4913 * 4913 := fun q => by
      have a1 := mul_bd (mul_bd (a := M 100 i) (b := M 104 (M 88 i).toNat) (A := 9) (B := 4913) (by have := hk0 q; omega) (by have := hpt q; omega)) (b := M 104 (M 87 i).toNat) (B := 4913) (by have := hpf q; omega)
      have a2 := Int.mul_pos (Int.mul_pos (a := M 100 i) (b := M 104 (M 88 i).toNat) (by have := hk0 q; omega) (by have := hpt q; omega)) (b := M 104 (M 87 i).toNat) (by have := hpf q; omega)
      omega
    have hcr : (i : Int) < M 86 0 → 0 < (((M 99 i * M 103 (M 88 i).toNat) * M 104 (M 87 i).toNat) - ((M 103 (M 87 i).toNat * M 100 i) * M 104 (M 88 i).toNat)) → 0 ≤ (((M 99 i * M 103 (M 88 i).toNat) * M 104 (M 87 i).toNat) - ((M 103 (M 87 i).toNat * M 100 i) * M 104 (M 88 i).toNat)) * M 101 i ∧ (((M 99 i * M 103 (M 88 i).toNat) * M 104 (M 87 i).toNat) - ((M 103 (M 87 i).toNat * M 100 i) * M 104 (M 88 i).toNat)) * M 101 i ≤ 17 * 4913 * 4913 * 100 := fun q q2 => mul_bd ⟨by omega, by have := y1 q; have := y2 q; omega⟩ (by have := hk0 q; omega)
    refine a_iload (z := (i : Int)) A dX5_findWorth_7 rfl ?_
    refine a_aload_n (z := 84) A dX5_findWorth_9 rfl ?_
    refine gf_X5_13 (r := 86) A dX5_findWorth_10 rfl (by decide) rfl ?_
    refine a_iconst A dX5_findWorth_13 ?_
    refine a_iaload (i := 0) (x := M 86 0) A dX5_findWorth_14 rfl (by decide) (by decide) (by omega) rfl ?_
    refine a_icmp_ge (tgt := 216) A dX5_findWorth_15 (by decide) (by omega) (by omega) (fun h15 => ?_) (fun h15 => ?_)
    · refine a_aload_n (z := 84) A dX5_findWorth_216 rfl ?_
      refine a_lload_n (z := (nU (sumZ (wT M Q) i) (2520 * Q))) A dX5_findWorth_217 rfl ?_
      refine pf_X5_104 A dX5_findWorth_218 rfl (by decide) ?_
      refine a_aload_n (z := 84) A dX5_findWorth_221 rfl ?_
      refine a_lload_n (z := (nD (sumZ (wT M Q) i) (2520 * Q))) A dX5_findWorth_222 rfl ?_
      refine pf_X5_108 A dX5_findWorth_223 rfl (by decide) ?_
      exact m_return A T0 dX5_findWorth_226 (by rw [w2_w2]; rw [show (M 86 0).toNat = i by omega] at hp; exact hp)
    · refine a_aload_n (z := 84) A dX5_findWorth_18 rfl ?_
      refine gf_X5_53 (r := 99) A dX5_findWorth_19 rfl (by decide) rfl ?_
      refine a_iload (z := (i : Int)) A dX5_findWorth_22 rfl ?_
      refine a_iaload (i := (i : Int)) (x := M 99 i) A dX5_findWorth_24 rfl (by decide) (by decide) (by omega) rfl ?_
      refine a_i2l A dX5_findWorth_25 (by omega) ?_
      refine a_aload_n (z := 84) A dX5_findWorth_26 rfl ?_
      refine gf_X5_65 (r := 103) A dX5_findWorth_27 rfl (by decide) rfl ?_
      refine a_aload_n (z := 84) A dX5_findWorth_30 rfl ?_
      refine gf_X5_19 (r := 88) A dX5_findWorth_31 rfl (by decide) rfl ?_
      refine a_iload (z := (i : Int)) A dX5_findWorth_34 rfl ?_
      refine a_iaload (i := (i : Int)) (x := M 88 i) A dX5_findWorth_36 rfl (by decide) (by decide) (by omega) rfl ?_
      refine a_laload (i := (M 88 i)) (x := M 103 ((M 88 i).toNat)) A dX5_findWorth_37 rfl (by decide) (by decide) (by omega) rfl ?_
      refine a_lmul (x := (M 99 i)) (y := (M 103 ((M 88 i).toNat))) A dX5_findWorth_38 ?_
      refine a_aload_n (z := 84) A dX5_findWorth_39 rfl ?_
      refine gf_X5_68 (r := 104) A dX5_findWorth_40 rfl (by decide) rfl ?_
      refine a_aload_n (z := 84) A dX5_findWorth_43 rfl ?_
      refine gf_X5_16 (r := 87) A dX5_findWorth_44 rfl (by decide) rfl ?_
      refine a_iload (z := (i : Int)) A dX5_findWorth_47 rfl ?_
      refine a_iaload (i := (i : Int)) (x := M 87 i) A dX5_findWorth_49 rfl (by decide) (by decide) (by omega) rfl ?_
      refine a_laload (i := (M 87 i)) (x := M 104 ((M 87 i).toNat)) A dX5_findWorth_50 rfl (by decide) (by decide) (by omega) rfl ?_
      refine a_lmul (x := ((M 99 i) * (M 103 ((M 88 i).toNat)))) (y := (M 104 ((M 87 i).toNat))) A dX5_findWorth_51 ?_
      refine a_aload_n (z := 84) A dX5_findWorth_52 rfl ?_
      refine gf_X5_65 (r := 103) A dX5_findWorth_53 rfl (by decide) rfl ?_
      refine a_aload_n (z := 84) A dX5_findWorth_56 rfl ?_
      refine gf_X5_16 (r := 87) A dX5_findWorth_57 rfl (by decide) rfl ?_
      refine a_iload (z := (i : Int)) A dX5_findWorth_60 rfl ?_
      refine a_iaload (i := (i : Int)) (x := M 87 i) A dX5_findWorth_62 rfl (by decide) (by decide) (by omega) rfl ?_
      refine a_laload (i := (M 87 i)) (x := M 103 ((M 87 i).toNat)) A dX5_findWorth_63 rfl (by decide) (by decide) (by omega) rfl ?_
      refine a_aload_n (z := 84) A dX5_findWorth_64 rfl ?_
      refine gf_X5_56 (r := 100) A dX5_findWorth_65 rfl (by decide) rfl ?_
      refine a_iload (z := (i : Int)) A dX5_findWorth_68 rfl ?_
      refine a_iaload (i := (i : Int)) (x := M 100 i) A dX5_findWorth_70 rfl (by decide) (by decide) (by omega) rfl ?_
      refine a_i2l A dX5_findWorth_71 (by omega) ?_
      refine a_lmul (x := (M 103 ((M 87 i).toNat))) (y := (M 100 i)) A dX5_findWorth_72 ?_
      refine a_aload_n (z := 84) A dX5_findWorth_73 rfl ?_
      refine gf_X5_68 (r := 104) A dX5_findWorth_74 rfl (by decide) rfl ?_
      refine a_aload_n (z := 84) A dX5_findWorth_77 rfl ?_
      refine gf_X5_19 (r := 88) A dX5_findWorth_78 rfl (by decide) rfl ?_
      refine a_iload (z := (i : Int)) A dX5_findWorth_81 rfl ?_
      refine a_iaload (i := (i : Int)) (x := M 88 i) A dX5_findWorth_83 rfl (by decide) (by decide) (by omega) rfl ?_
      refine a_laload (i := (M 88 i)) (x := M 104 ((M 88 i).toNat)) A dX5_findWorth_84 rfl (by decide) (by decide) (by omega) rfl ?_
      refine a_lmul (x := ((M 103 ((M 87 i).toNat)) * (M 100 i))) (y := (M 104 ((M 88 i).toNat))) A dX5_findWorth_85 ?_
      refine a_lsub (x := (((M 99 i) * (M 103 ((M 88 i).toNat))) * (M 104 ((M 87 i).toNat)))) (y := (((M 103 ((M 87 i).toNat)) * (M 100 i)) * (M 104 ((M 88 i).toNat)))) A dX5_findWorth_86 ?_
      refine a_lstore (lv' := [.ref 84, vl (nU (sumZ (wT M Q) i) (2520 * Q)), jk, vl (nD (sumZ (wT M Q) i) (2520 * Q)), jk, vi (i : Int), vl ((((M 99 i) * (M 103 ((M 88 i).toNat))) * (M 104 ((M 87 i).toNat))) - (((M 103 ((M 87 i).toNat)) * (M 100 i)) * (M 104 ((M 88 i).toNat)))), jk, w8, jk]) A dX5_findWorth_87 (by decide) rfl ?_
      refine a_lload (z := ((((M 99 i) * (M 103 ((M 88 i).toNat))) * (M 104 ((M 87 i).toNat))) - (((M 103 ((M 87 i).toNat)) * (M 100 i)) * (M 104 ((M 88 i).toNat))))) A dX5_findWorth_89 rfl ?_
      refine a_lconst0 A dX5_findWorth_91 ?_
      refine a_lcmp_le (tgt := 210) A dX5_findWorth_92 dX5_findWorth_93 (by decide) (by have := y1 (by omega); have := y2 (by omega); omega) (by omega) (fun h92 => ?_) (fun h92 => ?_)
      · refine a_iinc (z := (i : Int)) (lv' := [.ref 84, vl (nU (sumZ (wT M Q) i) (2520 * Q)), jk, vl (nD (sumZ (wT M Q) i) (2520 * Q)), jk, vi ((i : Int) + 1), vl ((((M 99 i) * (M 103 ((M 88 i).toNat))) * (M 104 ((M 87 i).toNat))) - (((M 103 ((M 87 i).toNat)) * (M 100 i)) * (M 104 ((M 88 i).toNat)))), jk, w8, jk]) A dX5_findWorth_210 rfl (by decide) rfl ?_
        refine a_goto (tgt := 7) A dX5_findWorth_213 (by decide) ?_
        have hz := (hwc (by omega)).2.2.1 (by omega)
        have hs : (sumZ (wT M Q) (i + 1)) = (sumZ (wT M Q) i) := by show (sumZ (wT M Q) i) + wT M Q i = (sumZ (wT M Q) i); rw [hz]; omega
        have := ih (i + 1) x y (vl (((M 99 i * M 103 (M 88 i).toNat) * M 104 (M 87 i).toNat) - ((M 103 (M 87 i).toNat * M 100 i) * M 104 (M 88 i).toNat))) w8 (by omega) (by omega)
        rw [hs] at this
        exact this
      · refine a_aload_n (z := 84) A dX5_findWorth_96 rfl ?_
        refine gf_X5_59 (r := 101) A dX5_findWorth_97 rfl (by decide) rfl ?_
        refine a_iload (z := (i : Int)) A dX5_findWorth_100 rfl ?_
        refine a_iaload (i := (i : Int)) (x := M 101 i) A dX5_findWorth_102 rfl (by decide) (by decide) (by omega) rfl ?_
        refine a_if_ne (tgt := 109) A dX5_findWorth_103 (by decide) (by omega) (fun h103 => ?_) (fun h103 => ?_)
        · refine a_aload_n (z := 84) A dX5_findWorth_109 rfl ?_
          refine a_lload (z := ((((M 99 i) * (M 103 ((M 88 i).toNat))) * (M 104 ((M 87 i).toNat))) - (((M 103 ((M 87 i).toNat)) * (M 100 i)) * (M 104 ((M 88 i).toNat))))) A dX5_findWorth_110 rfl ?_
          refine a_aload_n (z := 84) A dX5_findWorth_112 rfl ?_
          refine gf_X5_59 (r := 101) A dX5_findWorth_113 rfl (by decide) rfl ?_
          refine a_iload (z := (i : Int)) A dX5_findWorth_116 rfl ?_
          refine a_iaload (i := (i : Int)) (x := M 101 i) A dX5_findWorth_118 rfl (by decide) (by decide) (by omega) rfl ?_
          refine a_i2l A dX5_findWorth_119 (by omega) ?_
          refine a_lmul (x := ((((M 99 i) * (M 103 ((M 88 i).toNat))) * (M 104 ((M 87 i).toNat))) - (((M 103 ((M 87 i).toNat)) * (M 100 i)) * (M 104 ((M 88 i).toNat))))) (y := (M 101 i)) A dX5_findWorth_120 ?_
          refine a_aload_n (z := 84) A dX5_findWorth_121 rfl ?_
          refine gf_X5_56 (r := 100) A dX5_findWorth_122 rfl (by decide) rfl ?_
          refine a_iload (z := (i : Int)) A dX5_findWorth_125 rfl ?_
          refine a_iaload (i := (i : Int)) (x := M 100 i) A dX5_findWorth_127 rfl (by decide) (by decide) (by omega) rfl ?_
          refine a_i2l A dX5_findWorth_128 (by omega) ?_
          refine a_aload_n (z := 84) A dX5_findWorth_129 rfl ?_
          refine gf_X5_68 (r := 104) A dX5_findWorth_130 rfl (by decide) rfl ?_
          refine a_aload_n (z := 84) A dX5_findWorth_133 rfl ?_
          refine gf_X5_19 (r := 88) A dX5_findWorth_134 rfl (by decide) rfl ?_
          refine a_iload (z := (i : Int)) A dX5_findWorth_137 rfl ?_
          refine a_iaload (i := (i : Int)) (x := M 88 i) A dX5_findWorth_139 rfl (by decide) (by decide) (by omega) rfl ?_
          refine a_laload (i := (M 88 i)) (x := M 104 ((M 88 i).toNat)) A dX5_findWorth_140 rfl (by decide) (by decide) (by omega) rfl ?_
          refine a_lmul (x := (M 100 i)) (y := (M 104 ((M 88 i).toNat))) A dX5_findWorth_141 ?_
          refine a_aload_n (z := 84) A dX5_findWorth_142 rfl ?_
          refine gf_X5_68 (r := 104) A dX5_findWorth_143 rfl (by decide) rfl ?_
          refine a_aload_n (z := 84) A dX5_findWorth_146 rfl ?_
          refine gf_X5_16 (r := 87) A dX5_findWorth_147 rfl (by decide) rfl ?_
          refine a_iload (z := (i : Int)) A dX5_findWorth_150 rfl ?_
          refine a_iaload (i := (i : Int)) (x := M 87 i) A dX5_findWorth_152 rfl (by decide) (by decide) (by omega) rfl ?_
          refine a_laload (i := (M 87 i)) (x := M 104 ((M 87 i).toNat)) A dX5_findWorth_153 rfl (by decide) (by decide) (by omega) rfl ?_
          refine a_lmul (x := ((M 100 i) * (M 104 ((M 88 i).toNat)))) (y := (M 104 ((M 87 i).toNat))) A dX5_findWorth_154 ?_
          refine m_invVv A (c_X5_put G _ (((((M 99 i) * (M 103 ((M 88 i).toNat))) * (M 104 ((M 87 i).toNat))) - (((M 103 ((M 87 i).toNat)) * (M 100 i)) * (M 104 ((M 88 i).toNat)))) * (M 101 i)) (((M 100 i) * (M 104 ((M 88 i).toNat))) * (M 104 ((M 87 i).toNat))) (w2 M x y) (by have := hcr (by omega) h92; omega) (by have := hden (by omega); omega)) (by decide) mi_X5_put mv_X5_put cs_X5_100 cf5 dX5_findWorth_155 rfl (by decide) rfl rfl (Nat.le_of_ble_eq_true rfl) (fun M155 h155 => ?_)
          have h155 := h155.symm
          subst h155
          have hD : 0 < (2520 * Q) := by omega
          have hS := sumZ_bd (f := wT M Q) (c := 103407943176000) (n := i) (by omega) (fun j hj => (wT_c (i := j) hq (by have := hw.2.2 j (by omega); unfold LW at this; omega) (by have := hw.2.2 j (by omega); unfold LW at this; omega) (by have := hc.2 j (by omega); omega) (by have := hc.2 j (by omega); omega) (by have := hc.2 j (by omega); omega)).2.1)
          have hN := nUD_eq (a := (((M 99 i * M 103 (M 88 i).toNat) * M 104 (M 87 i).toNat) - ((M 103 (M 87 i).toNat * M 100 i) * M 104 (M 88 i).toNat)) * M 101 i) (b := ((M 100 i * M 104 (M 88 i).toNat) * M 104 (M 87 i).toNat)) (c := wT M Q i) (d := (2520 * Q)) (by omega) hD ((hwc (by omega)).2.2.2 h92)
          rw [w2_w2, hN.1, hN.2]
          have hfa := fr_add (S := (sumZ (wT M Q) i)) (N := wT M Q i) hD rfl rfl rfl rfl rfl
          have hb1 := nD_bd (a := (sumZ (wT M Q) i)) hD
          have hb2 := nD_bd (a := wT M Q i) hD
          have hg1 := gcd_pos (a := (nD (sumZ (wT M Q) i) (2520 * Q))) hb2.1
          have hwb := (hwc (by omega)).2.1
          have hX : 0 ≤ (((nU (sumZ (wT M Q) i) (2520 * Q)) * ((nD (wT M Q i) (2520 * Q)).tdiv (Int.gcd (nD (sumZ (wT M Q) i) (2520 * Q)) (nD (wT M Q i) (2520 * Q)) : Int))) + ((nU (wT M Q i) (2520 * Q)) * ((nD (sumZ (wT M Q) i) (2520 * Q)).tdiv (Int.gcd (nD (sumZ (wT M Q) i) (2520 * Q)) (nD (wT M Q i) (2520 * Q)) : Int)))) ∧ (((nU (sumZ (wT M Q) i) (2520 * Q)) * ((nD (wT M Q i) (2520 * Q)).tdiv (Int.gcd (nD (sumZ (wT M Q) i) (2520 * Q)) (nD (wT M Q i) (2520 * Q)) : Int))) + ((nU (wT M Q i) (2520 * Q)) * ((nD (sumZ (wT M Q) i) (2520 * Q)).tdiv (Int.gcd (nD (sumZ (wT M Q) i) (2520 * Q)) (nD (wT M Q i) (2520 * Q)) : Int)))) ≤ (sumZ (wT M Q) i) + wT M Q i := by
            have e := hfa.2.2
            generalize (((nU (sumZ (wT M Q) i) (2520 * Q)) * ((nD (wT M Q i) (2520 * Q)).tdiv (Int.gcd (nD (sumZ (wT M Q) i) (2520 * Q)) (nD (wT M Q i) (2520 * Q)) : Int))) + ((nU (wT M Q i) (2520 * Q)) * ((nD (sumZ (wT M Q) i) (2520 * Q)).tdiv (Int.gcd (nD (sumZ (wT M Q) i) (2520 * Q)) (nD (wT M Q i) (2520 * Q)) : Int)))) = X at e ⊢
            generalize (((nD (sumZ (wT M Q) i) (2520 * Q)).tdiv (Int.gcd (nD (sumZ (wT M Q) i) (2520 * Q)) (nD (wT M Q i) (2520 * Q)) : Int)) * (nD (wT M Q i) (2520 * Q))) = Y at e hfa
            have s1 : 0 ≤ ((sumZ (wT M Q) i) + wT M Q i) * Y := Int.mul_nonneg (by omega) (by omega)
            have s2 : ((sumZ (wT M Q) i) + wT M Q i) * Y ≤ ((sumZ (wT M Q) i) + wT M Q i) * (2520 * Q) := Int.mul_le_mul_of_nonneg_left (by omega) (by omega)
            refine ⟨?_, Int.le_of_mul_le_mul_right (by omega) hD⟩
            rcases Int.lt_or_le X 0 with q | q
            · have := Int.mul_neg_of_neg_of_pos q hD; omega
            · exact q
          refine a_lload_n (z := (nD (sumZ (wT M Q) i) (2520 * Q))) A dX5_findWorth_158 rfl ?_
          refine a_aload_n (z := 84) A dX5_findWorth_159 rfl ?_
          refine gf_X5_108 (x := (nD (wT M Q i) (2520 * Q))) A dX5_findWorth_160 rfl (by decide) rfl ?_
          refine m_invSl A (c_X5_gcd G _ (nD (sumZ (wT M Q) i) (2520 * Q)) (nD (wT M Q i) (2520 * Q)) (w2 M (nU (wT M Q i) (2520 * Q)) (nD (wT M Q i) (2520 * Q))) (by omega) (by omega)) (by decide) mi_X5_gcd ms_X5_gcd cs_X5_111 dX5_findWorth_163 rfl rfl (Nat.le_of_ble_eq_true rfl) (fun z163 M163 h163 => ?_)
          obtain ⟨e163, rfl⟩ := h163
          have e163 := e163.symm
          subst e163
          refine a_lstore (lv' := [.ref 84, vl (nU (sumZ (wT M Q) i) (2520 * Q)), jk, vl (nD (sumZ (wT M Q) i) (2520 * Q)), jk, vi (i : Int), (vl (((M 99 i * M 103 (M 88 i).toNat) * M 104 (M 87 i).toNat) - ((M 103 (M 87 i).toNat * M 100 i) * M 104 (M 88 i).toNat))), jk, vl (Int.gcd (nD (sumZ (wT M Q) i) (2520 * Q)) (nD (wT M Q i) (2520 * Q)) : Int), jk]) A dX5_findWorth_166 (by decide) rfl ?_
          refine a_aload_n (z := 84) A dX5_findWorth_168 rfl ?_
          refine a_lload_n (z := (nU (sumZ (wT M Q) i) (2520 * Q))) A dX5_findWorth_169 rfl ?_
          refine a_aload_n (z := 84) A dX5_findWorth_170 rfl ?_
          refine gf_X5_108 (x := (nD (wT M Q i) (2520 * Q))) A dX5_findWorth_171 rfl (by decide) rfl ?_
          refine a_lload (z := (Int.gcd (nD (sumZ (wT M Q) i) (2520 * Q)) (nD (wT M Q i) (2520 * Q)) : Int)) A dX5_findWorth_174 rfl ?_
          refine a_ldiv A dX5_findWorth_176 (by omega) (by omega) (by omega) ?_
          refine a_lmul (x := (nU (sumZ (wT M Q) i) (2520 * Q))) (y := ((nD (wT M Q i) (2520 * Q)).tdiv (Int.gcd (nD (sumZ (wT M Q) i) (2520 * Q)) (nD (wT M Q i) (2520 * Q)) : Int))) A dX5_findWorth_177 ?_
          refine a_aload_n (z := 84) A dX5_findWorth_178 rfl ?_
          refine gf_X5_104 (x := (nU (wT M Q i) (2520 * Q))) A dX5_findWorth_179 rfl (by decide) rfl ?_
          refine a_lload_n (z := (nD (sumZ (wT M Q) i) (2520 * Q))) A dX5_findWorth_182 rfl ?_
          refine a_lload (z := (Int.gcd (nD (sumZ (wT M Q) i) (2520 * Q)) (nD (wT M Q i) (2520 * Q)) : Int)) A dX5_findWorth_183 rfl ?_
          refine a_ldiv A dX5_findWorth_185 (by omega) (by omega) (by omega) ?_
          refine a_lmul (x := (nU (wT M Q i) (2520 * Q))) (y := ((nD (sumZ (wT M Q) i) (2520 * Q)).tdiv (Int.gcd (nD (sumZ (wT M Q) i) (2520 * Q)) (nD (wT M Q i) (2520 * Q)) : Int))) A dX5_findWorth_186 ?_
          refine a_ladd (x := ((nU (sumZ (wT M Q) i) (2520 * Q)) * ((nD (wT M Q i) (2520 * Q)).tdiv (Int.gcd (nD (sumZ (wT M Q) i) (2520 * Q)) (nD (wT M Q i) (2520 * Q)) : Int)))) (y := ((nU (wT M Q i) (2520 * Q)) * ((nD (sumZ (wT M Q) i) (2520 * Q)).tdiv (Int.gcd (nD (sumZ (wT M Q) i) (2520 * Q)) (nD (wT M Q i) (2520 * Q)) : Int)))) A dX5_findWorth_187 ?_
          refine a_lload_n (z := (nD (sumZ (wT M Q) i) (2520 * Q))) A dX5_findWorth_188 rfl ?_
          refine a_lload (z := (Int.gcd (nD (sumZ (wT M Q) i) (2520 * Q)) (nD (wT M Q i) (2520 * Q)) : Int)) A dX5_findWorth_189 rfl ?_
          refine a_ldiv A dX5_findWorth_191 (by omega) (by omega) (by omega) ?_
          refine a_aload_n (z := 84) A dX5_findWorth_192 rfl ?_
          refine gf_X5_108 (x := (nD (wT M Q i) (2520 * Q))) A dX5_findWorth_193 rfl (by decide) rfl ?_
          refine a_lmul (x := ((nD (sumZ (wT M Q) i) (2520 * Q)).tdiv (Int.gcd (nD (sumZ (wT M Q) i) (2520 * Q)) (nD (wT M Q i) (2520 * Q)) : Int))) (y := (nD (wT M Q i) (2520 * Q))) A dX5_findWorth_196 ?_
          refine m_invVv A (c_X5_put G _ (((nU (sumZ (wT M Q) i) (2520 * Q)) * ((nD (wT M Q i) (2520 * Q)).tdiv (Int.gcd (nD (sumZ (wT M Q) i) (2520 * Q)) (nD (wT M Q i) (2520 * Q)) : Int))) + ((nU (wT M Q i) (2520 * Q)) * ((nD (sumZ (wT M Q) i) (2520 * Q)).tdiv (Int.gcd (nD (sumZ (wT M Q) i) (2520 * Q)) (nD (wT M Q i) (2520 * Q)) : Int)))) (((nD (sumZ (wT M Q) i) (2520 * Q)).tdiv (Int.gcd (nD (sumZ (wT M Q) i) (2520 * Q)) (nD (wT M Q i) (2520 * Q)) : Int)) * (nD (wT M Q i) (2520 * Q))) (w2 M (nU (wT M Q i) (2520 * Q)) (nD (wT M Q i) (2520 * Q))) (by omega) (by omega)) (by decide) mi_X5_put mv_X5_put cs_X5_100 cf5 dX5_findWorth_197 rfl (by decide) rfl rfl (Nat.le_of_ble_eq_true rfl) (fun M197 h197 => ?_)
          have h197 := h197.symm
          subst h197
          have hE := nUD_eq (a := (((nU (sumZ (wT M Q) i) (2520 * Q)) * ((nD (wT M Q i) (2520 * Q)).tdiv (Int.gcd (nD (sumZ (wT M Q) i) (2520 * Q)) (nD (wT M Q i) (2520 * Q)) : Int))) + ((nU (wT M Q i) (2520 * Q)) * ((nD (sumZ (wT M Q) i) (2520 * Q)).tdiv (Int.gcd (nD (sumZ (wT M Q) i) (2520 * Q)) (nD (wT M Q i) (2520 * Q)) : Int))))) (b := (((nD (sumZ (wT M Q) i) (2520 * Q)).tdiv (Int.gcd (nD (sumZ (wT M Q) i) (2520 * Q)) (nD (wT M Q i) (2520 * Q)) : Int)) * (nD (wT M Q i) (2520 * Q)))) (c := (sumZ (wT M Q) (i + 1))) (d := (2520 * Q)) hfa.1 hD (by rw [hfa.2.2]; rfl)
          rw [w2_w2, hE.1, hE.2]
          refine a_aload_n (z := 84) A dX5_findWorth_200 rfl ?_
          refine gf_X5_104 (x := (nU (sumZ (wT M Q) (i + 1)) (2520 * Q))) A dX5_findWorth_201 rfl (by decide) rfl ?_
          refine a_lstore_n (lv' := [.ref 84, vl (nU (sumZ (wT M Q) (i + 1)) (2520 * Q)), jk, vl (nD (sumZ (wT M Q) i) (2520 * Q)), jk, vi (i : Int), (vl (((M 99 i * M 103 (M 88 i).toNat) * M 104 (M 87 i).toNat) - ((M 103 (M 87 i).toNat * M 100 i) * M 104 (M 88 i).toNat))), jk, (vl (Int.gcd (nD (sumZ (wT M Q) i) (2520 * Q)) (nD (wT M Q i) (2520 * Q)) : Int)), jk]) A dX5_findWorth_204 (by decide) rfl ?_
          refine a_aload_n (z := 84) A dX5_findWorth_205 rfl ?_
          refine gf_X5_108 (x := (nD (sumZ (wT M Q) (i + 1)) (2520 * Q))) A dX5_findWorth_206 rfl (by decide) rfl ?_
          refine a_lstore_n (lv' := [.ref 84, vl (nU (sumZ (wT M Q) (i + 1)) (2520 * Q)), jk, vl (nD (sumZ (wT M Q) (i + 1)) (2520 * Q)), jk, vi (i : Int), (vl (((M 99 i * M 103 (M 88 i).toNat) * M 104 (M 87 i).toNat) - ((M 103 (M 87 i).toNat * M 100 i) * M 104 (M 88 i).toNat))), jk, (vl (Int.gcd (nD (sumZ (wT M Q) i) (2520 * Q)) (nD (wT M Q i) (2520 * Q)) : Int)), jk]) A dX5_findWorth_209 (by decide) rfl ?_
          refine a_iinc (z := (i : Int)) (lv' := [.ref 84, vl (nU (sumZ (wT M Q) (i + 1)) (2520 * Q)), jk, vl (nD (sumZ (wT M Q) (i + 1)) (2520 * Q)), jk, vi ((i : Int) + 1), (vl (((M 99 i * M 103 (M 88 i).toNat) * M 104 (M 87 i).toNat) - ((M 103 (M 87 i).toNat * M 100 i) * M 104 (M 88 i).toNat))), jk, (vl (Int.gcd (nD (sumZ (wT M Q) i) (2520 * Q)) (nD (wT M Q i) (2520 * Q)) : Int)), jk]) A dX5_findWorth_210 rfl (by decide) rfl ?_
          refine a_goto (tgt := 7) A dX5_findWorth_213 (by decide) ?_
          exact ih (i + 1) _ _ _ _ (by omega) (by omega)
        · refine a_goto (tgt := 210) A dX5_findWorth_106 (by decide) ?_
          refine a_iinc (z := (i : Int)) (lv' := [.ref 84, vl (nU (sumZ (wT M Q) i) (2520 * Q)), jk, vl (nD (sumZ (wT M Q) i) (2520 * Q)), jk, vi ((i : Int) + 1), vl ((((M 99 i) * (M 103 ((M 88 i).toNat))) * (M 104 ((M 87 i).toNat))) - (((M 103 ((M 87 i).toNat)) * (M 100 i)) * (M 104 ((M 88 i).toNat)))), jk, w8, jk]) A dX5_findWorth_210 rfl (by decide) rfl ?_
          refine a_goto (tgt := 7) A dX5_findWorth_213 (by decide) ?_
          have hz := (hwc (by omega)).2.2.1 (by omega)
          have hs : (sumZ (wT M Q) (i + 1)) = (sumZ (wT M Q) i) := by show (sumZ (wT M Q) i) + wT M Q i = (sumZ (wT M Q) i); rw [hz]; omega
          have := ih (i + 1) x y (vl (((M 99 i * M 103 (M 88 i).toNat) * M 104 (M 87 i).toNat) - ((M 103 (M 87 i).toNat * M 100 i) * M 104 (M 88 i).toNat))) w8 (by omega) (by omega)
          rw [hs] at this
          exact this
set_option maxRecDepth 100000 in
set_option maxHeartbeats 4000000 in
theorem c_X5_findWorth (G : GG) (l : Launch) (M : MM) (Q : Int) (hw : WM M) (hc : CHK M) (hq : PRQ M Q) : CMv G l yX5_findWorth cX5_findWorth 10 none 3 [.ref 84] M (fun M' => M' = w2 M (nU (sumZ (wT M Q) (M 86 0).toNat) (2520 * Q)) (nD (sumZ (wT M Q) (M 86 0).toNat) (2520 * Q))) := by
  refine CT.intro (by decide) (Nat.le_of_ble_eq_true rfl) (fun E hE A T0 => ?_)
  subst hE
  refine a_lconst0 A dX5_findWorth_0 ?_
  refine a_lstore_n (lv' := [.ref 84, vl 0, jk, jk, jk, jk, jk, jk, jk, jk]) A dX5_findWorth_1 (by decide) rfl ?_
  refine a_lconst1 A dX5_findWorth_2 ?_
  refine a_lstore_n (lv' := [.ref 84, vl 0, jk, vl 1, jk, jk, jk, jk, jk, jk]) A dX5_findWorth_3 (by decide) rfl ?_
  refine a_iconst A dX5_findWorth_4 ?_
  refine a_istore (lv' := [.ref 84, vl 0, jk, vl 1, jk, vi 0, jk, jk, jk, jk]) A dX5_findWorth_5 (by decide) rfl ?_
  have h0 := fw_loop5 A T0 M Q hw hc hq rfl ((M 86 0).toNat + 1) 0 (M 84 15) (M 84 16) jk jk (by omega) hw.2.1.1
  rw [w2_self] at h0
  have hQ := hq.1
  have e0 : nU (sumZ (wT M Q) 0) (2520 * Q) = 0 := by show (0 : Int).tdiv _ = 0; exact Int.zero_tdiv _
  have e1 : nD (sumZ (wT M Q) 0) (2520 * Q) = 1 := by
    show ((2520 * Q)).tdiv (Int.gcd 0 (2520 * Q) : Int) = 1
    rw [Int.gcd_zero_left, Int.ofNat_natAbs_of_nonneg (by omega)]
    exact Int.tdiv_self (by omega)
  rw [e0, e1] at h0
  exact h0
