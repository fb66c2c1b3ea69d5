/-- the other post of lane k at v -/
def otr (M : MM) (v : Int) (k : Nat) : Int := if M 87 k = v then M 88 k else M 87 k
def fpP (M : MM) (v : Nat) (a b : Int) : MM := up2 (up2 (up2 (up2 M 84 15 (nU a b)) 84 16 (nD a b)) 103 v (nU a b)) 104 v (nD a b)
def fpS (M : MM) (v : Nat) : Option MM :=
  if 0 < M 104 v then some M
  else if M 104 (otr M v (M 102 v).toNat).toNat = 0 then some M
  else if M 87 (M 102 v).toNat = v then some (fpP M v (M 103 (otr M v (M 102 v).toNat).toNat * M 99 (M 102 v).toNat) (M 104 (otr M v (M 102 v).toNat).toNat * M 100 (M 102 v).toNat))
  else if M 99 (M 102 v).toNat = 0 then none
  else some (fpP M v (M 103 (otr M v (M 102 v).toNat).toNat * M 100 (M 102 v).toNat) (M 104 (otr M v (M 102 v).toNat).toNat * M 99 (M 102 v).toNat))
theorem nU_bd {a b : Int} (ha : 0 ≤ a) (hb : 0 < b) : 0 ≤ nU a b ∧ nU a b ≤ a := by
  have hg := gcd_pos (a := a) hb
  exact tdiv_bd ha (by omega)
theorem nD_bd {a b : Int} (hb : 0 < b) : 0 < nD a b ∧ nD a b ≤ b := by
  have hg := gcd_pos (a := a) hb
  have h1 := tdiv_bd (a := b) (b := (Int.gcd a b : Int)) (by omega) (by omega)
  refine ⟨?_, h1.2⟩
  have h2 : (Int.gcd a b : Int) ∣ b := Int.gcd_dvd_right _ _
  obtain ⟨c, hc⟩ := h2
  unfold nD
  have h3 : b.tdiv (Int.gcd a b : Int) = c := by
    rw [Int.tdiv_eq_ediv_of_nonneg (by omega)]
    exact Int.ediv_eq_of_eq_mul_right (by omega) hc
  rw [h3]
  rcases Int.lt_or_le 0 c with q | q
  · exact q
  · have := Int.mul_nonpos_of_nonneg_of_nonpos (a := (Int.gcd a b : Int)) (b := c) (by omega) q
    omega
theorem nD_dvd {a b : Int} (hb : 0 < b) : nD a b ∣ b := by
  have hg := gcd_pos (a := a) hb
  obtain ⟨c, hc⟩ : (Int.gcd a b : Int) ∣ b := Int.gcd_dvd_right _ _
  have h3 : nD a b = c := by
    unfold nD
    rw [Int.tdiv_eq_ediv_of_nonneg (by omega)]
    exact Int.ediv_eq_of_eq_mul_right (by omega) hc
  rw [h3]
  exact ⟨_, by rw [Int.mul_comm]; exact hc⟩
theorem nUD {a b : Int} (hb : 0 < b) : a = (Int.gcd a b : Int) * nU a b ∧ b = (Int.gcd a b : Int) * nD a b := by
  have hg := gcd_pos (a := a) hb
  obtain ⟨c, hc⟩ : (Int.gcd a b : Int) ∣ b := Int.gcd_dvd_right _ _
  obtain ⟨e, he⟩ : (Int.gcd a b : Int) ∣ a := Int.gcd_dvd_left _ _
  have h3 : nD a b = c := by
    unfold nD
    rw [Int.tdiv_eq_ediv_of_nonneg (by omega)]
    exact Int.ediv_eq_of_eq_mul_right (by omega) hc
  have h4 : nU a b = e := by
    unfold nU
    have : ((Int.gcd a b : Int) * e).tdiv (Int.gcd a b : Int) = e := Int.mul_tdiv_cancel_left e (by omega)
    rwa [← he] at this
  rw [h3, h4]
  exact ⟨he, hc⟩
/-- equal fractions have the same least terms -/
theorem nUD_eq {a b c d : Int} (hb : 0 < b) (hd : 0 < d) (h : a * d = c * b) : nU a b = nU c d ∧ nD a b = nD c d := by
  have g1 := gcd_pos (a := a) hb
  have g2 := gcd_pos (a := c) hd
  obtain ⟨a1, b1⟩ := nUD (a := a) hb
  obtain ⟨c1, d1⟩ := nUD (a := c) hd
  have e1 : Int.gcd (a * d) (b * d) = Int.gcd a b * d.natAbs := Int.gcd_mul_right _ _ _
  have e2 : Int.gcd (c * b) (d * b) = Int.gcd c d * b.natAbs := Int.gcd_mul_right _ _ _
  rw [h, Int.mul_comm b d, e2] at e1
  have e3 : (Int.gcd c d : Int) * b = (Int.gcd a b : Int) * d := by
    have : ((Int.gcd c d * b.natAbs : Nat) : Int) = ((Int.gcd a b * d.natAbs : Nat) : Int) := by rw [e1]
    push_cast at this
    rw [Int.ofNat_natAbs_of_nonneg (by omega), Int.ofNat_natAbs_of_nonneg (by omega)] at this
    exact this
  generalize (Int.gcd a b : Int) = p at *
  generalize (Int.gcd c d : Int) = q at *
  generalize nU a b = au at *
  generalize nD a b = ad at *
  generalize nU c d = cu at *
  generalize nD c d = cd at *
  have hp : p ≠ 0 := by omega
  have hq : q ≠ 0 := by omega
  have k1 : ad = cd := by
    have : (p * q) * ad = (p * q) * cd := by
      have x1 : (p * q) * ad = q * (p * ad) := by rw [Int.mul_comm p q, Int.mul_assoc]
      have x2 : (p * q) * cd = p * (q * cd) := Int.mul_assoc _ _ _
      rw [x1, x2, ← b1, ← d1]
      exact e3
    exact Int.eq_of_mul_eq_mul_left (Int.mul_ne_zero hp hq) this
  refine ⟨?_, k1⟩
  have hcd : cd ≠ 0 := fun z => by rw [z, Int.mul_zero] at d1; omega
  have : (p * q * cd) * au = (p * q * cd) * cu := by
    have x1 : (p * q * cd) * au = (p * au) * (q * cd) := by rw [Int.mul_assoc p q cd, Int.mul_assoc p (q * cd) au, Int.mul_comm (q * cd) au, ← Int.mul_assoc]
    have x2 : (p * q * cd) * cu = (q * cu) * (p * cd) := by rw [Int.mul_comm p q, Int.mul_assoc q p cd, Int.mul_assoc q (p * cd) cu, Int.mul_comm (p * cd) cu, ← Int.mul_assoc]
    rw [x1, x2, ← a1, ← d1, ← c1, ← k1, ← b1]
    exact h
  exact Int.eq_of_mul_eq_mul_left (Int.mul_ne_zero (Int.mul_ne_zero hp hq) hcd) this
set_option maxRecDepth 100000 in
set_option maxHeartbeats 4000000 in
theorem fp_step5 {G : GG} {E : EE} {P : Int → MM → Prop} (A : AmM G E cX5_findPrices 6 yX5_findPrices.cls 3) (T0 : RT E G yX5_findPrices 108 0 0 (some .boolean) (fun r rf' M' => rf' = rF ∧ ∃ z, r = some (vi z) ∧ P z M')) (M : MM) (v : Nat) (la rd : Int) (hv : 1 ≤ v ∧ (v : Int) < la) (hla : la ≤ 4) (hd0 : 0 ≤ M 104 v ∧ M 104 v ≤ 4913) (hL : M 86 0 ≤ 10) (hc : M 104 v = 0 → 0 ≤ M 102 v ∧ M 102 v < M 86 0) (hft : M 104 v = 0 → (0 ≤ M 87 (M 102 v).toNat ∧ M 87 (M 102 v).toNat ≤ la ∧ 0 ≤ M 88 (M 102 v).toNat ∧ M 88 (M 102 v).toNat ≤ la)) (hsh : M 104 v = 0 → (0 ≤ M 99 (M 102 v).toNat ∧ M 99 (M 102 v).toNat ≤ 17 ∧ 1 ≤ M 100 (M 102 v).toNat ∧ M 100 (M 102 v).toNat ≤ 17)) (hpr : ∀ x : Nat, (x : Int) ≤ la → 0 ≤ M 103 x ∧ M 103 x ≤ 4913 ∧ 0 ≤ M 104 x ∧ M 104 x ≤ 4913) (hs : ∀ M1, fpS M v = some M1 → ∀ w4 w5 : Value, AM G E 6 267 [.ref 84, vi la, vi rd, vi (v : Int), w4, w5] [] M1) (hf : fpS M v = none → P 0 M) (w4 w5 : Value) : AM G E 6 82 [.ref 84, vi la, vi rd, vi (v : Int), w4, w5] [] M := by
  have hot : M 104 v = 0 → 0 ≤ (otr M v (M 102 v).toNat) ∧ (otr M v (M 102 v).toNat) ≤ la := fun q => by unfold otr; have := hft q; split <;> omega
  have hpo : M 104 v = 0 → 0 ≤ M 103 (otr M v (M 102 v).toNat).toNat ∧ M 103 (otr M v (M 102 v).toNat).toNat ≤ 4913 ∧ 0 ≤ M 104 (otr M v (M 102 v).toNat).toNat ∧ M 104 (otr M v (M 102 v).toNat).toNat ≤ 4913 := fun q => hpr _ (by have := hot q; omega)
  have m1 : M 104 v = 0 → 0 ≤ M 103 (otr M v (M 102 v).toNat).toNat * M 99 (M 102 v).toNat ∧ M 103 (otr M v (M 102 v).toNat).toNat * M 99 (M 102 v).toNat ≤ 4913 * 17 := fun q => mul_bd (by have := hpo q; omega) (by have := hsh q; omega)
  have m2 : M 104 v = 0 → 0 ≤ M 104 (otr M v (M 102 v).toNat).toNat * M 100 (M 102 v).toNat ∧ M 104 (otr M v (M 102 v).toNat).toNat * M 100 (M 102 v).toNat ≤ 4913 * 17 := fun q => mul_bd (by have := hpo q; omega) (by have := hsh q; omega)
  have m3 : M 104 v = 0 → 0 ≤ M 103 (otr M v (M 102 v).toNat).toNat * M 100 (M 102 v).toNat ∧ M 103 (otr M v (M 102 v).toNat).toNat * M 100 (M 102 v).toNat ≤ 4913 * 17 := fun q => mul_bd (by have := hpo q; omega) (by have := hsh q; omega)
  have m4 : M 104 v = 0 → 0 ≤ M 104 (otr M v (M 102 v).toNat).toNat * M 99 (M 102 v).toNat ∧ M 104 (otr M v (M 102 v).toNat).toNat * M 99 (M 102 v).toNat ≤ 4913 * 17 := fun q => mul_bd (by have := hpo q; omega) (by have := hsh q; omega)
  have m2p : M 104 v = 0 → M 104 (otr M v (M 102 v).toNat).toNat ≠ 0 → 0 < M 104 (otr M v (M 102 v).toNat).toNat * M 100 (M 102 v).toNat := fun q q2 => Int.mul_pos (by have := hpo q; omega) (by have := hsh q; omega)
  have m4p : M 104 v = 0 → M 104 (otr M v (M 102 v).toNat).toNat ≠ 0 → M 99 (M 102 v).toNat ≠ 0 → 0 < M 104 (otr M v (M 102 v).toNat).toNat * M 99 (M 102 v).toNat := fun q q2 q3 => Int.mul_pos (by have := hpo q; omega) (by have := hsh q; omega)
  refine a_aload_n (z := 84) A dX5_findPrices_82 rfl ?_
  refine gf_X5_68 (r := 104) A dX5_findPrices_83 rfl (by decide) rfl ?_
  refine a_iload_n (z := (v : Int)) A dX5_findPrices_86 rfl ?_
  refine a_laload (i := (v : Int)) (x := M 104 v) A dX5_findPrices_87 rfl (by decide) (by decide) (by omega) rfl ?_
  refine a_lconst0 A dX5_findPrices_88 ?_
  refine a_lcmp_le (tgt := 96) A dX5_findPrices_89 dX5_findPrices_90 (by decide) (by omega) (by omega) (fun h89 => ?_) (fun h89 => ?_)
  · refine a_aload_n (z := 84) A dX5_findPrices_96 rfl ?_
    refine gf_X5_62 (r := 102) A dX5_findPrices_97 rfl (by decide) rfl ?_
    refine a_iload_n (z := (v : Int)) A dX5_findPrices_100 rfl ?_
    refine a_iaload (i := (v : Int)) (x := M 102 v) A dX5_findPrices_101 rfl (by decide) (by decide) (by omega) rfl ?_
    refine a_istore (lv' := [.ref 84, vi la, vi rd, vi (v : Int), vi (M 102 v), w5]) A dX5_findPrices_102 (by decide) rfl ?_
    refine a_aload_n (z := 84) A dX5_findPrices_104 rfl ?_
    refine gf_X5_16 (r := 87) A dX5_findPrices_105 rfl (by decide) rfl ?_
    refine a_iload (z := (M 102 v)) A dX5_findPrices_108 rfl ?_
    refine a_iaload (i := (M 102 v)) (x := M 87 ((M 102 v).toNat)) A dX5_findPrices_110 rfl (by decide) (by decide) (by omega) rfl ?_
    refine a_iload_n (z := (v : Int)) A dX5_findPrices_111 rfl ?_
    refine a_icmp_ne (tgt := 125) A dX5_findPrices_112 (by decide) (by omega) (by omega) (fun h112 => ?_) (fun h112 => ?_)
    · refine a_aload_n (z := 84) A dX5_findPrices_125 rfl ?_
      refine gf_X5_16 (r := 87) A dX5_findPrices_126 rfl (by decide) rfl ?_
      refine a_iload (z := (M 102 v)) A dX5_findPrices_129 rfl ?_
      refine a_iaload (i := (M 102 v)) (x := M 87 ((M 102 v).toNat)) A dX5_findPrices_131 rfl (by decide) (by decide) (by omega) rfl ?_
      rw [show (M 87 ((M 102 v).toNat)) = (otr M v (M 102 v).toNat) by unfold otr; first | rw [if_pos h112] | rw [if_neg h112]]
      refine a_istore (lv' := [.ref 84, vi la, vi rd, vi (v : Int), vi (M 102 v), vi (otr M v (M 102 v).toNat)]) A dX5_findPrices_132 (by decide) rfl ?_
      refine a_aload_n (z := 84) A dX5_findPrices_134 rfl ?_
      refine gf_X5_68 (r := 104) A dX5_findPrices_135 rfl (by decide) rfl ?_
      refine a_iload (z := (otr M v (M 102 v).toNat)) A dX5_findPrices_138 rfl ?_
      refine a_laload (i := (otr M v (M 102 v).toNat)) (x := M 104 ((otr M v (M 102 v).toNat).toNat)) A dX5_findPrices_140 rfl (by decide) (by decide) (by omega) rfl ?_
      refine a_lconst0 A dX5_findPrices_141 ?_
      refine a_lcmp_ne (tgt := 149) A dX5_findPrices_142 dX5_findPrices_143 (by decide) (by omega) (by omega) (fun h142 => ?_) (fun h142 => ?_)
      · refine a_aload_n (z := 84) A dX5_findPrices_149 rfl ?_
        refine gf_X5_16 (r := 87) A dX5_findPrices_150 rfl (by decide) rfl ?_
        refine a_iload (z := (M 102 v)) A dX5_findPrices_153 rfl ?_
        refine a_iaload (i := (M 102 v)) (x := M 87 ((M 102 v).toNat)) A dX5_findPrices_155 rfl (by decide) (by decide) (by omega) rfl ?_
        refine a_iload_n (z := (v : Int)) A dX5_findPrices_156 rfl ?_
        refine a_icmp_ne (tgt := 199) A dX5_findPrices_157 (by decide) (by omega) (by omega) (fun h157 => ?_) (fun h157 => ?_)
        · refine a_aload_n (z := 84) A dX5_findPrices_199 rfl ?_
          refine gf_X5_53 (r := 99) A dX5_findPrices_200 rfl (by decide) rfl ?_
          refine a_iload (z := (M 102 v)) A dX5_findPrices_203 rfl ?_
          refine a_iaload (i := (M 102 v)) (x := M 99 ((M 102 v).toNat)) A dX5_findPrices_205 rfl (by decide) (by decide) (by omega) rfl ?_
          refine a_if_ne (tgt := 211) A dX5_findPrices_206 (by decide) (by omega) (fun h206 => ?_) (fun h206 => ?_)
          · refine a_aload_n (z := 84) A dX5_findPrices_211 rfl ?_
            refine a_aload_n (z := 84) A dX5_findPrices_212 rfl ?_
            refine gf_X5_65 (r := 103) A dX5_findPrices_213 rfl (by decide) rfl ?_
            refine a_iload (z := (otr M v (M 102 v).toNat)) A dX5_findPrices_216 rfl ?_
            refine a_laload (i := (otr M v (M 102 v).toNat)) (x := M 103 ((otr M v (M 102 v).toNat).toNat)) A dX5_findPrices_218 rfl (by decide) (by decide) (by omega) rfl ?_
            refine a_aload_n (z := 84) A dX5_findPrices_219 rfl ?_
            refine gf_X5_56 (r := 100) A dX5_findPrices_220 rfl (by decide) rfl ?_
            refine a_iload (z := (M 102 v)) A dX5_findPrices_223 rfl ?_
            refine a_iaload (i := (M 102 v)) (x := M 100 ((M 102 v).toNat)) A dX5_findPrices_225 rfl (by decide) (by decide) (by omega) rfl ?_
            refine a_i2l A dX5_findPrices_226 (by omega) ?_
            refine a_lmul (x := (M 103 ((otr M v (M 102 v).toNat).toNat))) (y := (M 100 ((M 102 v).toNat))) A dX5_findPrices_227 ?_
            refine a_aload_n (z := 84) A dX5_findPrices_228 rfl ?_
            refine gf_X5_68 (r := 104) A dX5_findPrices_229 rfl (by decide) rfl ?_
            refine a_iload (z := (otr M v (M 102 v).toNat)) A dX5_findPrices_232 rfl ?_
            refine a_laload (i := (otr M v (M 102 v).toNat)) (x := M 104 ((otr M v (M 102 v).toNat).toNat)) A dX5_findPrices_234 rfl (by decide) (by decide) (by omega) rfl ?_
            refine a_aload_n (z := 84) A dX5_findPrices_235 rfl ?_
            refine gf_X5_53 (r := 99) A dX5_findPrices_236 rfl (by decide) rfl ?_
            refine a_iload (z := (M 102 v)) A dX5_findPrices_239 rfl ?_
            refine a_iaload (i := (M 102 v)) (x := M 99 ((M 102 v).toNat)) A dX5_findPrices_241 rfl (by decide) (by decide) (by omega) rfl ?_
            refine a_i2l A dX5_findPrices_242 (by omega) ?_
            refine a_lmul (x := (M 104 ((otr M v (M 102 v).toNat).toNat))) (y := (M 99 ((M 102 v).toNat))) A dX5_findPrices_243 ?_
            refine m_invVv A (c_X5_put G _ ((M 103 ((otr M v (M 102 v).toNat).toNat)) * (M 100 ((M 102 v).toNat))) ((M 104 ((otr M v (M 102 v).toNat).toNat)) * (M 99 ((M 102 v).toNat))) M (by omega) (by omega)) (by decide) mi_X5_put mv_X5_put cs_X5_100 cf5 dX5_findPrices_244 rfl (by decide) rfl rfl (Nat.le_of_ble_eq_true rfl) (fun M244 h244 => ?_)
            have h244 := h244.symm
            subst h244
            refine a_aload_n (z := 84) A dX5_findPrices_247 rfl ?_
            refine gf_X5_65 (r := 103) A dX5_findPrices_248 rfl (by decide) rfl ?_
            refine a_iload_n (z := (v : Int)) A dX5_findPrices_251 rfl ?_
            refine a_aload_n (z := 84) A dX5_findPrices_252 rfl ?_
            refine gf_X5_104 (x := (nU ((M 103 ((otr M v (M 102 v).toNat).toNat)) * (M 100 ((M 102 v).toNat))) ((M 104 ((otr M v (M 102 v).toNat).toNat)) * (M 99 ((M 102 v).toNat))))) A dX5_findPrices_253 rfl (by decide) rfl ?_
            refine a_lastore (i := (v : Int)) (j := v) A dX5_findPrices_256 rfl (by decide) (by decide) (by omega) rfl ?_
            refine a_aload_n (z := 84) A dX5_findPrices_257 rfl ?_
            refine gf_X5_68 (r := 104) A dX5_findPrices_258 rfl (by decide) rfl ?_
            refine a_iload_n (z := (v : Int)) A dX5_findPrices_261 rfl ?_
            refine a_aload_n (z := 84) A dX5_findPrices_262 rfl ?_
            refine gf_X5_108 (x := (nD ((M 103 ((otr M v (M 102 v).toNat).toNat)) * (M 100 ((M 102 v).toNat))) ((M 104 ((otr M v (M 102 v).toNat).toNat)) * (M 99 ((M 102 v).toNat))))) A dX5_findPrices_263 rfl (by decide) rfl ?_
            refine a_lastore (i := (v : Int)) (j := v) A dX5_findPrices_266 rfl (by decide) (by decide) (by omega) rfl ?_
            refine hs _ ?_ _ _
            unfold fpS
            first | (rw [if_neg (by omega), if_neg (by omega), if_pos (by omega)]; rfl) | (rw [if_neg (by omega), if_neg (by omega), if_neg (by omega), if_neg (by omega)]; rfl)
          · refine a_iconst A dX5_findPrices_209 ?_
            exact m_zreturn A T0 dX5_findPrices_210 (by first | exact Or.inl rfl | exact Or.inr rfl | omega) (hf (by unfold fpS; rw [if_neg (by omega), if_neg (by omega), if_neg (by omega), if_pos (by omega)]))
        · refine a_aload_n (z := 84) A dX5_findPrices_160 rfl ?_
          refine a_aload_n (z := 84) A dX5_findPrices_161 rfl ?_
          refine gf_X5_65 (r := 103) A dX5_findPrices_162 rfl (by decide) rfl ?_
          refine a_iload (z := (otr M v (M 102 v).toNat)) A dX5_findPrices_165 rfl ?_
          refine a_laload (i := (otr M v (M 102 v).toNat)) (x := M 103 ((otr M v (M 102 v).toNat).toNat)) A dX5_findPrices_167 rfl (by decide) (by decide) (by omega) rfl ?_
          refine a_aload_n (z := 84) A dX5_findPrices_168 rfl ?_
          refine gf_X5_53 (r := 99) A dX5_findPrices_169 rfl (by decide) rfl ?_
          refine a_iload (z := (M 102 v)) A dX5_findPrices_172 rfl ?_
          refine a_iaload (i := (M 102 v)) (x := M 99 ((M 102 v).toNat)) A dX5_findPrices_174 rfl (by decide) (by decide) (by omega) rfl ?_
          refine a_i2l A dX5_findPrices_175 (by omega) ?_
          refine a_lmul (x := (M 103 ((otr M v (M 102 v).toNat).toNat))) (y := (M 99 ((M 102 v).toNat))) A dX5_findPrices_176 ?_
          refine a_aload_n (z := 84) A dX5_findPrices_177 rfl ?_
          refine gf_X5_68 (r := 104) A dX5_findPrices_178 rfl (by decide) rfl ?_
          refine a_iload (z := (otr M v (M 102 v).toNat)) A dX5_findPrices_181 rfl ?_
          refine a_laload (i := (otr M v (M 102 v).toNat)) (x := M 104 ((otr M v (M 102 v).toNat).toNat)) A dX5_findPrices_183 rfl (by decide) (by decide) (by omega) rfl ?_
          refine a_aload_n (z := 84) A dX5_findPrices_184 rfl ?_
          refine gf_X5_56 (r := 100) A dX5_findPrices_185 rfl (by decide) rfl ?_
          refine a_iload (z := (M 102 v)) A dX5_findPrices_188 rfl ?_
          refine a_iaload (i := (M 102 v)) (x := M 100 ((M 102 v).toNat)) A dX5_findPrices_190 rfl (by decide) (by decide) (by omega) rfl ?_
          refine a_i2l A dX5_findPrices_191 (by omega) ?_
          refine a_lmul (x := (M 104 ((otr M v (M 102 v).toNat).toNat))) (y := (M 100 ((M 102 v).toNat))) A dX5_findPrices_192 ?_
          refine m_invVv A (c_X5_put G _ ((M 103 ((otr M v (M 102 v).toNat).toNat)) * (M 99 ((M 102 v).toNat))) ((M 104 ((otr M v (M 102 v).toNat).toNat)) * (M 100 ((M 102 v).toNat))) M (by omega) (by omega)) (by decide) mi_X5_put mv_X5_put cs_X5_100 cf5 dX5_findPrices_193 rfl (by decide) rfl rfl (Nat.le_of_ble_eq_true rfl) (fun M193 h193 => ?_)
          have h193 := h193.symm
          subst h193
          refine a_goto (tgt := 247) A dX5_findPrices_196 (by decide) ?_
          refine a_aload_n (z := 84) A dX5_findPrices_247 rfl ?_
          refine gf_X5_65 (r := 103) A dX5_findPrices_248 rfl (by decide) rfl ?_
          refine a_iload_n (z := (v : Int)) A dX5_findPrices_251 rfl ?_
          refine a_aload_n (z := 84) A dX5_findPrices_252 rfl ?_
          refine gf_X5_104 (x := (nU ((M 103 ((otr M v (M 102 v).toNat).toNat)) * (M 99 ((M 102 v).toNat))) ((M 104 ((otr M v (M 102 v).toNat).toNat)) * (M 100 ((M 102 v).toNat))))) A dX5_findPrices_253 rfl (by decide) rfl ?_
          refine a_lastore (i := (v : Int)) (j := v) A dX5_findPrices_256 rfl (by decide) (by decide) (by omega) rfl ?_
          refine a_aload_n (z := 84) A dX5_findPrices_257 rfl ?_
          refine gf_X5_68 (r := 104) A dX5_findPrices_258 rfl (by decide) rfl ?_
          refine a_iload_n (z := (v : Int)) A dX5_findPrices_261 rfl ?_
          refine a_aload_n (z := 84) A dX5_findPrices_262 rfl ?_
          refine gf_X5_108 (x := (nD ((M 103 ((otr M v (M 102 v).toNat).toNat)) * (M 99 ((M 102 v).toNat))) ((M 104 ((otr M v (M 102 v).toNat).toNat)) * (M 100 ((M 102 v).toNat))))) A dX5_findPrices_263 rfl (by decide) rfl ?_
          refine a_lastore (i := (v : Int)) (j := v) A dX5_findPrices_266 rfl (by decide) (by decide) (by omega) rfl ?_
          refine hs _ ?_ _ _
          unfold fpS
          first | (rw [if_neg (by omega), if_neg (by omega), if_pos (by omega)]; rfl) | (rw [if_neg (by omega), if_neg (by omega), if_neg (by omega), if_neg (by omega)]; rfl)
      · refine a_goto (tgt := 267) A dX5_findPrices_146 (by decide) ?_
        refine hs M ?_ _ _
        unfold fpS
        first | rw [if_pos (by omega)] | rw [if_neg (by omega), if_pos (by omega)]
    · refine a_aload_n (z := 84) A dX5_findPrices_115 rfl ?_
      refine gf_X5_19 (r := 88) A dX5_findPrices_116 rfl (by decide) rfl ?_
      refine a_iload (z := (M 102 v)) A dX5_findPrices_119 rfl ?_
      refine a_iaload (i := (M 102 v)) (x := M 88 ((M 102 v).toNat)) A dX5_findPrices_121 rfl (by decide) (by decide) (by omega) rfl ?_
      refine a_goto (tgt := 132) A dX5_findPrices_122 (by decide) ?_
      rw [show (M 88 ((M 102 v).toNat)) = (otr M v (M 102 v).toNat) by unfold otr; first | rw [if_pos h112] | rw [if_neg h112]]
      refine a_istore (lv' := [.ref 84, vi la, vi rd, vi (v : Int), vi (M 102 v), vi (otr M v (M 102 v).toNat)]) A dX5_findPrices_132 (by decide) rfl ?_
      refine a_aload_n (z := 84) A dX5_findPrices_134 rfl ?_
      refine gf_X5_68 (r := 104) A dX5_findPrices_135 rfl (by decide) rfl ?_
      refine a_iload (z := (otr M v (M 102 v).toNat)) A dX5_findPrices_138 rfl ?_
      refine a_laload (i := (otr M v (M 102 v).toNat)) (x := M 104 ((otr M v (M 102 v).toNat).toNat)) A dX5_findPrices_140 rfl (by decide) (by decide) (by omega) rfl ?_
      refine a_lconst0 A dX5_findPrices_141 ?_
      refine a_lcmp_ne (tgt := 149) A dX5_findPrices_142 dX5_findPrices_143 (by decide) (by omega) (by omega) (fun h142 => ?_) (fun h142 => ?_)
      · refine a_aload_n (z := 84) A dX5_findPrices_149 rfl ?_
        refine gf_X5_16 (r := 87) A dX5_findPrices_150 rfl (by decide) rfl ?_
        refine a_iload (z := (M 102 v)) A dX5_findPrices_153 rfl ?_
        refine a_iaload (i := (M 102 v)) (x := M 87 ((M 102 v).toNat)) A dX5_findPrices_155 rfl (by decide) (by decide) (by omega) rfl ?_
        refine a_iload_n (z := (v : Int)) A dX5_findPrices_156 rfl ?_
        refine a_icmp_ne (tgt := 199) A dX5_findPrices_157 (by decide) (by omega) (by omega) (fun h157 => ?_) (fun h157 => ?_)
        · refine a_aload_n (z := 84) A dX5_findPrices_199 rfl ?_
          refine gf_X5_53 (r := 99) A dX5_findPrices_200 rfl (by decide) rfl ?_
          refine a_iload (z := (M 102 v)) A dX5_findPrices_203 rfl ?_
          refine a_iaload (i := (M 102 v)) (x := M 99 ((M 102 v).toNat)) A dX5_findPrices_205 rfl (by decide) (by decide) (by omega) rfl ?_
          refine a_if_ne (tgt := 211) A dX5_findPrices_206 (by decide) (by omega) (fun h206 => ?_) (fun h206 => ?_)
          · refine a_aload_n (z := 84) A dX5_findPrices_211 rfl ?_
            refine a_aload_n (z := 84) A dX5_findPrices_212 rfl ?_
            refine gf_X5_65 (r := 103) A dX5_findPrices_213 rfl (by decide) rfl ?_
            refine a_iload (z := (otr M v (M 102 v).toNat)) A dX5_findPrices_216 rfl ?_
            refine a_laload (i := (otr M v (M 102 v).toNat)) (x := M 103 ((otr M v (M 102 v).toNat).toNat)) A dX5_findPrices_218 rfl (by decide) (by decide) (by omega) rfl ?_
            refine a_aload_n (z := 84) A dX5_findPrices_219 rfl ?_
            refine gf_X5_56 (r := 100) A dX5_findPrices_220 rfl (by decide) rfl ?_
            refine a_iload (z := (M 102 v)) A dX5_findPrices_223 rfl ?_
            refine a_iaload (i := (M 102 v)) (x := M 100 ((M 102 v).toNat)) A dX5_findPrices_225 rfl (by decide) (by decide) (by omega) rfl ?_
            refine a_i2l A dX5_findPrices_226 (by omega) ?_
            refine a_lmul (x := (M 103 ((otr M v (M 102 v).toNat).toNat))) (y := (M 100 ((M 102 v).toNat))) A dX5_findPrices_227 ?_
            refine a_aload_n (z := 84) A dX5_findPrices_228 rfl ?_
            refine gf_X5_68 (r := 104) A dX5_findPrices_229 rfl (by decide) rfl ?_
            refine a_iload (z := (otr M v (M 102 v).toNat)) A dX5_findPrices_232 rfl ?_
            refine a_laload (i := (otr M v (M 102 v).toNat)) (x := M 104 ((otr M v (M 102 v).toNat).toNat)) A dX5_findPrices_234 rfl (by decide) (by decide) (by omega) rfl ?_
            refine a_aload_n (z := 84) A dX5_findPrices_235 rfl ?_
            refine gf_X5_53 (r := 99) A dX5_findPrices_236 rfl (by decide) rfl ?_
            refine a_iload (z := (M 102 v)) A dX5_findPrices_239 rfl ?_
            refine a_iaload (i := (M 102 v)) (x := M 99 ((M 102 v).toNat)) A dX5_findPrices_241 rfl (by decide) (by decide) (by omega) rfl ?_
            refine a_i2l A dX5_findPrices_242 (by omega) ?_
            refine a_lmul (x := (M 104 ((otr M v (M 102 v).toNat).toNat))) (y := (M 99 ((M 102 v).toNat))) A dX5_findPrices_243 ?_
            refine m_invVv A (c_X5_put G _ ((M 103 ((otr M v (M 102 v).toNat).toNat)) * (M 100 ((M 102 v).toNat))) ((M 104 ((otr M v (M 102 v).toNat).toNat)) * (M 99 ((M 102 v).toNat))) M (by omega) (by omega)) (by decide) mi_X5_put mv_X5_put cs_X5_100 cf5 dX5_findPrices_244 rfl (by decide) rfl rfl (Nat.le_of_ble_eq_true rfl) (fun M244 h244 => ?_)
            have h244 := h244.symm
            subst h244
            refine a_aload_n (z := 84) A dX5_findPrices_247 rfl ?_
            refine gf_X5_65 (r := 103) A dX5_findPrices_248 rfl (by decide) rfl ?_
            refine a_iload_n (z := (v : Int)) A dX5_findPrices_251 rfl ?_
            refine a_aload_n (z := 84) A dX5_findPrices_252 rfl ?_
            refine gf_X5_104 (x := (nU ((M 103 ((otr M v (M 102 v).toNat).toNat)) * (M 100 ((M 102 v).toNat))) ((M 104 ((otr M v (M 102 v).toNat).toNat)) * (M 99 ((M 102 v).toNat))))) A dX5_findPrices_253 rfl (by decide) rfl ?_
            refine a_lastore (i := (v : Int)) (j := v) A dX5_findPrices_256 rfl (by decide) (by decide) (by omega) rfl ?_
            refine a_aload_n (z := 84) A dX5_findPrices_257 rfl ?_
            refine gf_X5_68 (r := 104) A dX5_findPrices_258 rfl (by decide) rfl ?_
            refine a_iload_n (z := (v : Int)) A dX5_findPrices_261 rfl ?_
            refine a_aload_n (z := 84) A dX5_findPrices_262 rfl ?_
            refine gf_X5_108 (x := (nD ((M 103 ((otr M v (M 102 v).toNat).toNat)) * (M 100 ((M 102 v).toNat))) ((M 104 ((otr M v (M 102 v).toNat).toNat)) * (M 99 ((M 102 v).toNat))))) A dX5_findPrices_263 rfl (by decide) rfl ?_
            refine a_lastore (i := (v : Int)) (j := v) A dX5_findPrices_266 rfl (by decide) (by decide) (by omega) rfl ?_
            refine hs _ ?_ _ _
            unfold fpS
            first | (rw [if_neg (by omega), if_neg (by omega), if_pos (by omega)]; rfl) | (rw [if_neg (by omega), if_neg (by omega), if_neg (by omega), if_neg (by omega)]; rfl)
          · refine a_iconst A dX5_findPrices_209 ?_
            exact m_zreturn A T0 dX5_findPrices_210 (by first | exact Or.inl rfl | exact Or.inr rfl | omega) (hf (by unfold fpS; rw [if_neg (by omega), if_neg (by omega), if_neg (by omega), if_pos (by omega)]))
        · refine a_aload_n (z := 84) A dX5_findPrices_160 rfl ?_
          refine a_aload_n (z := 84) A dX5_findPrices_161 rfl ?_
          refine gf_X5_65 (r := 103) A dX5_findPrices_162 rfl (by decide) rfl ?_
          refine a_iload (z := (otr M v (M 102 v).toNat)) A dX5_findPrices_165 rfl ?_
          refine a_laload (i := (otr M v (M 102 v).toNat)) (x := M 103 ((otr M v (M 102 v).toNat).toNat)) A dX5_findPrices_167 rfl (by decide) (by decide) (by omega) rfl ?_
          refine a_aload_n (z := 84) A dX5_findPrices_168 rfl ?_
          refine gf_X5_53 (r := 99) A dX5_findPrices_169 rfl (by decide) rfl ?_
          refine a_iload (z := (M 102 v)) A dX5_findPrices_172 rfl ?_
          refine a_iaload (i := (M 102 v)) (x := M 99 ((M 102 v).toNat)) A dX5_findPrices_174 rfl (by decide) (by decide) (by omega) rfl ?_
          refine a_i2l A dX5_findPrices_175 (by omega) ?_
          refine a_lmul (x := (M 103 ((otr M v (M 102 v).toNat).toNat))) (y := (M 99 ((M 102 v).toNat))) A dX5_findPrices_176 ?_
          refine a_aload_n (z := 84) A dX5_findPrices_177 rfl ?_
          refine gf_X5_68 (r := 104) A dX5_findPrices_178 rfl (by decide) rfl ?_
          refine a_iload (z := (otr M v (M 102 v).toNat)) A dX5_findPrices_181 rfl ?_
          refine a_laload (i := (otr M v (M 102 v).toNat)) (x := M 104 ((otr M v (M 102 v).toNat).toNat)) A dX5_findPrices_183 rfl (by decide) (by decide) (by omega) rfl ?_
          refine a_aload_n (z := 84) A dX5_findPrices_184 rfl ?_
          refine gf_X5_56 (r := 100) A dX5_findPrices_185 rfl (by decide) rfl ?_
          refine a_iload (z := (M 102 v)) A dX5_findPrices_188 rfl ?_
          refine a_iaload (i := (M 102 v)) (x := M 100 ((M 102 v).toNat)) A dX5_findPrices_190 rfl (by decide) (by decide) (by omega) rfl ?_
          refine a_i2l A dX5_findPrices_191 (by omega) ?_
          refine a_lmul (x := (M 104 ((otr M v (M 102 v).toNat).toNat))) (y := (M 100 ((M 102 v).toNat))) A dX5_findPrices_192 ?_
          refine m_invVv A (c_X5_put G _ ((M 103 ((otr M v (M 102 v).toNat).toNat)) * (M 99 ((M 102 v).toNat))) ((M 104 ((otr M v (M 102 v).toNat).toNat)) * (M 100 ((M 102 v).toNat))) M (by omega) (by omega)) (by decide) mi_X5_put mv_X5_put cs_X5_100 cf5 dX5_findPrices_193 rfl (by decide) rfl rfl (Nat.le_of_ble_eq_true rfl) (fun M193 h193 => ?_)
          have h193 := h193.symm
          subst h193
          refine a_goto (tgt := 247) A dX5_findPrices_196 (by decide) ?_
          refine a_aload_n (z := 84) A dX5_findPrices_247 rfl ?_
          refine gf_X5_65 (r := 103) A dX5_findPrices_248 rfl (by decide) rfl ?_
          refine a_iload_n (z := (v : Int)) A dX5_findPrices_251 rfl ?_
          refine a_aload_n (z := 84) A dX5_findPrices_252 rfl ?_
          refine gf_X5_104 (x := (nU ((M 103 ((otr M v (M 102 v).toNat).toNat)) * (M 99 ((M 102 v).toNat))) ((M 104 ((otr M v (M 102 v).toNat).toNat)) * (M 100 ((M 102 v).toNat))))) A dX5_findPrices_253 rfl (by decide) rfl ?_
          refine a_lastore (i := (v : Int)) (j := v) A dX5_findPrices_256 rfl (by decide) (by decide) (by omega) rfl ?_
          refine a_aload_n (z := 84) A dX5_findPrices_257 rfl ?_
          refine gf_X5_68 (r := 104) A dX5_findPrices_258 rfl (by decide) rfl ?_
          refine a_iload_n (z := (v : Int)) A dX5_findPrices_261 rfl ?_
          refine a_aload_n (z := 84) A dX5_findPrices_262 rfl ?_
          refine gf_X5_108 (x := (nD ((M 103 ((otr M v (M 102 v).toNat).toNat)) * (M 99 ((M 102 v).toNat))) ((M 104 ((otr M v (M 102 v).toNat).toNat)) * (M 100 ((M 102 v).toNat))))) A dX5_findPrices_263 rfl (by decide) rfl ?_
          refine a_lastore (i := (v : Int)) (j := v) A dX5_findPrices_266 rfl (by decide) (by decide) (by omega) rfl ?_
          refine hs _ ?_ _ _
          unfold fpS
          first | (rw [if_neg (by omega), if_neg (by omega), if_pos (by omega)]; rfl) | (rw [if_neg (by omega), if_neg (by omega), if_neg (by omega), if_neg (by omega)]; rfl)
      · refine a_goto (tgt := 267) A dX5_findPrices_146 (by decide) ?_
        refine hs M ?_ _ _
        unfold fpS
        first | rw [if_pos (by omega)] | rw [if_neg (by omega), if_pos (by omega)]
  · refine a_goto (tgt := 267) A dX5_findPrices_93 (by decide) ?_
    refine hs M ?_ _ _
    unfold fpS
    first | rw [if_pos (by omega)] | rw [if_neg (by omega), if_pos (by omega)]
