/-! the law: any run of calls -/
theorem l_end {p : Program} {l : Launch} {e : Env} {s : State} {m : MethodId} {below : List Frame} {meth : Method} {c : Code} {b : Nat} {G : GG} (hx : p.tables.exec = Jvm.exec) (hb : c.code = code) (hr : meth.sig.returnType = ret) (hlocks : meth.locks = false) (hz : gz G = s.heap.size) {pc nL n k w : Nat} {lv : List Value} {rf : RF} {M : MM} (hk : k ≤ 600000) (hw : w ≤ 7302250) (D : decode code pc = .ok (.ireturn, 1)) : AW G (p, l, e, room_1, s, m, #[Value.ref b], below, meth, c, lw_Z below #[Value.ref b] s) nL pc lv [vi 1] n k w rf M := by
  intro H locs ls hP hS hL
  refine va_forget (fun q hq => by have := hS.2.2 q hq; rw [hz] at this; exact this) ?_
  refine W.widen hk hw ?_
  exact lw_ret hx hb hr hlocks D
set_option maxRecDepth 100000 in
set_option maxHeartbeats 8000000 in
theorem l_loop {G : GG} {E : EE} {L : Nat} {xs : Nat → Int32} (A : Am G E cL_law 4 RL 0 20 108 1038) (hX : va_X G.2.2.2 L xs (eS E) (eS E).heap) (hbz : G.2.2.2 < gz G) (hL3 : L ≤ 3072)  (hend : ∀ (lv : List Value) (M : MM), AW G E 4 718 lv [vi 1] 108 108 1038 rF M) : ∀ (n i : Nat) (M : MM), L - i < n → zS1 M → i ≤ 3078 → AW G E 4 18 [.retAddr 0, .ref 0, .ref 84, vi (i : Int)] [] 108 108 1038 rF M := by
  intro n
  induction n with
  | zero => intro i M hn hJ hi; exfalso; omega
  | succ n ih =>
    intro i M hn hJ hi
    refine a_iload_n (z := (i : Int)) A dL_law_18 rfl ?_
    refine a_aloadS A dL_law_19 rfl ?_
    refine a_slen A hX hbz dL_law_20 ?_
    refine a_bipush A dL_law_21 (by decide) ?_
    refine a_isub (x := (L : Int)) (y := 6) A dL_law_23 ?_
    refine a_icmp_gt (tgt := 717) A dL_law_24 (by decide) (by have := hL3; have := hi; omega) (by have := hL3; omega) (fun hg => ?_) (fun hg => ?_)
    · refine a_iconst A dL_law_717 ?_
      exact hend _ M
    · have hn6 : L - (i + 6) < n := by omega
      have hi6 : i + 6 ≤ 3078 := by omega
      have hC := hJ.1.cw
      have hZ := hJ.1.2.2.1
      obtain ⟨N, hN4, hNe, hNr⟩ := hJ.1.hand
      have hIm := hJ.1.im
      have hH : 0 ≤ M 1 4 ∧ M 1 4 ≤ 4 := by rw [hNe]; omega
      refine a_aloadS A dL_law_27 rfl ?_
      refine a_iload_n (z := (i : Int)) A dL_law_28 rfl ?_
      refine l_sald (j := i) A hX hbz dL_law_29 rfl (by omega) hL3 ?_
      refine a_bipush A dL_law_30 (by decide) ?_
      refine a_iand (z := (xs i &&& 31).toInt) A dL_law_32 (zx_and _) ?_
      have hsx := zx (xs i &&& 31)
      generalize (xs i &&& 31).toInt = t at hsx ⊢
      by_cases hsw : t < 0 ∨ 16 < t
      · refine a_tswO (tgt := 711) A dL_law_33 hsx hsw (by decide) ?_
        refine a_iinc (z := (i : Int)) (lv' := [.retAddr 0, .ref 0, .ref 84, vi ((i : Int) + 6)]) A dL_law_711 rfl (by decide) rfl ?_
        refine a_goto (tgt := 18) A dL_law_714 (by decide) ?_
        exact ih (i + 6) M hn6 hJ hi6
      · have hs2 : t = 0 ∨ t = 1 ∨ t = 2 ∨ t = 3 ∨ t = 4 ∨ t = 5 ∨ t = 6 ∨ t = 7 ∨ t = 8 ∨ t = 9 ∨ t = 10 ∨ t = 11 ∨ t = 12 ∨ t = 13 ∨ t = 14 ∨ t = 15 ∨ t = 16 := by omega
        rcases hs2 with hs | hs | hs | hs | hs | hs | hs | hs | hs | hs | hs | hs | hs | hs | hs | hs | hs
        · refine a_tswI (tgt := 116) (off := 83) A dL_law_33 hsx (by omega) (by omega) (by rw [hs]; rfl) (by decide) ?_
          refine a_aload_n (z := 0) A dL_law_116 rfl ?_
          refine a_aloadS A dL_law_117 rfl ?_
          refine a_iload_n (z := (i : Int)) A dL_law_118 rfl ?_
          refine a_iconst A dL_law_119 ?_
          refine a_iadd (x := (i : Int)) (y := 1) A dL_law_120 ?_
          refine l_sald (j := (i + 1)) A hX hbz dL_law_121 (by omega) (by omega) hL3 ?_
          refine l_invVi A rfl (c_X4_posts G _ ((xs (i + 1)).toInt) M (zx _) ) (by decide) mi_X4_posts mv_X4_posts cs_L_13 cf4 dL_law_122 rfl (by decide) rfl rfl (Nat.le_of_ble_eq_true rfl) ⟨Nat.le_refl _, Nat.le_refl _⟩ (fun z1 M1 h1 => ?_)
          replace h1 : pc_posts ((xs (i + 1)).toInt) M z1 M1 := h1
          have hR := hJ.1.rb (zf_posts h1)
          have hW := hR.1
          have hB := hR.2.1
          have hK := hR.2.2.1
          refine l_pop A dL_law_125 ?_
          refine a_aload_n (z := 84) A dL_law_126 rfl ?_
          refine a_aloadS A dL_law_127 rfl ?_
          refine a_iload_n (z := (i : Int)) A dL_law_128 rfl ?_
          refine a_iconst A dL_law_129 ?_
          refine a_iadd (x := (i : Int)) (y := 1) A dL_law_130 ?_
          refine l_sald (j := (i + 1)) A hX hbz dL_law_131 (by omega) (by omega) hL3 ?_
          refine l_invVi A rfl (c_X5_posts G _ ((xs (i + 1)).toInt) M1 (zx _) ) (by decide) mi_X5_posts mv_X5_posts cs_L_17 cf5 dL_law_132 rfl (by decide) rfl rfl (Nat.le_of_ble_eq_true rfl) ⟨Nat.le_refl _, Nat.le_refl _⟩ (fun z2 M2 h2 => ?_)
          replace h2 : pr_posts ((xs (i + 1)).toInt) M1 z2 M2 := h2
          refine l_pop A dL_law_135 ?_
          refine a_goto (tgt := 711) A dL_law_136 (by decide) ?_
          refine a_iinc (z := (i : Int)) (lv' := [.retAddr 0, .ref 0, .ref 84, vi ((i : Int) + 6)]) A dL_law_711 rfl (by decide) rfl ?_
          refine a_goto (tgt := 18) A dL_law_714 (by decide) ?_
          exact ih (i + 6) M2 hn6 (zu_posts hJ h1 h2).2 hi6
        · refine a_tswI (tgt := 139) (off := 106) A dL_law_33 hsx (by omega) (by omega) (by rw [hs]; rfl) (by decide) ?_
          refine a_aload_n (z := 0) A dL_law_139 rfl ?_
          refine a_aloadS A dL_law_140 rfl ?_
          refine a_iload_n (z := (i : Int)) A dL_law_141 rfl ?_
          refine a_iconst A dL_law_142 ?_
          refine a_iadd (x := (i : Int)) (y := 1) A dL_law_143 ?_
          refine l_sald (j := (i + 1)) A hX hbz dL_law_144 (by omega) (by omega) hL3 ?_
          refine a_aloadS A dL_law_145 rfl ?_
          refine a_iload_n (z := (i : Int)) A dL_law_146 rfl ?_
          refine a_iconst A dL_law_147 ?_
          refine a_iadd (x := (i : Int)) (y := 2) A dL_law_148 ?_
          refine l_sald (j := (i + 2)) A hX hbz dL_law_149 (by omega) (by omega) hL3 ?_
          refine a_aloadS A dL_law_150 rfl ?_
          refine a_iload_n (z := (i : Int)) A dL_law_151 rfl ?_
          refine a_iconst A dL_law_152 ?_
          refine a_iadd (x := (i : Int)) (y := 3) A dL_law_153 ?_
          refine l_sald (j := (i + 3)) A hX hbz dL_law_154 (by omega) (by omega) hL3 ?_
          refine a_aloadS A dL_law_155 rfl ?_
          refine a_iload_n (z := (i : Int)) A dL_law_156 rfl ?_
          refine a_iconst A dL_law_157 ?_
          refine a_iadd (x := (i : Int)) (y := 4) A dL_law_158 ?_
          refine l_sald (j := (i + 4)) A hX hbz dL_law_159 (by omega) (by omega) hL3 ?_
          refine a_aloadS A dL_law_160 rfl ?_
          refine a_iload_n (z := (i : Int)) A dL_law_161 rfl ?_
          refine a_iconst A dL_law_162 ?_
          refine a_iadd (x := (i : Int)) (y := 5) A dL_law_163 ?_
          refine l_sald (j := (i + 5)) A hX hbz dL_law_164 (by omega) (by omega) hL3 ?_
          refine l_invVi A rfl (c_X4_lane G _ ((xs (i + 1)).toInt) ((xs (i + 2)).toInt) ((xs (i + 3)).toInt) ((xs (i + 4)).toInt) ((xs (i + 5)).toInt) M (zx _) (zx _) (zx _) (zx _) (zx _) hC.2.1 hC.1) (by decide) mi_X4_lane mv_X4_lane cs_L_18 cf4 dL_law_165 rfl (by decide) rfl rfl (Nat.le_of_ble_eq_true rfl) ⟨Nat.le_refl _, Nat.le_refl _⟩ (fun z1 M1 h1 => ?_)
          replace h1 : pc_lane ((xs (i + 1)).toInt) ((xs (i + 2)).toInt) ((xs (i + 3)).toInt) ((xs (i + 4)).toInt) ((xs (i + 5)).toInt) M z1 M1 := h1
          have hR := hJ.1.rb (zf_lane hC.2.1 h1)
          have hW := hR.1
          have hB := hR.2.1
          have hK := hR.2.2.1
          refine l_pop A dL_law_168 ?_
          refine a_aload_n (z := 84) A dL_law_169 rfl ?_
          refine a_aloadS A dL_law_170 rfl ?_
          refine a_iload_n (z := (i : Int)) A dL_law_171 rfl ?_
          refine a_iconst A dL_law_172 ?_
          refine a_iadd (x := (i : Int)) (y := 1) A dL_law_173 ?_
          refine l_sald (j := (i + 1)) A hX hbz dL_law_174 (by omega) (by omega) hL3 ?_
          refine a_aloadS A dL_law_175 rfl ?_
          refine a_iload_n (z := (i : Int)) A dL_law_176 rfl ?_
          refine a_iconst A dL_law_177 ?_
          refine a_iadd (x := (i : Int)) (y := 2) A dL_law_178 ?_
          refine l_sald (j := (i + 2)) A hX hbz dL_law_179 (by omega) (by omega) hL3 ?_
          refine a_aloadS A dL_law_180 rfl ?_
          refine a_iload_n (z := (i : Int)) A dL_law_181 rfl ?_
          refine a_iconst A dL_law_182 ?_
          refine a_iadd (x := (i : Int)) (y := 3) A dL_law_183 ?_
          refine l_sald (j := (i + 3)) A hX hbz dL_law_184 (by omega) (by omega) hL3 ?_
          refine a_aloadS A dL_law_185 rfl ?_
          refine a_iload_n (z := (i : Int)) A dL_law_186 rfl ?_
          refine a_iconst A dL_law_187 ?_
          refine a_iadd (x := (i : Int)) (y := 4) A dL_law_188 ?_
          refine l_sald (j := (i + 4)) A hX hbz dL_law_189 (by omega) (by omega) hL3 ?_
          refine a_aloadS A dL_law_190 rfl ?_
          refine a_iload_n (z := (i : Int)) A dL_law_191 rfl ?_
          refine a_iconst A dL_law_192 ?_
          refine a_iadd (x := (i : Int)) (y := 5) A dL_law_193 ?_
          refine l_sald (j := (i + 5)) A hX hbz dL_law_194 (by omega) (by omega) hL3 ?_
          refine l_invVi A rfl (c_X5_lane G _ ((xs (i + 1)).toInt) ((xs (i + 2)).toInt) ((xs (i + 3)).toInt) ((xs (i + 4)).toInt) ((xs (i + 5)).toInt) M1 (zx _) (zx _) (zx _) (zx _) (zx _) hW.2.1 hW.1) (by decide) mi_X5_lane mv_X5_lane cs_L_22 cf5 dL_law_195 rfl (by decide) rfl rfl (Nat.le_of_ble_eq_true rfl) ⟨Nat.le_refl _, Nat.le_refl _⟩ (fun z2 M2 h2 => ?_)
          replace h2 : pr_lane ((xs (i + 1)).toInt) ((xs (i + 2)).toInt) ((xs (i + 3)).toInt) ((xs (i + 4)).toInt) ((xs (i + 5)).toInt) M1 z2 M2 := h2
          refine l_pop A dL_law_198 ?_
          refine a_goto (tgt := 711) A dL_law_199 (by decide) ?_
          refine a_iinc (z := (i : Int)) (lv' := [.retAddr 0, .ref 0, .ref 84, vi ((i : Int) + 6)]) A dL_law_711 rfl (by decide) rfl ?_
          refine a_goto (tgt := 18) A dL_law_714 (by decide) ?_
          exact ih (i + 6) M2 hn6 (zu_lane hJ h1 h2).2 hi6
        · refine a_tswI (tgt := 202) (off := 169) A dL_law_33 hsx (by omega) (by omega) (by rw [hs]; rfl) (by decide) ?_
          refine a_aload_n (z := 0) A dL_law_202 rfl ?_
          refine a_aloadS A dL_law_203 rfl ?_
          refine a_iload_n (z := (i : Int)) A dL_law_204 rfl ?_
          refine a_iconst A dL_law_205 ?_
          refine a_iadd (x := (i : Int)) (y := 1) A dL_law_206 ?_
          refine l_sald (j := (i + 1)) A hX hbz dL_law_207 (by omega) (by omega) hL3 ?_
          refine a_aloadS A dL_law_208 rfl ?_
          refine a_iload_n (z := (i : Int)) A dL_law_209 rfl ?_
          refine a_iconst A dL_law_210 ?_
          refine a_iadd (x := (i : Int)) (y := 2) A dL_law_211 ?_
          refine l_sald (j := (i + 2)) A hX hbz dL_law_212 (by omega) (by omega) hL3 ?_
          refine l_invVi A rfl (c_X4_room G _ ((xs (i + 1)).toInt) ((xs (i + 2)).toInt) M (zx _) (zx _) hC.2.1) (by decide) mi_X4_room mv_X4_room cs_L_23 cf4 dL_law_213 rfl (by decide) rfl rfl (Nat.le_of_ble_eq_true rfl) ⟨Nat.le_refl _, Nat.le_refl _⟩ (fun z1 M1 h1 => ?_)
          replace h1 : pc_room ((xs (i + 1)).toInt) ((xs (i + 2)).toInt) M z1 M1 := h1
          have hR := hJ.1.rb (zf_room hC.2.1 h1)
          have hW := hR.1
          have hB := hR.2.1
          have hK := hR.2.2.1
          refine l_pop A dL_law_216 ?_
          refine a_aload_n (z := 84) A dL_law_217 rfl ?_
          refine a_aloadS A dL_law_218 rfl ?_
          refine a_iload_n (z := (i : Int)) A dL_law_219 rfl ?_
          refine a_iconst A dL_law_220 ?_
          refine a_iadd (x := (i : Int)) (y := 1) A dL_law_221 ?_
          refine l_sald (j := (i + 1)) A hX hbz dL_law_222 (by omega) (by omega) hL3 ?_
          refine a_aloadS A dL_law_223 rfl ?_
          refine a_iload_n (z := (i : Int)) A dL_law_224 rfl ?_
          refine a_iconst A dL_law_225 ?_
          refine a_iadd (x := (i : Int)) (y := 2) A dL_law_226 ?_
          refine l_sald (j := (i + 2)) A hX hbz dL_law_227 (by omega) (by omega) hL3 ?_
          refine l_invVi A rfl (c_X5_room G _ ((xs (i + 1)).toInt) ((xs (i + 2)).toInt) M1 (zx _) (zx _) hW.2.1) (by decide) mi_X5_room mv_X5_room cs_L_27 cf5 dL_law_228 rfl (by decide) rfl rfl (Nat.le_of_ble_eq_true rfl) ⟨Nat.le_refl _, Nat.le_refl _⟩ (fun z2 M2 h2 => ?_)
          replace h2 : pr_room ((xs (i + 1)).toInt) ((xs (i + 2)).toInt) M1 z2 M2 := h2
          refine l_pop A dL_law_231 ?_
          refine a_goto (tgt := 711) A dL_law_232 (by decide) ?_
          refine a_iinc (z := (i : Int)) (lv' := [.retAddr 0, .ref 0, .ref 84, vi ((i : Int) + 6)]) A dL_law_711 rfl (by decide) rfl ?_
          refine a_goto (tgt := 18) A dL_law_714 (by decide) ?_
          exact ih (i + 6) M2 hn6 (zu_room hJ h1 h2).2 hi6
        · refine a_tswI (tgt := 235) (off := 202) A dL_law_33 hsx (by omega) (by omega) (by rw [hs]; rfl) (by decide) ?_
          refine a_aload_n (z := 0) A dL_law_235 rfl ?_
          refine a_aloadS A dL_law_236 rfl ?_
          refine a_iload_n (z := (i : Int)) A dL_law_237 rfl ?_
          refine a_iconst A dL_law_238 ?_
          refine a_iadd (x := (i : Int)) (y := 1) A dL_law_239 ?_
          refine l_sald (j := (i + 1)) A hX hbz dL_law_240 (by omega) (by omega) hL3 ?_
          refine a_aloadS A dL_law_241 rfl ?_
          refine a_iload_n (z := (i : Int)) A dL_law_242 rfl ?_
          refine a_iconst A dL_law_243 ?_
          refine a_iadd (x := (i : Int)) (y := 2) A dL_law_244 ?_
          refine l_sald (j := (i + 2)) A hX hbz dL_law_245 (by omega) (by omega) hL3 ?_
          refine a_aloadS A dL_law_246 rfl ?_
          refine a_iload_n (z := (i : Int)) A dL_law_247 rfl ?_
          refine a_iconst A dL_law_248 ?_
          refine a_iadd (x := (i : Int)) (y := 3) A dL_law_249 ?_
          refine l_sald (j := (i + 3)) A hX hbz dL_law_250 (by omega) (by omega) hL3 ?_
          refine a_aloadS A dL_law_251 rfl ?_
          refine a_iload_n (z := (i : Int)) A dL_law_252 rfl ?_
          refine a_iconst A dL_law_253 ?_
          refine a_iadd (x := (i : Int)) (y := 4) A dL_law_254 ?_
          refine l_sald (j := (i + 4)) A hX hbz dL_law_255 (by omega) (by omega) hL3 ?_
          refine l_invVi A rfl (c_X4_share G _ ((xs (i + 1)).toInt) ((xs (i + 2)).toInt) ((xs (i + 3)).toInt) ((xs (i + 4)).toInt) M (zx _) (zx _) (zx _) (zx _) hC.2.1) (by decide) mi_X4_share mv_X4_share cs_L_28 cf4 dL_law_256 rfl (by decide) rfl rfl (Nat.le_of_ble_eq_true rfl) ⟨Nat.le_refl _, Nat.le_refl _⟩ (fun z1 M1 h1 => ?_)
          replace h1 : pc_share ((xs (i + 1)).toInt) ((xs (i + 2)).toInt) ((xs (i + 3)).toInt) ((xs (i + 4)).toInt) M z1 M1 := h1
          have hR := hJ.1.rb (zf_share hC.2.1 h1)
          have hW := hR.1
          have hB := hR.2.1
          have hK := hR.2.2.1
          refine l_pop A dL_law_259 ?_
          refine a_aload_n (z := 84) A dL_law_260 rfl ?_
          refine a_aloadS A dL_law_261 rfl ?_
          refine a_iload_n (z := (i : Int)) A dL_law_262 rfl ?_
          refine a_iconst A dL_law_263 ?_
          refine a_iadd (x := (i : Int)) (y := 1) A dL_law_264 ?_
          refine l_sald (j := (i + 1)) A hX hbz dL_law_265 (by omega) (by omega) hL3 ?_
          refine a_aloadS A dL_law_266 rfl ?_
          refine a_iload_n (z := (i : Int)) A dL_law_267 rfl ?_
          refine a_iconst A dL_law_268 ?_
          refine a_iadd (x := (i : Int)) (y := 2) A dL_law_269 ?_
          refine l_sald (j := (i + 2)) A hX hbz dL_law_270 (by omega) (by omega) hL3 ?_
          refine a_aloadS A dL_law_271 rfl ?_
          refine a_iload_n (z := (i : Int)) A dL_law_272 rfl ?_
          refine a_iconst A dL_law_273 ?_
          refine a_iadd (x := (i : Int)) (y := 3) A dL_law_274 ?_
          refine l_sald (j := (i + 3)) A hX hbz dL_law_275 (by omega) (by omega) hL3 ?_
          refine a_aloadS A dL_law_276 rfl ?_
          refine a_iload_n (z := (i : Int)) A dL_law_277 rfl ?_
          refine a_iconst A dL_law_278 ?_
          refine a_iadd (x := (i : Int)) (y := 4) A dL_law_279 ?_
          refine l_sald (j := (i + 4)) A hX hbz dL_law_280 (by omega) (by omega) hL3 ?_
          refine l_invVi A rfl (c_X5_share G _ ((xs (i + 1)).toInt) ((xs (i + 2)).toInt) ((xs (i + 3)).toInt) ((xs (i + 4)).toInt) M1 (zx _) (zx _) (zx _) (zx _) hW.2.1) (by decide) mi_X5_share mv_X5_share cs_L_32 cf5 dL_law_281 rfl (by decide) rfl rfl (Nat.le_of_ble_eq_true rfl) ⟨Nat.le_refl _, Nat.le_refl _⟩ (fun z2 M2 h2 => ?_)
          replace h2 : pr_share ((xs (i + 1)).toInt) ((xs (i + 2)).toInt) ((xs (i + 3)).toInt) ((xs (i + 4)).toInt) M1 z2 M2 := h2
          refine l_pop A dL_law_284 ?_
          refine a_goto (tgt := 711) A dL_law_285 (by decide) ?_
          refine a_iinc (z := (i : Int)) (lv' := [.retAddr 0, .ref 0, .ref 84, vi ((i : Int) + 6)]) A dL_law_711 rfl (by decide) rfl ?_
          refine a_goto (tgt := 18) A dL_law_714 (by decide) ?_
          exact ih (i + 6) M2 hn6 (zu_share hJ h1 h2).2 hi6
        · refine a_tswI (tgt := 288) (off := 255) A dL_law_33 hsx (by omega) (by omega) (by rw [hs]; rfl) (by decide) ?_
          refine a_aload_n (z := 0) A dL_law_288 rfl ?_
          refine a_aloadS A dL_law_289 rfl ?_
          refine a_iload_n (z := (i : Int)) A dL_law_290 rfl ?_
          refine a_iconst A dL_law_291 ?_
          refine a_iadd (x := (i : Int)) (y := 1) A dL_law_292 ?_
          refine l_sald (j := (i + 1)) A hX hbz dL_law_293 (by omega) (by omega) hL3 ?_
          refine a_aloadS A dL_law_294 rfl ?_
          refine a_iload_n (z := (i : Int)) A dL_law_295 rfl ?_
          refine a_iconst A dL_law_296 ?_
          refine a_iadd (x := (i : Int)) (y := 2) A dL_law_297 ?_
          refine l_sald (j := (i + 2)) A hX hbz dL_law_298 (by omega) (by omega) hL3 ?_
          refine l_invVi A rfl (c_X4_tell G _ ((xs (i + 1)).toInt) ((xs (i + 2)).toInt) M (zx _) (zx _) hC.2.1) (by decide) mi_X4_tell mv_X4_tell cs_L_33 cf4 dL_law_299 rfl (by decide) rfl rfl (Nat.le_of_ble_eq_true rfl) ⟨Nat.le_refl _, Nat.le_refl _⟩ (fun z1 M1 h1 => ?_)
          replace h1 : pc_tell ((xs (i + 1)).toInt) ((xs (i + 2)).toInt) M z1 M1 := h1
          have hR := hJ.1.rb (zf_tell h1)
          have hW := hR.1
          have hB := hR.2.1
          have hK := hR.2.2.1
          refine l_pop A dL_law_302 ?_
          refine a_aload_n (z := 84) A dL_law_303 rfl ?_
          refine a_aloadS A dL_law_304 rfl ?_
          refine a_iload_n (z := (i : Int)) A dL_law_305 rfl ?_
          refine a_iconst A dL_law_306 ?_
          refine a_iadd (x := (i : Int)) (y := 1) A dL_law_307 ?_
          refine l_sald (j := (i + 1)) A hX hbz dL_law_308 (by omega) (by omega) hL3 ?_
          refine a_aloadS A dL_law_309 rfl ?_
          refine a_iload_n (z := (i : Int)) A dL_law_310 rfl ?_
          refine a_iconst A dL_law_311 ?_
          refine a_iadd (x := (i : Int)) (y := 2) A dL_law_312 ?_
          refine l_sald (j := (i + 2)) A hX hbz dL_law_313 (by omega) (by omega) hL3 ?_
          refine l_invVi A rfl (c_X5_tell G _ ((xs (i + 1)).toInt) ((xs (i + 2)).toInt) M1 (zx _) (zx _) hW.2.1 hW.2.2) (by decide) mi_X5_tell mv_X5_tell cs_L_37 cf5 dL_law_314 rfl (by decide) rfl rfl (Nat.le_of_ble_eq_true rfl) ⟨Nat.le_refl _, Nat.le_refl _⟩ (fun z2 M2 h2 => ?_)
          replace h2 : pr_tell ((xs (i + 1)).toInt) ((xs (i + 2)).toInt) M1 z2 M2 := h2
          refine l_pop A dL_law_317 ?_
          refine a_goto (tgt := 711) A dL_law_318 (by decide) ?_
          refine a_iinc (z := (i : Int)) (lv' := [.retAddr 0, .ref 0, .ref 84, vi ((i : Int) + 6)]) A dL_law_711 rfl (by decide) rfl ?_
          refine a_goto (tgt := 18) A dL_law_714 (by decide) ?_
          exact ih (i + 6) M2 hn6 (zu_tell hJ h1 h2).2 hi6
        · refine a_tswI (tgt := 321) (off := 288) A dL_law_33 hsx (by omega) (by omega) (by rw [hs]; rfl) (by decide) ?_
          refine a_aload_n (z := 0) A dL_law_321 rfl ?_
          refine a_aloadS A dL_law_322 rfl ?_
          refine a_iload_n (z := (i : Int)) A dL_law_323 rfl ?_
          refine a_iconst A dL_law_324 ?_
          refine a_iadd (x := (i : Int)) (y := 1) A dL_law_325 ?_
          refine l_sald (j := (i + 1)) A hX hbz dL_law_326 (by omega) (by omega) hL3 ?_
          refine a_aloadS A dL_law_327 rfl ?_
          refine a_iload_n (z := (i : Int)) A dL_law_328 rfl ?_
          refine a_iconst A dL_law_329 ?_
          refine a_iadd (x := (i : Int)) (y := 2) A dL_law_330 ?_
          refine l_sald (j := (i + 2)) A hX hbz dL_law_331 (by omega) (by omega) hL3 ?_
          refine a_if_eq (tgt := 339) A dL_law_332 (by decide) (zx _) (fun hx2_1 => ?_) (fun hx2_1 => ?_)
          · refine a_iconst A dL_law_339 ?_
            refine l_invVl A rfl (c_X4_most G _ ((xs (i + 1)).toInt) 0 M (zx _) (by decide) hC hZ) (by decide) mi_X4_most mv_X4_most cs_L_38 cf4 dL_law_340 rfl (by decide) rfl rfl (Nat.le_of_ble_eq_true rfl) ⟨Nat.le_refl _, Nat.le_refl _⟩ (fun z1 M1 h1 => ?_)
            replace h1 : pc_most ((xs (i + 1)).toInt) 0 M z1 M1 := h1
            have hR := hJ.1.rb (zf_most h1)
            have hW := hR.1
            have hB := hR.2.1
            have hK := hR.2.2.1
            refine l_pop2 A dL_law_343 ?_
            refine a_aload_n (z := 84) A dL_law_344 rfl ?_
            refine a_aloadS A dL_law_345 rfl ?_
            refine a_iload_n (z := (i : Int)) A dL_law_346 rfl ?_
            refine a_iconst A dL_law_347 ?_
            refine a_iadd (x := (i : Int)) (y := 1) A dL_law_348 ?_
            refine l_sald (j := (i + 1)) A hX hbz dL_law_349 (by omega) (by omega) hL3 ?_
            refine a_aloadS A dL_law_350 rfl ?_
            refine a_iload_n (z := (i : Int)) A dL_law_351 rfl ?_
            refine a_iconst A dL_law_352 ?_
            refine a_iadd (x := (i : Int)) (y := 2) A dL_law_353 ?_
            refine l_sald (j := (i + 2)) A hX hbz dL_law_354 (by omega) (by omega) hL3 ?_
            refine a_if_eq (tgt := 362) A dL_law_355 (by decide) (zx _) (fun hx2_2 => ?_) (fun hx2_2 => ?_)
            · refine a_iconst A dL_law_362 ?_
              refine l_invVl A rfl (c_X5_most G _ ((xs (i + 1)).toInt) 0 M1 (zx _) (by decide) hW) (by decide) mi_X5_most mv_X5_most cs_L_42 cf5 dL_law_363 rfl (by decide) rfl rfl (Nat.le_of_ble_eq_true rfl) ⟨Nat.le_refl _, Nat.le_refl _⟩ (fun z2 M2 h2 => ?_)
              replace h2 : pr_most ((xs (i + 1)).toInt) 0 M1 z2 M2 := h2
              refine l_pop2 A dL_law_366 ?_
              refine a_goto (tgt := 711) A dL_law_367 (by decide) ?_
              refine a_iinc (z := (i : Int)) (lv' := [.retAddr 0, .ref 0, .ref 84, vi ((i : Int) + 6)]) A dL_law_711 rfl (by decide) rfl ?_
              refine a_goto (tgt := 18) A dL_law_714 (by decide) ?_
              exact ih (i + 6) M2 hn6 (zu_most hJ h1 h2) hi6
            · exact absurd hx2_1 hx2_2
          · refine a_iconst A dL_law_335 ?_
            refine a_goto (tgt := 340) A dL_law_336 (by decide) ?_
            refine l_invVl A rfl (c_X4_most G _ ((xs (i + 1)).toInt) 1 M (zx _) (by decide) hC hZ) (by decide) mi_X4_most mv_X4_most cs_L_38 cf4 dL_law_340 rfl (by decide) rfl rfl (Nat.le_of_ble_eq_true rfl) ⟨Nat.le_refl _, Nat.le_refl _⟩ (fun z1 M1 h1 => ?_)
            replace h1 : pc_most ((xs (i + 1)).toInt) 1 M z1 M1 := h1
            have hR := hJ.1.rb (zf_most h1)
            have hW := hR.1
            have hB := hR.2.1
            have hK := hR.2.2.1
            refine l_pop2 A dL_law_343 ?_
            refine a_aload_n (z := 84) A dL_law_344 rfl ?_
            refine a_aloadS A dL_law_345 rfl ?_
            refine a_iload_n (z := (i : Int)) A dL_law_346 rfl ?_
            refine a_iconst A dL_law_347 ?_
            refine a_iadd (x := (i : Int)) (y := 1) A dL_law_348 ?_
            refine l_sald (j := (i + 1)) A hX hbz dL_law_349 (by omega) (by omega) hL3 ?_
            refine a_aloadS A dL_law_350 rfl ?_
            refine a_iload_n (z := (i : Int)) A dL_law_351 rfl ?_
            refine a_iconst A dL_law_352 ?_
            refine a_iadd (x := (i : Int)) (y := 2) A dL_law_353 ?_
            refine l_sald (j := (i + 2)) A hX hbz dL_law_354 (by omega) (by omega) hL3 ?_
            refine a_if_eq (tgt := 362) A dL_law_355 (by decide) (zx _) (fun hx2_3 => ?_) (fun hx2_3 => ?_)
            · exact absurd hx2_3 hx2_1
            · refine a_iconst A dL_law_358 ?_
              refine a_goto (tgt := 363) A dL_law_359 (by decide) ?_
              refine l_invVl A rfl (c_X5_most G _ ((xs (i + 1)).toInt) 1 M1 (zx _) (by decide) hW) (by decide) mi_X5_most mv_X5_most cs_L_42 cf5 dL_law_363 rfl (by decide) rfl rfl (Nat.le_of_ble_eq_true rfl) ⟨Nat.le_refl _, Nat.le_refl _⟩ (fun z2 M2 h2 => ?_)
              replace h2 : pr_most ((xs (i + 1)).toInt) 1 M1 z2 M2 := h2
              refine l_pop2 A dL_law_366 ?_
              refine a_goto (tgt := 711) A dL_law_367 (by decide) ?_
              refine a_iinc (z := (i : Int)) (lv' := [.retAddr 0, .ref 0, .ref 84, vi ((i : Int) + 6)]) A dL_law_711 rfl (by decide) rfl ?_
              refine a_goto (tgt := 18) A dL_law_714 (by decide) ?_
              exact ih (i + 6) M2 hn6 (zu_most hJ h1 h2) hi6
        · refine a_tswI (tgt := 370) (off := 337) A dL_law_33 hsx (by omega) (by omega) (by rw [hs]; rfl) (by decide) ?_
          refine a_aload_n (z := 0) A dL_law_370 rfl ?_
          refine a_aloadS A dL_law_371 rfl ?_
          refine a_iload_n (z := (i : Int)) A dL_law_372 rfl ?_
          refine a_iconst A dL_law_373 ?_
          refine a_iadd (x := (i : Int)) (y := 1) A dL_law_374 ?_
          refine l_sald (j := (i + 1)) A hX hbz dL_law_375 (by omega) (by omega) hL3 ?_
          refine a_aloadS A dL_law_376 rfl ?_
          refine a_iload_n (z := (i : Int)) A dL_law_377 rfl ?_
          refine a_iconst A dL_law_378 ?_
          refine a_iadd (x := (i : Int)) (y := 2) A dL_law_379 ?_
          refine l_sald (j := (i + 2)) A hX hbz dL_law_380 (by omega) (by omega) hL3 ?_
          refine a_aloadS A dL_law_381 rfl ?_
          refine a_iload_n (z := (i : Int)) A dL_law_382 rfl ?_
          refine a_iconst A dL_law_383 ?_
          refine a_iadd (x := (i : Int)) (y := 3) A dL_law_384 ?_
          refine l_sald (j := (i + 3)) A hX hbz dL_law_385 (by omega) (by omega) hL3 ?_
          refine a_if_eq (tgt := 393) A dL_law_386 (by decide) (zx _) (fun hx3_4 => ?_) (fun hx3_4 => ?_)
          · refine a_iconst A dL_law_393 ?_
            refine l_invVl A rfl (c_X4_more G _ ((xs (i + 1)).toInt) ((xs (i + 2)).toInt) 0 M (zx _) (zx _) (by decide) hC hZ) (by decide) mi_X4_more mv_X4_more cs_L_43 cf4 dL_law_394 rfl (by decide) rfl rfl (Nat.le_of_ble_eq_true rfl) ⟨Nat.le_refl _, Nat.le_refl _⟩ (fun z1 M1 h1 => ?_)
            replace h1 : pc_more ((xs (i + 1)).toInt) ((xs (i + 2)).toInt) 0 M z1 M1 := h1
            have hR := hJ.1.rb (zf_more h1)
            have hW := hR.1
            have hB := hR.2.1
            have hK := hR.2.2.1
            refine l_pop2 A dL_law_397 ?_
            refine a_aload_n (z := 84) A dL_law_398 rfl ?_
            refine a_aloadS A dL_law_399 rfl ?_
            refine a_iload_n (z := (i : Int)) A dL_law_400 rfl ?_
            refine a_iconst A dL_law_401 ?_
            refine a_iadd (x := (i : Int)) (y := 1) A dL_law_402 ?_
            refine l_sald (j := (i + 1)) A hX hbz dL_law_403 (by omega) (by omega) hL3 ?_
            refine a_aloadS A dL_law_404 rfl ?_
            refine a_iload_n (z := (i : Int)) A dL_law_405 rfl ?_
            refine a_iconst A dL_law_406 ?_
            refine a_iadd (x := (i : Int)) (y := 2) A dL_law_407 ?_
            refine l_sald (j := (i + 2)) A hX hbz dL_law_408 (by omega) (by omega) hL3 ?_
            refine a_aloadS A dL_law_409 rfl ?_
            refine a_iload_n (z := (i : Int)) A dL_law_410 rfl ?_
            refine a_iconst A dL_law_411 ?_
            refine a_iadd (x := (i : Int)) (y := 3) A dL_law_412 ?_
            refine l_sald (j := (i + 3)) A hX hbz dL_law_413 (by omega) (by omega) hL3 ?_
            refine a_if_eq (tgt := 421) A dL_law_414 (by decide) (zx _) (fun hx3_5 => ?_) (fun hx3_5 => ?_)
            · refine a_iconst A dL_law_421 ?_
              refine l_invVl A rfl (c_X5_more G _ ((xs (i + 1)).toInt) ((xs (i + 2)).toInt) 0 M1 (zx _) (zx _) (by decide) hW) (by decide) mi_X5_more mv_X5_more cs_L_47 cf5 dL_law_422 rfl (by decide) rfl rfl (Nat.le_of_ble_eq_true rfl) ⟨Nat.le_refl _, Nat.le_refl _⟩ (fun z2 M2 h2 => ?_)
              replace h2 : pr_more ((xs (i + 1)).toInt) ((xs (i + 2)).toInt) 0 M1 z2 M2 := h2
              refine l_pop2 A dL_law_425 ?_
              refine a_goto (tgt := 711) A dL_law_426 (by decide) ?_
              refine a_iinc (z := (i : Int)) (lv' := [.retAddr 0, .ref 0, .ref 84, vi ((i : Int) + 6)]) A dL_law_711 rfl (by decide) rfl ?_
              refine a_goto (tgt := 18) A dL_law_714 (by decide) ?_
              exact ih (i + 6) M2 hn6 (zu_more hJ h1 h2) hi6
            · exact absurd hx3_4 hx3_5
          · refine a_iconst A dL_law_389 ?_
            refine a_goto (tgt := 394) A dL_law_390 (by decide) ?_
            refine l_invVl A rfl (c_X4_more G _ ((xs (i + 1)).toInt) ((xs (i + 2)).toInt) 1 M (zx _) (zx _) (by decide) hC hZ) (by decide) mi_X4_more mv_X4_more cs_L_43 cf4 dL_law_394 rfl (by decide) rfl rfl (Nat.le_of_ble_eq_true rfl) ⟨Nat.le_refl _, Nat.le_refl _⟩ (fun z1 M1 h1 => ?_)
            replace h1 : pc_more ((xs (i + 1)).toInt) ((xs (i + 2)).toInt) 1 M z1 M1 := h1
            have hR := hJ.1.rb (zf_more h1)
            have hW := hR.1
            have hB := hR.2.1
            have hK := hR.2.2.1
            refine l_pop2 A dL_law_397 ?_
            refine a_aload_n (z := 84) A dL_law_398 rfl ?_
            refine a_aloadS A dL_law_399 rfl ?_
            refine a_iload_n (z := (i : Int)) A dL_law_400 rfl ?_
            refine a_iconst A dL_law_401 ?_
            refine a_iadd (x := (i : Int)) (y := 1) A dL_law_402 ?_
            refine l_sald (j := (i + 1)) A hX hbz dL_law_403 (by omega) (by omega) hL3 ?_
            refine a_aloadS A dL_law_404 rfl ?_
            refine a_iload_n (z := (i : Int)) A dL_law_405 rfl ?_
            refine a_iconst A dL_law_406 ?_
            refine a_iadd (x := (i : Int)) (y := 2) A dL_law_407 ?_
            refine l_sald (j := (i + 2)) A hX hbz dL_law_408 (by omega) (by omega) hL3 ?_
            refine a_aloadS A dL_law_409 rfl ?_
            refine a_iload_n (z := (i : Int)) A dL_law_410 rfl ?_
            refine a_iconst A dL_law_411 ?_
            refine a_iadd (x := (i : Int)) (y := 3) A dL_law_412 ?_
            refine l_sald (j := (i + 3)) A hX hbz dL_law_413 (by omega) (by omega) hL3 ?_
            refine a_if_eq (tgt := 421) A dL_law_414 (by decide) (zx _) (fun hx3_6 => ?_) (fun hx3_6 => ?_)
            · exact absurd hx3_6 hx3_4
            · refine a_iconst A dL_law_417 ?_
              refine a_goto (tgt := 422) A dL_law_418 (by decide) ?_
              refine l_invVl A rfl (c_X5_more G _ ((xs (i + 1)).toInt) ((xs (i + 2)).toInt) 1 M1 (zx _) (zx _) (by decide) hW) (by decide) mi_X5_more mv_X5_more cs_L_47 cf5 dL_law_422 rfl (by decide) rfl rfl (Nat.le_of_ble_eq_true rfl) ⟨Nat.le_refl _, Nat.le_refl _⟩ (fun z2 M2 h2 => ?_)
              replace h2 : pr_more ((xs (i + 1)).toInt) ((xs (i + 2)).toInt) 1 M1 z2 M2 := h2
              refine l_pop2 A dL_law_425 ?_
              refine a_goto (tgt := 711) A dL_law_426 (by decide) ?_
              refine a_iinc (z := (i : Int)) (lv' := [.retAddr 0, .ref 0, .ref 84, vi ((i : Int) + 6)]) A dL_law_711 rfl (by decide) rfl ?_
              refine a_goto (tgt := 18) A dL_law_714 (by decide) ?_
              exact ih (i + 6) M2 hn6 (zu_more hJ h1 h2) hi6
        · refine a_tswI (tgt := 429) (off := 396) A dL_law_33 hsx (by omega) (by omega) (by rw [hs]; rfl) (by decide) ?_
          refine a_aload_n (z := 0) A dL_law_429 rfl ?_
          refine a_aloadS A dL_law_430 rfl ?_
          refine a_iload_n (z := (i : Int)) A dL_law_431 rfl ?_
          refine a_iconst A dL_law_432 ?_
          refine a_iadd (x := (i : Int)) (y := 1) A dL_law_433 ?_
          refine l_sald (j := (i + 1)) A hX hbz dL_law_434 (by omega) (by omega) hL3 ?_
          refine a_aloadS A dL_law_435 rfl ?_
          refine a_iload_n (z := (i : Int)) A dL_law_436 rfl ?_
          refine a_iconst A dL_law_437 ?_
          refine a_iadd (x := (i : Int)) (y := 2) A dL_law_438 ?_
          refine l_sald (j := (i + 2)) A hX hbz dL_law_439 (by omega) (by omega) hL3 ?_
          refine l_invVi A rfl (c_X4_way G _ ((xs (i + 1)).toInt) ((xs (i + 2)).toInt) M (zx _) (zx _) hC) (by decide) mi_X4_way mv_X4_way cs_L_48 cf4 dL_law_440 rfl (by decide) rfl rfl (Nat.le_of_ble_eq_true rfl) ⟨Nat.le_refl _, Nat.le_refl _⟩ (fun z1 M1 h1 => ?_)
          replace h1 : pc_way ((xs (i + 1)).toInt) ((xs (i + 2)).toInt) M z1 M1 := h1
          have hR := hJ.1.rb (zf_way hC h1)
          have hW := hR.1
          have hB := hR.2.1
          have hK := hR.2.2.1
          refine a_aload_n (z := 84) A dL_law_443 rfl ?_
          refine a_aloadS A dL_law_444 rfl ?_
          refine a_iload_n (z := (i : Int)) A dL_law_445 rfl ?_
          refine a_iconst A dL_law_446 ?_
          refine a_iadd (x := (i : Int)) (y := 1) A dL_law_447 ?_
          refine l_sald (j := (i + 1)) A hX hbz dL_law_448 (by omega) (by omega) hL3 ?_
          refine a_aloadS A dL_law_449 rfl ?_
          refine a_iload_n (z := (i : Int)) A dL_law_450 rfl ?_
          refine a_iconst A dL_law_451 ?_
          refine a_iadd (x := (i : Int)) (y := 2) A dL_law_452 ?_
          refine l_sald (j := (i + 2)) A hX hbz dL_law_453 (by omega) (by omega) hL3 ?_
          refine l_invVi A rfl (c_X5_way G _ ((xs (i + 1)).toInt) ((xs (i + 2)).toInt) M1 (zx _) (zx _) hW hB) (by decide) mi_X5_way mv_X5_way cs_L_51 cf5 dL_law_454 rfl (by decide) rfl rfl (Nat.le_of_ble_eq_true rfl) ⟨Nat.le_refl _, Nat.le_refl _⟩ (fun z2 M2 h2 => ?_)
          replace h2 : pr_way ((xs (i + 1)).toInt) ((xs (i + 2)).toInt) M1 z2 M2 := h2
          refine l_ieq (tgt := 711) A ((zu_way hJ h1 h2).1) dL_law_457 (by decide) ?_
          refine a_iinc (z := (i : Int)) (lv' := [.retAddr 0, .ref 0, .ref 84, vi ((i : Int) + 6)]) A dL_law_711 rfl (by decide) rfl ?_
          refine a_goto (tgt := 18) A dL_law_714 (by decide) ?_
          exact ih (i + 6) M2 hn6 (zu_way hJ h1 h2).2 hi6
        · refine a_tswI (tgt := 462) (off := 429) A dL_law_33 hsx (by omega) (by omega) (by rw [hs]; rfl) (by decide) ?_
          refine a_aload_n (z := 0) A dL_law_462 rfl ?_
          refine l_invVi A rfl (c_X4_ring G _  M  hC) (by decide) mi_X4_ring mv_X4_ring cs_L_52 cf4 dL_law_463 rfl (by decide) rfl rfl (Nat.le_of_ble_eq_true rfl) ⟨Nat.le_refl _, Nat.le_refl _⟩ (fun z1 M1 h1 => ?_)
          replace h1 : pc_ring  M z1 M1 := h1
          have hR := hJ.1.rb (zf_ring hC h1)
          have hW := hR.1
          have hB := hR.2.1
          have hK := hR.2.2.1
          refine l_pop A dL_law_466 ?_
          refine a_aload_n (z := 84) A dL_law_467 rfl ?_
          refine l_invVi A rfl (c_X5_ring G _  M1  hW hB) (by decide) mi_X5_ring mv_X5_ring cs_L_56 cf5 dL_law_468 rfl (by decide) rfl rfl (Nat.le_of_ble_eq_true rfl) ⟨Nat.le_refl _, Nat.le_refl _⟩ (fun z2 M2 h2 => ?_)
          replace h2 : pr_ring  M1 z2 M2 := h2
          refine l_pop A dL_law_471 ?_
          refine a_goto (tgt := 711) A dL_law_472 (by decide) ?_
          refine a_iinc (z := (i : Int)) (lv' := [.retAddr 0, .ref 0, .ref 84, vi ((i : Int) + 6)]) A dL_law_711 rfl (by decide) rfl ?_
          refine a_goto (tgt := 18) A dL_law_714 (by decide) ?_
          exact ih (i + 6) M2 hn6 (zu_ring hJ h1 h2).2 hi6
        · refine a_tswI (tgt := 475) (off := 442) A dL_law_33 hsx (by omega) (by omega) (by rw [hs]; rfl) (by decide) ?_
          refine a_aload_n (z := 0) A dL_law_475 rfl ?_
          refine a_aloadS A dL_law_476 rfl ?_
          refine a_iload_n (z := (i : Int)) A dL_law_477 rfl ?_
          refine a_iconst A dL_law_478 ?_
          refine a_iadd (x := (i : Int)) (y := 1) A dL_law_479 ?_
          refine l_sald (j := (i + 1)) A hX hbz dL_law_480 (by omega) (by omega) hL3 ?_
          refine l_invVi A rfl (c_X4_row G _ ((xs (i + 1)).toInt) M (zx _) hH) (by decide) mi_X4_row mv_X4_row cs_L_57 cf4 dL_law_481 rfl (by decide) rfl rfl (Nat.le_of_ble_eq_true rfl) ⟨Nat.le_refl _, Nat.le_refl _⟩ (fun z1 M1 h1 => ?_)
          replace h1 : pc_row ((xs (i + 1)).toInt) M z1 M1 := h1
          have hR := hJ.1.rb (zf_row h1)
          have hW := hR.1
          have hB := hR.2.1
          have hK := hR.2.2.1
          refine l_pop A dL_law_484 ?_
          refine a_aload_n (z := 84) A dL_law_485 rfl ?_
          refine a_aloadS A dL_law_486 rfl ?_
          refine a_iload_n (z := (i : Int)) A dL_law_487 rfl ?_
          refine a_iconst A dL_law_488 ?_
          refine a_iadd (x := (i : Int)) (y := 1) A dL_law_489 ?_
          refine l_sald (j := (i + 1)) A hX hbz dL_law_490 (by omega) (by omega) hL3 ?_
          refine l_invVi A rfl (c_X5_row G _ ((xs (i + 1)).toInt) M1 (zx _) hK) (by decide) mi_X5_row mv_X5_row cs_L_61 cf5 dL_law_491 rfl (by decide) rfl rfl (Nat.le_of_ble_eq_true rfl) ⟨Nat.le_refl _, Nat.le_refl _⟩ (fun z2 M2 h2 => ?_)
          replace h2 : pr_row ((xs (i + 1)).toInt) M1 z2 M2 := h2
          refine l_pop A dL_law_494 ?_
          refine a_goto (tgt := 711) A dL_law_495 (by decide) ?_
          refine a_iinc (z := (i : Int)) (lv' := [.retAddr 0, .ref 0, .ref 84, vi ((i : Int) + 6)]) A dL_law_711 rfl (by decide) rfl ?_
          refine a_goto (tgt := 18) A dL_law_714 (by decide) ?_
          exact ih (i + 6) M2 hn6 (zu_row hJ h1 h2).2 hi6
        · refine a_tswI (tgt := 498) (off := 465) A dL_law_33 hsx (by omega) (by omega) (by rw [hs]; rfl) (by decide) ?_
          refine a_aload_n (z := 0) A dL_law_498 rfl ?_
          refine a_aloadS A dL_law_499 rfl ?_
          refine a_iload_n (z := (i : Int)) A dL_law_500 rfl ?_
          refine a_iconst A dL_law_501 ?_
          refine a_iadd (x := (i : Int)) (y := 1) A dL_law_502 ?_
          refine l_sald (j := (i + 1)) A hX hbz dL_law_503 (by omega) (by omega) hL3 ?_
          refine a_if_eq (tgt := 511) A dL_law_504 (by decide) (zx _) (fun hx1_7 => ?_) (fun hx1_7 => ?_)
          · refine a_iconst A dL_law_511 ?_
            refine l_invVl A rfl (c_X4_gain G _ 0 N M (by decide) hNe hN4 hC hNr) (by decide) mi_X4_gain mv_X4_gain cs_L_62 cf4 dL_law_512 rfl (by decide) rfl rfl (Nat.le_of_ble_eq_true rfl) ⟨Nat.le_refl _, Nat.le_refl _⟩ (fun z1 M1 h1 => ?_)
            replace h1 : pc_gain 0 N M z1 M1 := h1
            have hR := hJ.1.rb (zf_gain h1)
            have hW := hR.1
            have hB := hR.2.1
            have hK := hR.2.2.1
            refine l_pop2 A dL_law_515 ?_
            refine a_aload_n (z := 84) A dL_law_516 rfl ?_
            refine a_aloadS A dL_law_517 rfl ?_
            refine a_iload_n (z := (i : Int)) A dL_law_518 rfl ?_
            refine a_iconst A dL_law_519 ?_
            refine a_iadd (x := (i : Int)) (y := 1) A dL_law_520 ?_
            refine l_sald (j := (i + 1)) A hX hbz dL_law_521 (by omega) (by omega) hL3 ?_
            refine a_if_eq (tgt := 529) A dL_law_522 (by decide) (zx _) (fun hx1_8 => ?_) (fun hx1_8 => ?_)
            · refine a_iconst A dL_law_529 ?_
              refine l_invVl A rfl (c_X5_gain G _ 0 M1 (by decide) hK) (by decide) mi_X5_gain mv_X5_gain cs_L_66 cf5 dL_law_530 rfl (by decide) rfl rfl (Nat.le_of_ble_eq_true rfl) ⟨Nat.le_refl _, Nat.le_refl _⟩ (fun z2 M2 h2 => ?_)
              replace h2 : pr_gain 0 M1 z2 M2 := h2
              refine l_pop2 A dL_law_533 ?_
              refine a_goto (tgt := 711) A dL_law_534 (by decide) ?_
              refine a_iinc (z := (i : Int)) (lv' := [.retAddr 0, .ref 0, .ref 84, vi ((i : Int) + 6)]) A dL_law_711 rfl (by decide) rfl ?_
              refine a_goto (tgt := 18) A dL_law_714 (by decide) ?_
              exact ih (i + 6) M2 hn6 (zu_gain hJ h1 h2) hi6
            · exact absurd hx1_7 hx1_8
          · refine a_iconst A dL_law_507 ?_
            refine a_goto (tgt := 512) A dL_law_508 (by decide) ?_
            refine l_invVl A rfl (c_X4_gain G _ 1 N M (by decide) hNe hN4 hC hNr) (by decide) mi_X4_gain mv_X4_gain cs_L_62 cf4 dL_law_512 rfl (by decide) rfl rfl (Nat.le_of_ble_eq_true rfl) ⟨Nat.le_refl _, Nat.le_refl _⟩ (fun z1 M1 h1 => ?_)
            replace h1 : pc_gain 1 N M z1 M1 := h1
            have hR := hJ.1.rb (zf_gain h1)
            have hW := hR.1
            have hB := hR.2.1
            have hK := hR.2.2.1
            refine l_pop2 A dL_law_515 ?_
            refine a_aload_n (z := 84) A dL_law_516 rfl ?_
            refine a_aloadS A dL_law_517 rfl ?_
            refine a_iload_n (z := (i : Int)) A dL_law_518 rfl ?_
            refine a_iconst A dL_law_519 ?_
            refine a_iadd (x := (i : Int)) (y := 1) A dL_law_520 ?_
            refine l_sald (j := (i + 1)) A hX hbz dL_law_521 (by omega) (by omega) hL3 ?_
            refine a_if_eq (tgt := 529) A dL_law_522 (by decide) (zx _) (fun hx1_9 => ?_) (fun hx1_9 => ?_)
            · exact absurd hx1_9 hx1_7
            · refine a_iconst A dL_law_525 ?_
              refine a_goto (tgt := 530) A dL_law_526 (by decide) ?_
              refine l_invVl A rfl (c_X5_gain G _ 1 M1 (by decide) hK) (by decide) mi_X5_gain mv_X5_gain cs_L_66 cf5 dL_law_530 rfl (by decide) rfl rfl (Nat.le_of_ble_eq_true rfl) ⟨Nat.le_refl _, Nat.le_refl _⟩ (fun z2 M2 h2 => ?_)
              replace h2 : pr_gain 1 M1 z2 M2 := h2
              refine l_pop2 A dL_law_533 ?_
              refine a_goto (tgt := 711) A dL_law_534 (by decide) ?_
              refine a_iinc (z := (i : Int)) (lv' := [.retAddr 0, .ref 0, .ref 84, vi ((i : Int) + 6)]) A dL_law_711 rfl (by decide) rfl ?_
              refine a_goto (tgt := 18) A dL_law_714 (by decide) ?_
              exact ih (i + 6) M2 hn6 (zu_gain hJ h1 h2) hi6
        · refine a_tswI (tgt := 537) (off := 504) A dL_law_33 hsx (by omega) (by omega) (by rw [hs]; rfl) (by decide) ?_
          refine a_aload_n (z := 0) A dL_law_537 rfl ?_
          refine a_aloadS A dL_law_538 rfl ?_
          refine a_iload_n (z := (i : Int)) A dL_law_539 rfl ?_
          refine a_iconst A dL_law_540 ?_
          refine a_iadd (x := (i : Int)) (y := 1) A dL_law_541 ?_
          refine l_sald (j := (i + 1)) A hX hbz dL_law_542 (by omega) (by omega) hL3 ?_
          refine a_aloadS A dL_law_543 rfl ?_
          refine a_iload_n (z := (i : Int)) A dL_law_544 rfl ?_
          refine a_iconst A dL_law_545 ?_
          refine a_iadd (x := (i : Int)) (y := 2) A dL_law_546 ?_
          refine l_sald (j := (i + 2)) A hX hbz dL_law_547 (by omega) (by omega) hL3 ?_
          refine a_aloadS A dL_law_548 rfl ?_
          refine a_iload_n (z := (i : Int)) A dL_law_549 rfl ?_
          refine a_iconst A dL_law_550 ?_
          refine a_iadd (x := (i : Int)) (y := 3) A dL_law_551 ?_
          refine l_sald (j := (i + 3)) A hX hbz dL_law_552 (by omega) (by omega) hL3 ?_
          refine l_invVi A rfl (c_X4_send G _ ((xs (i + 1)).toInt) ((xs (i + 2)).toInt) ((xs (i + 3)).toInt) M (zx _) (zx _) (zx _) hC.2.1) (by decide) mi_X4_send mv_X4_send cs_L_67 cf4 dL_law_553 rfl (by decide) rfl rfl (Nat.le_of_ble_eq_true rfl) ⟨Nat.le_refl _, Nat.le_refl _⟩ (fun z1 M1 h1 => ?_)
          replace h1 : pc_send ((xs (i + 1)).toInt) ((xs (i + 2)).toInt) ((xs (i + 3)).toInt) M z1 M1 := h1
          have hR := hJ.1.rb (zf_send hC.2.1 h1)
          have hW := hR.1
          have hB := hR.2.1
          have hK := hR.2.2.1
          refine l_pop A dL_law_556 ?_
          refine a_aload_n (z := 84) A dL_law_557 rfl ?_
          refine a_aloadS A dL_law_558 rfl ?_
          refine a_iload_n (z := (i : Int)) A dL_law_559 rfl ?_
          refine a_iconst A dL_law_560 ?_
          refine a_iadd (x := (i : Int)) (y := 1) A dL_law_561 ?_
          refine l_sald (j := (i + 1)) A hX hbz dL_law_562 (by omega) (by omega) hL3 ?_
          refine a_aloadS A dL_law_563 rfl ?_
          refine a_iload_n (z := (i : Int)) A dL_law_564 rfl ?_
          refine a_iconst A dL_law_565 ?_
          refine a_iadd (x := (i : Int)) (y := 2) A dL_law_566 ?_
          refine l_sald (j := (i + 2)) A hX hbz dL_law_567 (by omega) (by omega) hL3 ?_
          refine a_aloadS A dL_law_568 rfl ?_
          refine a_iload_n (z := (i : Int)) A dL_law_569 rfl ?_
          refine a_iconst A dL_law_570 ?_
          refine a_iadd (x := (i : Int)) (y := 3) A dL_law_571 ?_
          refine l_sald (j := (i + 3)) A hX hbz dL_law_572 (by omega) (by omega) hL3 ?_
          refine l_invVi A rfl (c_X5_send G _ ((xs (i + 1)).toInt) ((xs (i + 2)).toInt) ((xs (i + 3)).toInt) M1 (zx _) (zx _) (zx _) hW.2.1) (by decide) mi_X5_send mv_X5_send cs_L_71 cf5 dL_law_573 rfl (by decide) rfl rfl (Nat.le_of_ble_eq_true rfl) ⟨Nat.le_refl _, Nat.le_refl _⟩ (fun z2 M2 h2 => ?_)
          replace h2 : pr_send ((xs (i + 1)).toInt) ((xs (i + 2)).toInt) ((xs (i + 3)).toInt) M1 z2 M2 := h2
          refine l_pop A dL_law_576 ?_
          refine a_goto (tgt := 711) A dL_law_577 (by decide) ?_
          refine a_iinc (z := (i : Int)) (lv' := [.retAddr 0, .ref 0, .ref 84, vi ((i : Int) + 6)]) A dL_law_711 rfl (by decide) rfl ?_
          refine a_goto (tgt := 18) A dL_law_714 (by decide) ?_
          exact ih (i + 6) M2 hn6 (zu_send hJ h1 h2).2 hi6
        · refine a_tswI (tgt := 580) (off := 547) A dL_law_33 hsx (by omega) (by omega) (by rw [hs]; rfl) (by decide) ?_
          refine a_aload_n (z := 0) A dL_law_580 rfl ?_
          refine l_invVi A rfl (c_X4_right G _  M  hC) (by decide) mi_X4_right mv_X4_right cs_L_72 cf4 dL_law_581 rfl (by decide) rfl rfl (Nat.le_of_ble_eq_true rfl) ⟨Nat.le_refl _, Nat.le_refl _⟩ (fun z1 M1 h1 => ?_)
          replace h1 : pc_right  M z1 M1 := h1
          have hR := hJ.1.rb (zf_right h1)
          have hW := hR.1
          have hB := hR.2.1
          have hK := hR.2.2.1
          refine l_pop A dL_law_584 ?_
          refine a_aload_n (z := 84) A dL_law_585 rfl ?_
          refine l_invVi A rfl (c_X5_right G _  M1  hW.2.1 hW.1 hW.2.2) (by decide) mi_X5_right mv_X5_right cs_L_76 cf5 dL_law_586 rfl (by decide) rfl rfl (Nat.le_of_ble_eq_true rfl) ⟨Nat.le_refl _, Nat.le_refl _⟩ (fun z2 M2 h2 => ?_)
          replace h2 : pr_right  M1 z2 M2 := h2
          refine l_pop A dL_law_589 ?_
          refine a_goto (tgt := 711) A dL_law_590 (by decide) ?_
          refine a_iinc (z := (i : Int)) (lv' := [.retAddr 0, .ref 0, .ref 84, vi ((i : Int) + 6)]) A dL_law_711 rfl (by decide) rfl ?_
          refine a_goto (tgt := 18) A dL_law_714 (by decide) ?_
          exact ih (i + 6) M2 hn6 (zu_right hJ h1 h2).2 hi6
        · refine a_tswI (tgt := 593) (off := 560) A dL_law_33 hsx (by omega) (by omega) (by rw [hs]; rfl) (by decide) ?_
          refine a_aload_n (z := 0) A dL_law_593 rfl ?_
          refine a_aloadS A dL_law_594 rfl ?_
          refine a_iload_n (z := (i : Int)) A dL_law_595 rfl ?_
          refine a_iconst A dL_law_596 ?_
          refine a_iadd (x := (i : Int)) (y := 1) A dL_law_597 ?_
          refine l_sald (j := (i + 1)) A hX hbz dL_law_598 (by omega) (by omega) hL3 ?_
          refine a_aloadS A dL_law_599 rfl ?_
          refine a_iload_n (z := (i : Int)) A dL_law_600 rfl ?_
          refine a_iconst A dL_law_601 ?_
          refine a_iadd (x := (i : Int)) (y := 2) A dL_law_602 ?_
          refine l_sald (j := (i + 2)) A hX hbz dL_law_603 (by omega) (by omega) hL3 ?_
          refine a_if_eq (tgt := 611) A dL_law_604 (by decide) (zx _) (fun hx2_10 => ?_) (fun hx2_10 => ?_)
          · refine a_iconst A dL_law_611 ?_
            refine l_invVl A rfl (c_X4_left G _ ((xs (i + 1)).toInt) 0 M (zx _) (by decide) hC) (by decide) mi_X4_left mv_X4_left cs_L_77 cf4 dL_law_612 rfl (by decide) rfl rfl (Nat.le_of_ble_eq_true rfl) ⟨Nat.le_refl _, Nat.le_refl _⟩ (fun z1 M1 h1 => ?_)
            replace h1 : pc_left ((xs (i + 1)).toInt) 0 M z1 M1 := h1
            have hR := hJ.1.rb (zf_left h1)
            have hW := hR.1
            have hB := hR.2.1
            have hK := hR.2.2.1
            refine l_pop2 A dL_law_615 ?_
            refine a_aload_n (z := 84) A dL_law_616 rfl ?_
            refine a_aloadS A dL_law_617 rfl ?_
            refine a_iload_n (z := (i : Int)) A dL_law_618 rfl ?_
            refine a_iconst A dL_law_619 ?_
            refine a_iadd (x := (i : Int)) (y := 1) A dL_law_620 ?_
            refine l_sald (j := (i + 1)) A hX hbz dL_law_621 (by omega) (by omega) hL3 ?_
            refine a_aloadS A dL_law_622 rfl ?_
            refine a_iload_n (z := (i : Int)) A dL_law_623 rfl ?_
            refine a_iconst A dL_law_624 ?_
            refine a_iadd (x := (i : Int)) (y := 2) A dL_law_625 ?_
            refine l_sald (j := (i + 2)) A hX hbz dL_law_626 (by omega) (by omega) hL3 ?_
            refine a_if_eq (tgt := 634) A dL_law_627 (by decide) (zx _) (fun hx2_11 => ?_) (fun hx2_11 => ?_)
            · refine a_iconst A dL_law_634 ?_
              refine l_invVl A rfl (c_X5_left G _ ((xs (i + 1)).toInt) 0 M1 (zx _) (by decide) hW.2.1 hW.1 hW.2.2) (by decide) mi_X5_left mv_X5_left cs_L_80 cf5 dL_law_635 rfl (by decide) rfl rfl (Nat.le_of_ble_eq_true rfl) ⟨Nat.le_refl _, Nat.le_refl _⟩ (fun z2 M2 h2 => ?_)
              replace h2 : pr_left ((xs (i + 1)).toInt) 0 M1 z2 M2 := h2
              refine l_pop2 A dL_law_638 ?_
              refine a_goto (tgt := 711) A dL_law_639 (by decide) ?_
              refine a_iinc (z := (i : Int)) (lv' := [.retAddr 0, .ref 0, .ref 84, vi ((i : Int) + 6)]) A dL_law_711 rfl (by decide) rfl ?_
              refine a_goto (tgt := 18) A dL_law_714 (by decide) ?_
              exact ih (i + 6) M2 hn6 (zu_left hJ h1 h2).2 hi6
            · exact absurd hx2_10 hx2_11
          · refine a_iconst A dL_law_607 ?_
            refine a_goto (tgt := 612) A dL_law_608 (by decide) ?_
            refine l_invVl A rfl (c_X4_left G _ ((xs (i + 1)).toInt) 1 M (zx _) (by decide) hC) (by decide) mi_X4_left mv_X4_left cs_L_77 cf4 dL_law_612 rfl (by decide) rfl rfl (Nat.le_of_ble_eq_true rfl) ⟨Nat.le_refl _, Nat.le_refl _⟩ (fun z1 M1 h1 => ?_)
            replace h1 : pc_left ((xs (i + 1)).toInt) 1 M z1 M1 := h1
            have hR := hJ.1.rb (zf_left h1)
            have hW := hR.1
            have hB := hR.2.1
            have hK := hR.2.2.1
            refine l_pop2 A dL_law_615 ?_
            refine a_aload_n (z := 84) A dL_law_616 rfl ?_
            refine a_aloadS A dL_law_617 rfl ?_
            refine a_iload_n (z := (i : Int)) A dL_law_618 rfl ?_
            refine a_iconst A dL_law_619 ?_
            refine a_iadd (x := (i : Int)) (y := 1) A dL_law_620 ?_
            refine l_sald (j := (i + 1)) A hX hbz dL_law_621 (by omega) (by omega) hL3 ?_
            refine a_aloadS A dL_law_622 rfl ?_
            refine a_iload_n (z := (i : Int)) A dL_law_623 rfl ?_
            refine a_iconst A dL_law_624 ?_
            refine a_iadd (x := (i : Int)) (y := 2) A dL_law_625 ?_
            refine l_sald (j := (i + 2)) A hX hbz dL_law_626 (by omega) (by omega) hL3 ?_
            refine a_if_eq (tgt := 634) A dL_law_627 (by decide) (zx _) (fun hx2_12 => ?_) (fun hx2_12 => ?_)
            · exact absurd hx2_12 hx2_10
            · refine a_iconst A dL_law_630 ?_
              refine a_goto (tgt := 635) A dL_law_631 (by decide) ?_
              refine l_invVl A rfl (c_X5_left G _ ((xs (i + 1)).toInt) 1 M1 (zx _) (by decide) hW.2.1 hW.1 hW.2.2) (by decide) mi_X5_left mv_X5_left cs_L_80 cf5 dL_law_635 rfl (by decide) rfl rfl (Nat.le_of_ble_eq_true rfl) ⟨Nat.le_refl _, Nat.le_refl _⟩ (fun z2 M2 h2 => ?_)
              replace h2 : pr_left ((xs (i + 1)).toInt) 1 M1 z2 M2 := h2
              refine l_pop2 A dL_law_638 ?_
              refine a_goto (tgt := 711) A dL_law_639 (by decide) ?_
              refine a_iinc (z := (i : Int)) (lv' := [.retAddr 0, .ref 0, .ref 84, vi ((i : Int) + 6)]) A dL_law_711 rfl (by decide) rfl ?_
              refine a_goto (tgt := 18) A dL_law_714 (by decide) ?_
              exact ih (i + 6) M2 hn6 (zu_left hJ h1 h2).2 hi6
        · refine a_tswI (tgt := 642) (off := 609) A dL_law_33 hsx (by omega) (by omega) (by rw [hs]; rfl) (by decide) ?_
          refine a_aload_n (z := 0) A dL_law_642 rfl ?_
          refine a_aloadS A dL_law_643 rfl ?_
          refine a_iload_n (z := (i : Int)) A dL_law_644 rfl ?_
          refine a_iconst A dL_law_645 ?_
          refine a_iadd (x := (i : Int)) (y := 1) A dL_law_646 ?_
          refine l_sald (j := (i + 1)) A hX hbz dL_law_647 (by omega) (by omega) hL3 ?_
          refine l_invVi A rfl (c_X4_count G _ ((xs (i + 1)).toInt) M (zx _) hC) (by decide) mi_X4_count mv_X4_count cs_L_81 cf4 dL_law_648 rfl (by decide) rfl rfl (Nat.le_of_ble_eq_true rfl) ⟨Nat.le_refl _, Nat.le_refl _⟩ (fun z1 M1 h1 => ?_)
          replace h1 : pc_count ((xs (i + 1)).toInt) M z1 M1 := h1
          have hR := hJ.1.rb (zf_count hC h1)
          have hW := hR.1
          have hB := hR.2.1
          have hK := hR.2.2.1
          refine l_pop A dL_law_651 ?_
          refine a_aload_n (z := 84) A dL_law_652 rfl ?_
          refine a_aloadS A dL_law_653 rfl ?_
          refine a_iload_n (z := (i : Int)) A dL_law_654 rfl ?_
          refine a_iconst A dL_law_655 ?_
          refine a_iadd (x := (i : Int)) (y := 1) A dL_law_656 ?_
          refine l_sald (j := (i + 1)) A hX hbz dL_law_657 (by omega) (by omega) hL3 ?_
          refine l_invVi A rfl (c_X5_count G _ ((xs (i + 1)).toInt) M1 (zx _) hW hB) (by decide) mi_X5_count mv_X5_count cs_L_84 cf5 dL_law_658 rfl (by decide) rfl rfl (Nat.le_of_ble_eq_true rfl) ⟨Nat.le_refl _, Nat.le_refl _⟩ (fun z2 M2 h2 => ?_)
          replace h2 : pr_count ((xs (i + 1)).toInt) M1 z2 M2 := h2
          refine l_pop A dL_law_661 ?_
          refine a_goto (tgt := 711) A dL_law_662 (by decide) ?_
          refine a_iinc (z := (i : Int)) (lv' := [.retAddr 0, .ref 0, .ref 84, vi ((i : Int) + 6)]) A dL_law_711 rfl (by decide) rfl ?_
          refine a_goto (tgt := 18) A dL_law_714 (by decide) ?_
          exact ih (i + 6) M2 hn6 (zu_count hJ h1 h2).2 hi6
        · refine a_tswI (tgt := 665) (off := 632) A dL_law_33 hsx (by omega) (by omega) (by rw [hs]; rfl) (by decide) ?_
          refine a_aload_n (z := 0) A dL_law_665 rfl ?_
          refine a_aloadS A dL_law_666 rfl ?_
          refine a_iload_n (z := (i : Int)) A dL_law_667 rfl ?_
          refine a_iconst A dL_law_668 ?_
          refine a_iadd (x := (i : Int)) (y := 1) A dL_law_669 ?_
          refine l_sald (j := (i + 1)) A hX hbz dL_law_670 (by omega) (by omega) hL3 ?_
          refine l_invVi A rfl (c_X4_image G _ ((xs (i + 1)).toInt) M (zx _) hC.2.1) (by decide) mi_X4_image mv_X4_image cs_L_85 cf4 dL_law_671 rfl (by decide) rfl rfl (Nat.le_of_ble_eq_true rfl) ⟨Nat.le_refl _, Nat.le_refl _⟩ (fun z1 M1 h1 => ?_)
          replace h1 : pc_image ((xs (i + 1)).toInt) M z1 M1 := h1
          have hR := hJ.1.rb (zf_image hC.2.1 h1)
          have hW := hR.1
          have hB := hR.2.1
          have hK := hR.2.2.1
          refine l_pop A dL_law_674 ?_
          refine a_aload_n (z := 84) A dL_law_675 rfl ?_
          refine a_aloadS A dL_law_676 rfl ?_
          refine a_iload_n (z := (i : Int)) A dL_law_677 rfl ?_
          refine a_iconst A dL_law_678 ?_
          refine a_iadd (x := (i : Int)) (y := 1) A dL_law_679 ?_
          refine l_sald (j := (i + 1)) A hX hbz dL_law_680 (by omega) (by omega) hL3 ?_
          refine l_invVi A rfl (c_X5_image G _ ((xs (i + 1)).toInt) M1 (zx _) ) (by decide) mi_X5_image mv_X5_image cs_L_88 cf5 dL_law_681 rfl (by decide) rfl rfl (Nat.le_of_ble_eq_true rfl) ⟨Nat.le_refl _, Nat.le_refl _⟩ (fun z2 M2 h2 => ?_)
          replace h2 : pr_image ((xs (i + 1)).toInt) M1 z2 M2 := h2
          refine l_pop A dL_law_684 ?_
          refine a_goto (tgt := 711) A dL_law_685 (by decide) ?_
          refine a_iinc (z := (i : Int)) (lv' := [.retAddr 0, .ref 0, .ref 84, vi ((i : Int) + 6)]) A dL_law_711 rfl (by decide) rfl ?_
          refine a_goto (tgt := 18) A dL_law_714 (by decide) ?_
          exact ih (i + 6) M2 hn6 (zu_image hJ h1 h2).2 hi6
        · refine a_tswI (tgt := 688) (off := 655) A dL_law_33 hsx (by omega) (by omega) (by rw [hs]; rfl) (by decide) ?_
          refine a_aload_n (z := 0) A dL_law_688 rfl ?_
          refine a_aloadS A dL_law_689 rfl ?_
          refine a_iload_n (z := (i : Int)) A dL_law_690 rfl ?_
          refine a_iconst A dL_law_691 ?_
          refine a_iadd (x := (i : Int)) (y := 1) A dL_law_692 ?_
          refine l_sald (j := (i + 1)) A hX hbz dL_law_693 (by omega) (by omega) hL3 ?_
          refine l_invVi A rfl (c_X4_again G _ ((xs (i + 1)).toInt) M (zx _) hIm.1 hIm.2) (by decide) mi_X4_again mv_X4_again cs_L_89 cf4 dL_law_694 rfl (by decide) rfl rfl (Nat.le_of_ble_eq_true rfl) ⟨Nat.le_refl _, Nat.le_refl _⟩ (fun z1 M1 h1 => ?_)
          replace h1 : pc_again ((xs (i + 1)).toInt) M z1 M1 := h1
          have hR := hJ.1.rb (zf_again hIm.2 h1)
          have hW := hR.1
          have hB := hR.2.1
          have hK := hR.2.2.1
          refine l_pop A dL_law_697 ?_
          refine a_aload_n (z := 84) A dL_law_698 rfl ?_
          refine a_aloadS A dL_law_699 rfl ?_
          refine a_iload_n (z := (i : Int)) A dL_law_700 rfl ?_
          refine a_iconst A dL_law_701 ?_
          refine a_iadd (x := (i : Int)) (y := 1) A dL_law_702 ?_
          refine l_sald (j := (i + 1)) A hX hbz dL_law_703 (by omega) (by omega) hL3 ?_
          refine l_invVi A rfl (c_X5_again G _ ((xs (i + 1)).toInt) M1 (zx _) hR.2.2.2) (by decide) mi_X5_again mv_X5_again cs_L_92 cf5 dL_law_704 rfl (by decide) rfl rfl (Nat.le_of_ble_eq_true rfl) ⟨Nat.le_refl _, Nat.le_refl _⟩ (fun z2 M2 h2 => ?_)
          replace h2 : pr_again ((xs (i + 1)).toInt) M1 z2 M2 := h2
          refine l_pop A dL_law_707 ?_
          refine a_goto (tgt := 711) A dL_law_708 (by decide) ?_
          refine a_iinc (z := (i : Int)) (lv' := [.retAddr 0, .ref 0, .ref 84, vi ((i : Int) + 6)]) A dL_law_711 rfl (by decide) rfl ?_
          refine a_goto (tgt := 18) A dL_law_714 (by decide) ?_
          exact ih (i + 6) M2 hn6 (zu_again hJ h1 h2).2 hi6
