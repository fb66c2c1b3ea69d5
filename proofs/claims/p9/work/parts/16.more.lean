/-! Math.max, Math.abs, System.arraycopy, switches, the script -/
section AMR
variable {G : GG} {E : EE} {cc : ByteArray} {nL : Nat} {own : String} {n0 d kc wc pc : Nat} {lv st : List Value} {n k w : Nat} {rf : RF} {M : MM}
theorem a_max (A : Am G E cc nL own n0 d kc wc) {ix : Nat} {x y : Int} (hw : Cond.methodLink own ix Lib.Math.max.name ∈ lw_tbl) (h1 : Cond.static Lib.Math.max.name ∈ lw_tbl) (h2 : Cond.initialized "java/lang/Math" ∈ lw_tbl) (h3 : Cond.code Lib.Math.max.name Lib.Math.max.code 2 (some .int) ∈ lw_tbl) (D : decode cc pc = .ok (.invokestatic ix, 3)) (hd : 1 ≤ d) (hk : k ≤ kc ∧ w ≤ wc) (hrest : (st.map fun v => v.category).sum ≤ 8) (hx : I32 x) (hy : I32 y)
    (kk : AW G E nL (pc + 3) lv (vi (if x < y then y else x) :: st) n k w rf M) : AW G E nL pc lv (vi y :: vi x :: st) n k w rf M := by
  intro H locs ls hP hS hL
  have hT := A.2.2.2.2.1.2
  have hf := A.2.2.2.2.2.2.1
  have hlo := A.2.2.2.2.2.2.2.1
  refine va_mmax A.1 A.2.1 (by rw [hL.1]; exact A.2.2.1) A.2.2.2.1 (hT.use hw rfl) (hT.use h1 rfl) (hT.use h2 rfl) (hT.use h3 rfl) (by omega) (by rw [cv_sum]; omega) (Nat.le_trans hk.1 A.2.2.2.2.2.2.2.2.1) (Nat.le_trans hk.2 A.2.2.2.2.2.2.2.2.2) D ?_
  have e : (if Int32.ofInt x < Int32.ofInt y then Int32.ofInt y else Int32.ofInt x) = Int32.ofInt (if x < y then y else x) := by
    by_cases h : x < y
    · rw [if_pos h, if_pos ((i32_lt hx hy).mpr h)]
    · rw [if_neg h, if_neg (fun q => h ((i32_lt hx hy).mp q))]
  rw [e]
  exact kk H locs ls hP hS hL
theorem a_abs (A : Am G E cc nL own n0 d kc wc) {ix : Nat} {x : Int} (hw : Cond.methodLink own ix Lib.MathLoose.abs_long.x ∈ lw_tbl) (h1 : Cond.static Lib.MathLoose.abs_long.x ∈ lw_tbl) (h2 : Cond.initialized "java/lang/Math" ∈ lw_tbl) (h3 : Cond.code Lib.MathLoose.abs_long.x Lib.MathLoose.abs_long.code 2 (some .long) ∈ lw_tbl) (D : decode cc pc = .ok (.invokestatic ix, 3)) (hd : 1 ≤ d) (hk : k ≤ kc ∧ w ≤ wc) (hrest : (st.map fun v => v.category).sum ≤ 8) (hx : I64 x)
    (kk : AW G E nL (pc + 3) lv (vl (x.natAbs : Int) :: st) n k w rf M) : AW G E nL pc lv (vl x :: st) n k w rf M := by
  intro H locs ls hP hS hL
  have hT := A.2.2.2.2.1.2
  have hf := A.2.2.2.2.2.2.1
  have hlo := A.2.2.2.2.2.2.2.1
  refine va_mabs_long A.1 A.2.1 (by rw [hL.1]; exact A.2.2.1) A.2.2.2.1 (hT.use hw rfl) (hT.use h1 rfl) (hT.use h2 rfl) (hT.use h3 rfl) (by omega) (by rw [cv_sum]; omega) (Nat.le_trans hk.1 A.2.2.2.2.2.2.2.2.1) (Nat.le_trans hk.2 A.2.2.2.2.2.2.2.2.2) D ?_
  have e : (if 0 < Int64.ofInt x then Int64.ofInt x else -Int64.ofInt x) = Int64.ofInt (x.natAbs : Int) := by
    have h0 : (0 : Int64) < Int64.ofInt x ↔ 0 < x := i64_lt (x := 0) (by omega) hx
    by_cases h : 0 < x
    · rw [if_pos (h0.mpr h)]
      congr 1
      omega
    · rw [if_neg (fun q => h (h0.mp q)), ← Int64.ofInt_neg]
      congr 1
      omega
  rw [e]
  exact kk H locs ls hP hS hL
/-- the first m places of a0 into a1 -/
def cp2 (M : MM) (a0 a1 m : Nat) : MM := fun c => if c = a1 then (fun j => if j < m then M a0 j else M c j) else M c
theorem a_copy (A : Am G E cc nL own n0 d kc wc) {ix a0 a1 l0 l1 : Nat} {m : Int} (hw : Cond.methodLink own ix arraycopyName ∈ lw_tbl) (h1 : Cond.native arraycopyName ∈ lw_tbl) (h2 : Cond.static arraycopyName ∈ lw_tbl) (h3 : Cond.initialized "java/lang/System" ∈ lw_tbl) (D : decode cc pc = .ok (.invokestatic ix, 3)) (hd : 1 ≤ d) (hrest : (st.map fun v => v.category).sum ≤ 8) (hl0 : ly a0 = (6, l0)) (ha0 : a0 < n) (hl1 : ly a1 = (6, l1)) (ha1 : a1 < n) (hm : 0 ≤ m ∧ m ≤ l0 ∧ m ≤ l1 ∧ m ≤ 100)
    (kk : AW G E nL (pc + 3) lv st n k w rf (cp2 M a0 a1 m.toNat)) : AW G E nL pc lv (vi m :: vi 0 :: .ref a1 :: vi 0 :: .ref a0 :: st) n k w rf M := by
  intro H locs ls hP hS hL
  have hT := A.2.2.2.2.1.2
  have hf := A.2.2.2.2.2.2.1
  have hlo := A.2.2.2.2.2.2.2.1
  have he0 : (wl G n rf M)[a0]? = some (gz G + a0, .inl (G.2.1 6, l0, .inl (fun j => Int32.ofInt (M a0 j)))) := by
    rw [wl_get ha0]; unfold ce; rw [hl0]; rfl
  have he1 : (wl G n rf M)[a1]? = some (gz G + a1, .inl (G.2.1 6, l1, .inl (fun j => Int32.ofInt (M a1 j)))) := by
    rw [wl_get ha1]; unfold ce; rw [hl1]; rfl
  have hcl : (Int32.ofInt m).toNatClampNeg = m.toNat := i32_cl hm.1 (by omega)
  have h00 : (Int32.ofInt 0).toNatClampNeg = 0 := rfl
  have hmm : ¬ Int32.ofInt m < 0 := fun q => by
    have := (i32_lt (x := m) (y := 0) (by omega) (by omega)).mp q
    omega
  have hnat : nativeFrameWords "java/lang/System" "arraycopy" 5 + 11 ≤ 52 := by decide
  refine va_copyi (ty := .int) A.1 A.2.1 (by rw [hL.1]; exact A.2.2.1) A.2.2.2.1 (hT.use hw rfl) (hT.use h1 rfl) (hT.use h2 rfl) (hT.use h3 rfl) A.2.2.2.2.1.1 hP wl_D hS a0 a1 0 0 he0 he1 rfl rfl rfl (sp := Int32.ofInt 0) (dp := Int32.ofInt 0) (by decide) (by decide) hmm (by rw [h00, hcl]; omega) (by rw [h00, hcl]; omega) (fun _ _ => rfl) (by omega) (by rw [cv_sum]; omega) D (fun H1 locs1 hP1 _ hS1 => ?_)
  rw [h00, hcl, wl_set (rf' := rf) (M' := cp2 M a0 a1 m.toNat) ?_ (fun c hc => ce_same (by simp [cp2, hc]) rfl)] at hP1
  · exact kk H1 locs1 ls hP1 hS1 hL
  · unfold ce
    rw [hl1]
    simp only [ceK, cp2, va_cpy]
    congr 3
    congr 1
    funext j
    by_cases h : j < m.toNat
    · simp [h, va_cpy]
    · simp [h, va_cpy]
theorem a_tswI (A : Am G E cc nL own n0 d kc wc) {dflt lo hi off x : Int} {offs : Array Int} {len tgt : Nat} (D : decode cc pc = .ok (.tableswitch dflt lo hi offs, len)) (hx : I32 x) (h1 : lo ≤ x) (h2 : x ≤ hi) (ho : offs[(x - lo).toNat]? = some off) (ht : (pc : Int) + off = (tgt : Int)) (kk : AW G E nL tgt lv st n k w rf M) : AW G E nL pc lv (vi x :: st) n k w rf M := by
  intro H locs ls hP hS hL
  exact lv_tableIn A.1 A.2.1 D (by rw [i32_t hx]; omega) (by rw [i32_t hx]; omega) (by rw [i32_t hx]; exact ho) ht (kk H locs ls hP hS hL)
theorem a_tswO (A : Am G E cc nL own n0 d kc wc) {dflt lo hi x : Int} {offs : Array Int} {len tgt : Nat} (D : decode cc pc = .ok (.tableswitch dflt lo hi offs, len)) (hx : I32 x) (h1 : x < lo ∨ hi < x) (ht : (pc : Int) + dflt = (tgt : Int)) (kk : AW G E nL tgt lv st n k w rf M) : AW G E nL pc lv (vi x :: st) n k w rf M := by
  intro H locs ls hP hS hL
  exact lv_tableOut A.1 A.2.1 D (by rw [i32_t hx]; exact h1) ht (kk H locs ls hP hS hL)
theorem a_saload (A : Am G E cc nL own n0 d kc wc) {L : Nat} {xs : Nat → Int32} {i : Int} (hX : va_X G.2.2.2 L xs (eS E) (eS E).heap) (hb : G.2.2.2 < gz G) (D : decode cc pc = .ok (.iaload, 1)) (hi : 0 ≤ i ∧ i < L) (hL0 : L ≤ 3072) (kk : AW G E nL (pc + 1) lv (vi (xs i.toNat).toInt :: st) n k w rf M) : AW G E nL pc lv (vi i :: .retAddr 0 :: st) n k w rf M := by
  intro H locs ls hP hS hL
  refine va_sld A.1 A.2.1 hX (by rw [A.2.2.2.2.2.1]; omega) (by show ¬ gz G ≤ _; omega) hS (i32_in hi.1 hi.2 (by omega)) D ?_
  have := kk H locs ls hP hS hL
  rw [i32_cl hi.1 (by omega)]
  have e := (i32_of (xs i.toNat)).1
  rw [e]
  exact this
theorem a_slen (A : Am G E cc nL own n0 d kc wc) {L : Nat} {xs : Nat → Int32} (hX : va_X G.2.2.2 L xs (eS E) (eS E).heap) (hb : G.2.2.2 < gz G) (D : decode cc pc = .ok (.arraylength, 1)) (kk : AW G E nL (pc + 1) lv (vi L :: st) n k w rf M) : AW G E nL pc lv (.retAddr 0 :: st) n k w rf M := by
  intro H locs ls hP hS hL
  refine va_slen A.1 A.2.1 hX (by rw [A.2.2.2.2.2.1]; omega) (by show ¬ gz G ≤ _; omega) hS D ?_
  exact kk H locs ls hP hS hL
end AMR
