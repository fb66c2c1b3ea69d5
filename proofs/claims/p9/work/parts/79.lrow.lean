/-! rows for the law -/
theorem zx (y : Int32) : I32 y.toInt := ⟨by have := Int32.le_toInt y; omega, by have := Int32.toInt_lt y; omega⟩
section ZLR
variable {G : GG} {E : EE} {cc : ByteArray} {nL : Nat} {own : String} {n0 d kc wc pc : Nat} {lv st : List Value} {n k w : Nat} {rf : RF} {M : MM}
theorem l_ieq (A : Am G E cc nL own n0 d kc wc) {x y off : Int} {tgt : Nat} (hxy : x = y) (D : decode cc pc = .ok (.if_icmp .eq off, 3)) (ht : (pc : Int) + off = (tgt : Int)) (kk : AW G E nL tgt lv st n k w rf M) : AW G E nL pc lv (vi y :: vi x :: st) n k w rf M := by
  subst hxy
  intro H locs ls hP hS hL
  exact lv_icmp_eq A.1 A.2.1 D ht (fun _ => kk H locs ls hP hS hL) (fun q => absurd rfl q)
theorem l_leq (A : Am G E cc nL own n0 d kc wc) {x y off : Int} {tgt : Nat} (hxy : x = y) (D1 : decode cc pc = .ok (.lcmp, 1)) (D : decode cc (pc + 1) = .ok (.ifCond .eq off, 3)) (ht : (pc : Int) + 1 + off = (tgt : Int)) (kk : AW G E nL tgt lv st n k w rf M) : AW G E nL pc lv (vl y :: vl x :: st) n k w rf M := by
  subst hxy
  intro H locs ls hP hS hL
  refine W.lcmp A.1 A.2.1 D1 ?_
  refine lv_if_eq A.1 A.2.1 D (by omega) (fun _ => kk H locs ls hP hS hL) (fun q => absurd ?_ q)
  simp [lg_cmp]
theorem l_pop (A : Am G E cc nL own n0 d kc wc) {x : Int} (D : decode cc pc = .ok (.pop, 1)) (kk : AW G E nL (pc + 1) lv st n k w rf M) : AW G E nL pc lv (vi x :: st) n k w rf M := by
  intro H locs ls hP hS hL
  exact lv_pop A.1 A.2.1 D rfl (kk H locs ls hP hS hL)
theorem l_pop2 (A : Am G E cc nL own n0 d kc wc) {x : Int} (D : decode cc pc = .ok (.pop2, 1)) (kk : AW G E nL (pc + 1) lv st n k w rf M) : AW G E nL pc lv (vl x :: st) n k w rf M := by
  intro H locs ls hP hS hL
  exact lv_pop2_2 A.1 A.2.1 D rfl (kk H locs ls hP hS hL)
theorem l_sald (A : Am G E cc nL own n0 d kc wc) {L : Nat} {xs : Nat → Int32} {i : Int} {j : Nat} (hX : va_X G.2.2.2 L xs (eS E) (eS E).heap) (hb : G.2.2.2 < gz G) (D : decode cc pc = .ok (.iaload, 1)) (hj : i = (j : Int)) (hi : j < L) (hL0 : L ≤ 3072) (kk : AW G E nL (pc + 1) lv (vi (xs j).toInt :: st) n k w rf M) : AW G E nL pc lv (vi i :: .retAddr 0 :: st) n k w rf M := by
  subst hj
  exact a_saload A hX hb D ⟨Int.natCast_nonneg j, by omega⟩ hL0 kk
end ZLR
theorem zx_and (y : Int32) : Int32.ofInt y.toInt &&& Int32.ofInt 31 = Int32.ofInt (y &&& 31).toInt := by
  rw [Int32.ofInt_toInt, Int32.ofInt_toInt]
  rfl
