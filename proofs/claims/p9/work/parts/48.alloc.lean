/-! what is made: objects, arrays of numbers, arrays of objects -/
def mZ (M : MM) (n : Nat) : MM := fun c => if c = n then (fun _ => 0) else M c
def rZ (f : RF) (n : Nat) : RF := fun c => if c = n then (fun _ => none) else f c
theorem wl_push {G : GG} {n : Nat} {rf rf' : RF} {M M' : MM} (h : ∀ c, c < n → M' c = M c ∧ rf' c = rf c) : wl G (n + 1) rf' M' = wl G n rf M ++ [(gz G + n, ce G rf' M' n)] := by
  unfold wl
  rw [List.range_succ, List.map_append]
  congr 1
  apply List.map_congr_left
  intro k hk
  have := h k (List.mem_range.mp hk)
  rw [ce_same this.1 this.2]
theorem df0 : ∀ j, j < 2 → fv (tyX0 j) 0 none 0 = defaultValue (tyX0 j) := by decide
theorem df1 : ∀ j, j < 5 → fv (tyX1 j) 0 none 0 = defaultValue (tyX1 j) := by decide
theorem df2 : ∀ j, j < 17 → fv (tyX2 j) 0 none 0 = defaultValue (tyX2 j) := by decide
theorem df3 : ∀ j, j < 9 → fv (tyX3 j) 0 none 0 = defaultValue (tyX3 j) := by decide
theorem df4 : ∀ j, j < 8 → fv (tyX4 j) 0 none 0 = defaultValue (tyX4 j) := by decide
theorem df5 : ∀ j, j < 33 → fv (tyX5 j) 0 none 0 = defaultValue (tyX5 j) := by decide
theorem fv_none (t : FieldType) (z : Int) (a b : Nat) : fv t z none a = fv t z none b := by unfold fv; split <;> rfl
section ANR
variable {G : GG} {E : EE} {cc : ByteArray} {nL : Nat} {own : String} {n0 d kc wc pc : Nat} {lv st : List Value} {n k w : Nat} {rf : RF} {M : MM}
theorem va_S_grow {A : Nat → Prop} {H0 H H1 : Heap} {locs : List Loc} (hS : va_S A H0 H locs) (z : H.size ≤ H1.size) (o : ∀ q, q < H.size → H1[q]? = H[q]?) : va_S A H0 H1 locs := ⟨Nat.le_trans hS.1 z, fun q h1 h2 => (o q (Nat.lt_of_lt_of_le h1 hS.1)).trans (hS.2.1 q h1 h2), hS.2.2⟩
theorem va_P_push {D : va_G} {cl : List vw_C} {H H1 : Heap} {rf' : RF} {M' : MM} (hP : va_P D cl (wl G n rf M) H) (h : ∀ c, c < n → M' c = M c ∧ rf' c = rf c) (o : ∀ q, q < H.size → H1[q]? = H[q]?) (ha : va_at D cl (gz G + n, ce G rf' M' n) H1) : va_P D cl (wl G (n + 1) rf' M') H1 := by
  rw [wl_push h]
  refine (hP.kept (fun i x hx => o x.1 ((hP i x hx).lt))).app (fun i x hx => ?_)
  have h0 : i < 1 := (List.getElem?_eq_some_iff.mp hx).1
  rw [show i = 0 by omega] at hx
  cases hx
  exact ha
theorem mZ_lt (M : MM) (rf : RF) : ∀ c, c < n → mZ M n c = M c ∧ rZ rf n c = rf c := fun c hc => ⟨by simp [mZ, show c ≠ n by omega], by simp [rZ, show c ≠ n by omega]⟩
theorem a_new (A : Am G E cc nL own n0 d kc wc) (hn : n = n0 + k) {ci N len ix : Nat} {C : String} {T : u_T} {ty : Nat → FieldType} (C0 : CF ci C T N ty) (hdf : ∀ j, j < N → fv (ty j) 0 none 0 = defaultValue (ty j)) (hl : ly n = (ci, len)) (h1 : Cond.classLink own ix C ∈ lw_tbl) (h2 : Cond.instantiable C N ∈ lw_tbl) (h3 : Cond.initialized C ∈ lw_tbl) (D : decode cc pc = .ok (.new ix, 3)) (hk : k + 1 ≤ kc ∧ w + N ≤ wc) (kk : AW G E nL (pc + 3) lv (.ref n :: st) (n + 1) (k + 1) (w + N) (rZ rf n) (mZ M n)) : AW G E nL pc lv st n k w rf M := by
  refine a_size A hn (fun H locs ls hP hS hL hz => ?_)
  have hT := A.2.2.2.2.1.2
  have hts := A.words C0
  obtain ⟨c1, c2, c3, c4, -, c6, c7⟩ := C0
  have hKn := A.2.2.2.2.1.1.1 ci _ c1
  refine W.newcK A.1 A.2.1 A.2.2.2.1 (hT.use h1 rfl) (hT.use h2 rfl) (hT.use h3 rfl) rfl D (Nat.le_trans hk.1 A.2.2.2.2.2.2.2.2.1) (Nat.le_trans hk.2 A.2.2.2.2.2.2.2.2.2) hKn.2.1 hz (fun H1 kC hkC e1 z1 o1 => ?_)
  rw [← hz] at o1
  refine kk H1 locs ls (va_P_push hP (mZ_lt M rf) o1 ?_) (va_S_grow hS (by omega) o1) hL
  rw [ce_obj hl c4, c2, c3]
  refine ⟨_, c1, (u_born ty hts (fun _ h => h) hKn hkC e1 c6).to (fun j hj => ?_)⟩
  have e2 : mZ M n n j = 0 := by simp [mZ]
  have e3 : rZ rf n n j = none := by simp [rZ]
  rw [← hdf j hj]
  show fv (ty j) 0 none 0 = vp_V _ j
  unfold vp_V
  simp only [List.getD_eq_getElem?_getD]
  simp [hj, e2, e3, fv_none (ty j) 0 (gz G) 0]
theorem a_newI (A : Am G E cc nL own n0 d kc wc) (hn : n = n0 + k) {len : Nat} {m : Int} (hl : ly n = (6, len)) (D : decode cc pc = .ok (.newarray .int, 2)) (hm : m = len) (hb : len ≤ 100) (hk : k + 1 ≤ kc ∧ w + len ≤ wc) (kk : AW G E nL (pc + 2) lv (.ref n :: st) (n + 1) (k + 1) (w + len) (rZ rf n) (mZ M n)) : AW G E nL pc lv (vi m :: st) n k w rf M := by
  refine a_size A hn (fun H locs ls hP hS hL hz => ?_)
  have hT := A.2.2.2.2.1.2
  have hcl : (Int32.ofInt m).toNatClampNeg = len := by rw [i32_cl (by omega) (by omega)]; omega
  have hmm : ¬ Int32.ofInt m < 0 := fun q => by have := (i32_lt (x := m) (y := 0) (by omega) (by omega)).mp q; omega
  refine va_newaK (atype := .int) A.1 A.2.1 hT.2.2.2.1.use rfl D rfl hmm hcl (by show len * 4 ≤ _; omega) (Nat.le_trans hk.1 A.2.2.2.2.2.2.2.2.1) (Nat.le_trans hk.2 A.2.2.2.2.2.2.2.2.2) hz (fun H1 cA e1 z1 o1 hAr hNm => ?_)
  rw [← hz] at o1
  have hra := (A.2.2.2.2.1.1.2 0 _ rfl).2
  have ecA : cA = G.2.1 6 := Option.some.inj (hNm.symm.trans hra)
  subst ecA
  refine kk H1 locs ls (va_P_push hP (mZ_lt M rf) o1 ?_) (va_S_grow hS (by omega) o1) hL
  have ec : ce G (rZ rf n) (mZ M n) n = .inl (G.2.1 6, len, .inl (fun _ => Int32.ofInt 0)) := by unfold ce; rw [hl]; simp [ceK, mZ]
  rw [ec]
  exact e1
theorem a_newJ (A : Am G E cc nL own n0 d kc wc) (hn : n = n0 + k) {len : Nat} {m : Int} (hl : ly n = (7, len)) (D : decode cc pc = .ok (.newarray .long, 2)) (hm : m = len) (hb : len ≤ 100) (hk : k + 1 ≤ kc ∧ w + len ≤ wc) (kk : AW G E nL (pc + 2) lv (.ref n :: st) (n + 1) (k + 1) (w + len) (rZ rf n) (mZ M n)) : AW G E nL pc lv (vi m :: st) n k w rf M := by
  refine a_size A hn (fun H locs ls hP hS hL hz => ?_)
  have hT := A.2.2.2.2.1.2
  have hcl : (Int32.ofInt m).toNatClampNeg = len := by rw [i32_cl (by omega) (by omega)]; omega
  have hmm : ¬ Int32.ofInt m < 0 := fun q => by have := (i32_lt (x := m) (y := 0) (by omega) (by omega)).mp q; omega
  refine va_newaK (atype := .long) A.1 A.2.1 hT.2.2.2.2.1.use rfl D rfl hmm hcl (by show len * 8 ≤ _; omega) (Nat.le_trans hk.1 A.2.2.2.2.2.2.2.2.1) (Nat.le_trans hk.2 A.2.2.2.2.2.2.2.2.2) hz (fun H1 cA e1 z1 o1 hAr hNm => ?_)
  rw [← hz] at o1
  have hra := (A.2.2.2.2.1.1.2 1 _ rfl).2
  have ecA : cA = G.2.1 7 := Option.some.inj (hNm.symm.trans hra)
  subst ecA
  refine kk H1 locs ls (va_P_push hP (mZ_lt M rf) o1 ?_) (va_S_grow hS (by omega) o1) hL
  have ec : ce G (rZ rf n) (mZ M n) n = .inl (G.2.1 7, len, .inr (.inl (fun _ => Int64.ofInt 0))) := by unfold ce; rw [hl]; simp [ceK, mZ]
  rw [ec]
  exact e1
theorem a_newZ (A : Am G E cc nL own n0 d kc wc) (hn : n = n0 + k) {len : Nat} {m : Int} (hl : ly n = (8, len)) (D : decode cc pc = .ok (.newarray .boolean, 2)) (hm : m = len) (hb : len ≤ 100) (hk : k + 1 ≤ kc ∧ w + len ≤ wc) (kk : AW G E nL (pc + 2) lv (.ref n :: st) (n + 1) (k + 1) (w + len) (rZ rf n) (mZ M n)) : AW G E nL pc lv (vi m :: st) n k w rf M := by
  refine a_size A hn (fun H locs ls hP hS hL hz => ?_)
  have hT := A.2.2.2.2.1.2
  have hcl : (Int32.ofInt m).toNatClampNeg = len := by rw [i32_cl (by omega) (by omega)]; omega
  have hmm : ¬ Int32.ofInt m < 0 := fun q => by have := (i32_lt (x := m) (y := 0) (by omega) (by omega)).mp q; omega
  refine va_newaK (atype := .boolean) A.1 A.2.1 hT.2.2.2.2.2.use rfl D rfl hmm hcl (by show len * 1 ≤ _; omega) (Nat.le_trans hk.1 A.2.2.2.2.2.2.2.2.1) (Nat.le_trans hk.2 A.2.2.2.2.2.2.2.2.2) hz (fun H1 cA e1 z1 o1 hAr hNm => ?_)
  rw [← hz] at o1
  have hra := (A.2.2.2.2.1.1.2 2 _ rfl).2
  have ecA : cA = G.2.1 8 := Option.some.inj (hNm.symm.trans hra)
  subst ecA
  refine kk H1 locs ls (va_P_push hP (mZ_lt M rf) o1 ?_) (va_S_grow hS (by omega) o1) hL
  have ec : ce G (rZ rf n) (mZ M n) n = .inl (G.2.1 8, len, .inl (fun _ => Int32.ofInt 0)) := by unfold ce; rw [hl]; simp [ceK, mZ]
  rw [ec]
  exact e1
theorem a_newQ (A : Am G E cc nL own n0 d kc wc) (hn : n = n0 + k) {len ix : Nat} {m : Int} (hl : ly n = (9, len)) (h1 : Cond.classLink own ix RX1 ∈ lw_tbl) (D : decode cc pc = .ok (.anewarray ix, 3)) (hm : m = len) (hb : len ≤ 100) (hk : k + 1 ≤ kc ∧ w + len ≤ wc) (kk : AW G E nL (pc + 3) lv (.ref n :: st) (n + 1) (k + 1) (w + len) (rZ rf n) (mZ M n)) : AW G E nL pc lv (vi m :: st) n k w rf M := by
  refine a_size A hn (fun H locs ls hP hS hL hz => ?_)
  have hT := A.2.2.2.2.1.2
  have hcl : (Int32.ofInt m).toNatClampNeg = len := by rw [i32_cl (by omega) (by omega)]; omega
  have hmm : ¬ Int32.ofInt m < 0 := fun q => by have := (i32_lt (x := m) (y := 0) (by omega) (by omega)).mp q; omega
  refine W.anew A.1 A.2.1 A.2.2.2.1 (hT.use h1 rfl) hT.2.1.use rfl D rfl hmm (by rw [hcl]; omega) (Nat.le_trans hk.1 A.2.2.2.2.2.2.2.2.1) (by rw [hcl]; exact Nat.le_trans hk.2 A.2.2.2.2.2.2.2.2.2) (fun cA kA comp f1 f2 f3 f4 => ?_)
  obtain ⟨kA2, comp2, -, -, -, hra⟩ := (A.2.2.2.2.1.1.2 3 _ rfl).2
  have ecA : cA = G.2.1 9 := Option.some.inj (f1.symm.trans hra)
  subst ecA
  rw [hcl, hz]
  have o1 : ∀ q, q < H.size → (H.push ({ cls := G.2.1 9, slots := Array.replicate len .null, vm := .none } : Cell))[q]? = H[q]? := fun q hq => by rw [Array.getElem?_push, if_neg (Nat.ne_of_lt hq)]
  refine kk _ locs ls (va_P_push hP (mZ_lt M rf) o1 ?_) (va_S_grow hS (by simp) o1) hL
  have ec : ce G (rZ rf n) (mZ M n) n = .inl (G.2.1 9, len, .inr (.inr (.inr (.inr (fun _ => none))))) := by unfold ce; rw [hl]; simp [ceK, rZ]
  rw [ec]
  show (H.push _)[gz G + n]? = some (vp_cell _ _)
  rw [vp_cell_q, ← hz]
  show _ = some (arrV (G.2.1 9) len (fun _ => .null))
  rw [← arrV_new]
  simp
theorem a_aastore (A : Am G E cc nL own n0 d kc wc) {a len v j : Nat} {i : Int} (D : decode cc pc = .ok (.aastore, 1)) (hl : ly a = (9, len)) (ha : a < n) (hb : len ≤ 100) (hi : 0 ≤ i ∧ i < len) (hj : i.toNat = j) (hv : ly v = (1, 0)) (hvn : v < n) (kk : AW G E nL (pc + 1) lv st n k w (upr rf a j (some v)) M) : AW G E nL pc lv (.ref v :: vi i :: .ref a :: st) n k w rf M := by
  subst hj
  intro H locs ls hP hS hL
  have he : (wl G n rf M)[a]? = some (gz G + a, .inl (G.2.1 9, len, .inr (.inr (.inr (.inr (fun j => (rf a j).map (fun q => gz G + q))))))) := by
    rw [wl_get ha]; unfold ce; rw [hl]; rfl
  have hev : (wl G n rf M)[v]? = some (gz G + v, .inr (1, (List.range 5).map (fun j => fv (tyX1 j) (M v j) (rf v j) (gz G)))) := by
    rw [wl_get hvn, ce_obj hv (by decide)]; rfl
  refine va_astq (r := (RX1, TX1, 5)) A.1 A.2.1 A.2.2.2.2.1.1 hP wl_D hS a 3 v 1 he rfl hev rfl (i32_in hi.1 hi.2 (by omega)) D (fun H1 locs1 hP1 _ hS1 => ?_)
  rw [i32_cl hi.1 (by omega), wl_set (rf' := upr rf a i.toNat (some v)) (M' := M) ?_ (fun c hc => ce_same rfl (by simp [upr, hc]))] at hP1
  · exact kk H1 locs1 ls hP1 hS1 hL
  · unfold ce
    rw [hl]
    simp only [ceK]
    congr 7
    funext j
    by_cases h : j = i.toNat
    · simp [upr, va_up, h]
    · simp [upr, va_up, h]
theorem a_oinit (A : Am G E cc nL own n0 d kc wc) {ix a : Nat} (h1 : Cond.methodLink own ix objectInit ∈ lw_tbl) (h2 : Cond.instanceMethod objectInit ∈ lw_tbl) (h3 : Cond.code objectInit ⟨#[0xb1]⟩ 1 none ∈ lw_tbl) (D : decode cc pc = .ok (.invokespecial ix, 3)) (hd : 1 ≤ d) (hrest : (st.map fun v => v.category).sum ≤ 8) (kk : AW G E nL (pc + 3) lv st n k w rf M) : AW G E nL pc lv (.ref a :: st) n k w rf M := by
  intro H locs ls hP hS hL
  have hT := A.2.2.2.2.1.2
  have hf := A.2.2.2.2.2.2.1
  have hlo := A.2.2.2.2.2.2.2.1
  exact W.objInit A.1 A.2.1 A.2.2.2.1 (hT.use h1 rfl) (hT.use h2 rfl) (hT.use h3 rfl) rfl (by rw [A.2.2.1]; exact hL.1) rfl D (by omega) (by rw [cv_sum]; show 2 * 0 + _ + 12 ≤ _; omega) (kk H locs ls hP hS hL)
end ANR
