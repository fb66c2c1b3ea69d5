/-! fields and arrays -/
def CF (ci : Nat) (C : String) (T : u_T) (N : Nat) (ty : Nat → FieldType) : Prop := vwCl[ci]? = some (C, T, N) ∧ clN ci = N ∧ clT ci = ty ∧ ci < 6 ∧ (∀ w ∈ u_ws C T N, w ∈ lw_tbl ∧ okW w = true) ∧ (∀ k, k < N → parseFieldDescriptor (T k).2.2.1 = some (ty k)) ∧ (∀ a, a < N → ∀ b, b < N → a ≠ b → (T a).2.1 ≠ (T b).2.1)
theorem cf0 : CF 0 RX0 TX0 2 tyX0 := ⟨rfl, rfl, rfl, by decide, tb_u0, tyX0_ok, nmX0⟩
theorem cf1 : CF 1 RX1 TX1 5 tyX1 := ⟨rfl, rfl, rfl, by decide, tb_u1, tyX1_ok, nmX1⟩
theorem cf2 : CF 2 RX2 TX2 17 tyX2 := ⟨rfl, rfl, rfl, by decide, tb_u2, tyX2_ok, nmX2⟩
theorem cf3 : CF 3 RX3 TX3 9 tyX3 := ⟨rfl, rfl, rfl, by decide, tb_u3, tyX3_ok, nmX3⟩
theorem cf4 : CF 4 RX4 TX4 8 tyX4 := ⟨rfl, rfl, rfl, by decide, tb_u4, tyX4_ok, nmX4⟩
theorem cf5 : CF 5 RX5 TX5 33 tyX5 := ⟨rfl, rfl, rfl, by decide, tb_u5, tyX5_ok, nmX5⟩
def FL (own : String) (ix : Nat) (T : u_T) (j : Nat) : Prop := Cond.fieldLink own ix (T j).1 (T j).2.1 (T j).2.2.1 ∈ lw_tbl ∨ Cond.fieldLinkNest own ix (T j).1 (T j).2.1 (T j).2.2.1 RX4 ∈ lw_tbl
theorem ce_obj {G : GG} {rf : RF} {M : MM} {a ci len : Nat} (h : ly a = (ci, len)) (hc : ci < 6) : ce G rf M a = .inr (ci, (List.range (clN ci)).map (fun j => fv (clT ci j) (M a j) (rf a j) (gz G))) := by
  unfold ce
  rw [h]
  match ci, hc with
  | 0, _ => rfl
  | 1, _ => rfl
  | 2, _ => rfl
  | 3, _ => rfl
  | 4, _ => rfl
  | 5, _ => rfl
theorem ce_same {G : GG} {rf rf' : RF} {M M' : MM} {c : Nat} (h1 : M' c = M c) (h2 : rf' c = rf c) : ce G rf' M' c = ce G rf M c := by
  unfold ce
  rw [h1, h2]
theorem rng_set {α : Type} (f g : Nat → α) (N j : Nat) (v : α) (h : ∀ i, i < N → g i = if i = j then v else f i) : ((List.range N).map f).set j v = (List.range N).map g := by
  apply List.ext_getElem?
  intro i
  by_cases hi : i < N
  · rw [List.getElem?_set]
    by_cases hj : j = i
    · subst hj
      simp [hi, h j hi]
    · rw [if_neg hj]
      simp [hi, h i hi, Ne.symm hj]
  · rw [List.getElem?_eq_none (by simp; omega), List.getElem?_eq_none (by simp; omega)]
section AHR
variable {G : GG} {E : EE} {cc : ByteArray} {nL : Nat} {own : String} {n0 d kc wc pc : Nat} {lv st : List Value} {n k w : Nat} {rf : RF} {M : MM}
theorem Am.words (A : Am G E cc nL own n0 d kc wc) {ci N : Nat} {C : String} {T : u_T} {ty : Nat → FieldType} (C0 : CF ci C T N ty) : ∀ w ∈ u_ws C T N, w.before (eA E) (eS E) = true := fun w hw => A.2.2.2.2.1.2.use (C0.2.2.2.2.1 w hw).1 (C0.2.2.2.2.1 w hw).2
theorem a_get (A : Am G E cc nL own n0 d kc wc) {ci N len a ix : Nat} {C : String} {T : u_T} {ty : Nat → FieldType} (C0 : CF ci C T N ty) (hl : ly a = (ci, len)) (ha : a < n) (j : Nat) (hj : j < N) (hf : FL own ix T j) (D : decode cc pc = .ok (.getfield ix, 3)) {v : Value} (hv : fv (ty j) (M a j) (rf a j) (gz G) = cv G v) (kk : AW G E nL (pc + 3) lv (v :: st) n k w rf M) : AW G E nL pc lv (.ref a :: st) n k w rf M := by
  intro H locs ls hP hS hL
  have hts := A.words C0
  obtain ⟨c1, c2, c3, c4, -, -, -⟩ := C0
  have he : (wl G n rf M)[a]? = some (gz G + a, .inr (ci, (List.range N).map (fun j => fv (ty j) (M a j) (rf a j) (gz G)))) := by
    rw [wl_get ha, ce_obj hl c4, c2, c3]
  have hv2 : ((List.range N).map (fun j => fv (ty j) (M a j) (rf a j) (gz G)))[j]? = some (cv G v) := by
    simp [hj, hv]
  rcases hf with hf | hf
  · exact va_get A.1 A.2.1 hts (fun _ h => h) A.2.2.2.1 A.2.2.2.2.1.1 hP a he c1 j hj (A.2.2.2.2.1.2.use hf rfl) (fun _ h => h) hv2 D (kk H locs ls hP hS hL)
  · exact va_getN A.1 A.2.1 hts (fun _ h => h) A.2.2.2.1 A.2.2.2.2.1.1 hP a he c1 j hj (A.2.2.2.2.1.2.use hf rfl) (fun _ h => h) hv2 D (kk H locs ls hP hS hL)
theorem a_getI (A : Am G E cc nL own n0 d kc wc) {ci N len a ix : Nat} {C : String} {T : u_T} {ty : Nat → FieldType} (C0 : CF ci C T N ty) (hl : ly a = (ci, len)) (ha : a < n) (j : Nat) (hj : j < N) (hf : FL own ix T j) (ht : ty j = .int ∨ ty j = .boolean) (D : decode cc pc = .ok (.getfield ix, 3)) {x : Int} (hv : M a j = x) (kk : AW G E nL (pc + 3) lv (vi x :: st) n k w rf M) : AW G E nL pc lv (.ref a :: st) n k w rf M :=
  a_get A C0 hl ha j hj hf D (by rcases ht with h | h <;> rw [h, hv] <;> rfl) kk
theorem a_getL (A : Am G E cc nL own n0 d kc wc) {ci N len a ix : Nat} {C : String} {T : u_T} {ty : Nat → FieldType} (C0 : CF ci C T N ty) (hl : ly a = (ci, len)) (ha : a < n) (j : Nat) (hj : j < N) (hf : FL own ix T j) (ht : ty j = .long) (D : decode cc pc = .ok (.getfield ix, 3)) {x : Int} (hv : M a j = x) (kk : AW G E nL (pc + 3) lv (vl x :: st) n k w rf M) : AW G E nL pc lv (.ref a :: st) n k w rf M :=
  a_get A C0 hl ha j hj hf D (by rw [ht, hv]; rfl) kk
theorem a_getR (A : Am G E cc nL own n0 d kc wc) {ci N len a ix r : Nat} {C : String} {T : u_T} {ty : Nat → FieldType} (C0 : CF ci C T N ty) (hl : ly a = (ci, len)) (ha : a < n) (j : Nat) (hj : j < N) (hf : FL own ix T j) (ht : (∃ c, ty j = .object c) ∨ ∃ t, ty j = .array t) (hr : rf a j = some r) (D : decode cc pc = .ok (.getfield ix, 3)) (kk : AW G E nL (pc + 3) lv (.ref r :: st) n k w rf M) : AW G E nL pc lv (.ref a :: st) n k w rf M :=
  a_get A C0 hl ha j hj hf D (by rw [hr]; rcases ht with ⟨_, h⟩ | ⟨_, h⟩ <;> rw [h] <;> rfl) kk
/-- putfield: of a field that isn't final; or of a final one in its own constructor -/
theorem a_put (A : Am G E cc nL own n0 d kc wc) {ci N len a ix : Nat} {C : String} {T : u_T} {ty : Nat → FieldType} (C0 : CF ci C T N ty) (hl : ly a = (ci, len)) (ha : a < n) (j : Nat) (hj : j < N) (hf : FL own ix T j) (hfin : (T j).2.2.2 = false ∨ ((T j).2.2.2 = true ∧ (eT E).name = "<init>" ∧ (T j).1 = own ∧ Cond.fieldLink own ix (T j).1 (T j).2.1 (T j).2.2.1 ∈ lw_tbl)) (D : decode cc pc = .ok (.putfield ix, 3)) {v : Value} {rf' : RF} {M' : MM}
    (hn : narrow (ty j) (cv G v) = cv G v) (hfit : fits (ty j) (cv G v) = true) (h1 : ∀ i, i < N → fv (ty i) (M' a i) (rf' a i) (gz G) = if i = j then cv G v else fv (ty i) (M a i) (rf a i) (gz G)) (h2 : ∀ c, c ≠ a → M' c = M c ∧ rf' c = rf c) (kk : AW G E nL (pc + 3) lv st n k w rf' M') : AW G E nL pc lv (v :: .ref a :: st) n k w rf M := by
  intro H locs ls hP hS hL
  have hts := A.words C0
  obtain ⟨c1, c2, c3, c4, -, c6, c7⟩ := C0
  have he : (wl G n rf M)[a]? = some (gz G + a, .inr (ci, (List.range N).map (fun j => fv (ty j) (M a j) (rf a j) (gz G)))) := by
    rw [wl_get ha, ce_obj hl c4, c2, c3]
  have hs : (wl G n rf M).set a (gz G + a, .inr (ci, ((List.range N).map (fun j => fv (ty j) (M a j) (rf a j) (gz G))).set j (cv G v))) = wl G n rf' M' := by
    refine wl_set ?_ (fun c hc => ce_same (h2 c hc).1 (h2 c hc).2)
    rw [ce_obj hl c4, c2, c3, rng_set _ _ _ _ _ h1]
  have go : ∀ (H1 : Heap) (locs1 : List Loc), va_P G.1 vwCl ((wl G n rf M).set a (gz G + a, .inr (ci, ((List.range N).map (fun j => fv (ty j) (M a j) (rf a j) (gz G))).set j (cv G v)))) H1 → va_D (fun q => gz G ≤ q) ((wl G n rf M).set a (gz G + a, .inr (ci, ((List.range N).map (fun j => fv (ty j) (M a j) (rf a j) (gz G))).set j (cv G v)))) → va_S (fun q => gz G ≤ q) (eS E).heap H1 locs1 → WW E H1 locs1 k w (F0 (eM E) (pc + 3) ls (st.map (cv G))) := by
    intro H1 locs1 hP1 _ hS1
    rw [hs] at hP1
    exact kk H1 locs1 ls hP1 hS1 hL
  rcases hfin with hfin | ⟨hfin, hm, hd, hf2⟩
  · rcases hf with hf | hf
    · exact va_put A.1 A.2.1 hts (fun _ h => h) ty c6 c7 A.2.2.2.1 A.2.2.2.2.1.1 hP wl_D hS a he c1 j hj (A.2.2.2.2.1.2.use hf rfl) (fun _ h => h) hfin (c6 j hj) hn hfit (by simp; exact hj) D go
    · exact va_putN A.1 A.2.1 hts (fun _ h => h) ty c6 c7 A.2.2.2.1 A.2.2.2.2.1.1 hP wl_D hS a he c1 j hj (A.2.2.2.2.1.2.use hf rfl) (fun _ h => h) hfin (c6 j hj) hn hfit (by simp; exact hj) D go
  · exact va_putF A.1 A.2.1 hts (fun _ h => h) ty c6 c7 A.2.2.2.1 A.2.2.2.2.1.1 hP wl_D hS a he c1 j hj (A.2.2.2.2.1.2.use hf2 rfl) (fun _ h => h) hfin hm hd (c6 j hj) hn hfit (by simp; exact hj) D go
theorem a_putI (A : Am G E cc nL own n0 d kc wc) {ci N len a ix : Nat} {C : String} {T : u_T} {ty : Nat → FieldType} (C0 : CF ci C T N ty) (hl : ly a = (ci, len)) (ha : a < n) (j : Nat) (hj : j < N) (hf : FL own ix T j) (ht : ty j = .int) (hfin : (T j).2.2.2 = false) (D : decode cc pc = .ok (.putfield ix, 3)) {x : Int} (kk : AW G E nL (pc + 3) lv st n k w rf (up2 M a j x)) : AW G E nL pc lv (vi x :: .ref a :: st) n k w rf M := by
  refine a_put A C0 hl ha j hj hf (Or.inl hfin) D (by rw [ht]; rfl) (by rw [ht]; rfl) (fun i hi => ?_) (fun c hc => ⟨up2_ne _ _ _ _ hc, rfl⟩) kk
  rw [up2_in]
  by_cases e : i = j
  · rw [if_pos e, if_pos e, e, ht]; rfl
  · rw [if_neg e, if_neg e]
theorem a_putZ (A : Am G E cc nL own n0 d kc wc) {ci N len a ix : Nat} {C : String} {T : u_T} {ty : Nat → FieldType} (C0 : CF ci C T N ty) (hl : ly a = (ci, len)) (ha : a < n) (j : Nat) (hj : j < N) (hf : FL own ix T j) (ht : ty j = .boolean) (hfin : (T j).2.2.2 = false) (D : decode cc pc = .ok (.putfield ix, 3)) {x : Int} (hx : x = 0 ∨ x = 1) (kk : AW G E nL (pc + 3) lv st n k w rf (up2 M a j x)) : AW G E nL pc lv (vi x :: .ref a :: st) n k w rf M := by
  refine a_put A C0 hl ha j hj hf (Or.inl hfin) D (by rw [ht]; rcases hx with rfl | rfl <;> rfl) (by rw [ht]; rcases hx with rfl | rfl <;> rfl) (fun i hi => ?_) (fun c hc => ⟨up2_ne _ _ _ _ hc, rfl⟩) kk
  rw [up2_in]
  by_cases e : i = j
  · rw [if_pos e, if_pos e, e, ht]; rfl
  · rw [if_neg e, if_neg e]
theorem a_putL (A : Am G E cc nL own n0 d kc wc) {ci N len a ix : Nat} {C : String} {T : u_T} {ty : Nat → FieldType} (C0 : CF ci C T N ty) (hl : ly a = (ci, len)) (ha : a < n) (j : Nat) (hj : j < N) (hf : FL own ix T j) (ht : ty j = .long) (hfin : (T j).2.2.2 = false) (D : decode cc pc = .ok (.putfield ix, 3)) {x : Int} (kk : AW G E nL (pc + 3) lv st n k w rf (up2 M a j x)) : AW G E nL pc lv (vl x :: .ref a :: st) n k w rf M := by
  refine a_put A C0 hl ha j hj hf (Or.inl hfin) D (by rw [ht]; rfl) (by rw [ht]; rfl) (fun i hi => ?_) (fun c hc => ⟨up2_ne _ _ _ _ hc, rfl⟩) kk
  rw [up2_in]
  by_cases e : i = j
  · rw [if_pos e, if_pos e, e, ht]; rfl
  · rw [if_neg e, if_neg e]
theorem a_putR (A : Am G E cc nL own n0 d kc wc) {ci N len a ix r : Nat} {C : String} {T : u_T} {ty : Nat → FieldType} (C0 : CF ci C T N ty) (hl : ly a = (ci, len)) (ha : a < n) (j : Nat) (hj : j < N) (hf : Cond.fieldLink own ix (T j).1 (T j).2.1 (T j).2.2.1 ∈ lw_tbl) (ht : (∃ c, ty j = .object c) ∨ ∃ t, ty j = .array t) (hfin : (T j).2.2.2 = true) (hm : (eT E).name = "<init>") (hd : (T j).1 = own) (D : decode cc pc = .ok (.putfield ix, 3)) (kk : AW G E nL (pc + 3) lv st n k w (upr rf a j (some r)) M) : AW G E nL pc lv (.ref r :: .ref a :: st) n k w rf M := by
  refine a_put A C0 hl ha j hj (Or.inl hf) (Or.inr ⟨hfin, hm, hd, hf⟩) D (by rcases ht with ⟨_, h⟩ | ⟨_, h⟩ <;> rw [h] <;> rfl) (by rcases ht with ⟨_, h⟩ | ⟨_, h⟩ <;> rw [h] <;> rfl) (fun i hi => ?_) (fun c hc => ⟨rfl, by simp [upr, hc]⟩) kk
  by_cases e : i = j
  · rw [if_pos e, e]
    have e2 : upr rf a j (some r) a j = some r := by simp [upr]
    rw [e2]
    rcases ht with ⟨_, h⟩ | ⟨_, h⟩ <;> rw [h] <;> rfl
  · rw [if_neg e]
    have e2 : upr rf a j (some r) a i = rf a i := by simp [upr, e]
    rw [e2]
/-! arrays -/
theorem a_iaload (A : Am G E cc nL own n0 d kc wc) {a len : Nat} {i : Int} (D : decode cc pc = .ok (.iaload, 1)) (hl : ly a = (6, len)) (ha : a < n) (hb : len ≤ 100) (hi : 0 ≤ i ∧ i < len) {x : Int} (hv : M a i.toNat = x) (kk : AW G E nL (pc + 1) lv (vi x :: st) n k w rf M) : AW G E nL pc lv (vi i :: .ref a :: st) n k w rf M := by
  intro H locs ls hP hS hL
  have he : (wl G n rf M)[a]? = some (gz G + a, .inl (G.2.1 6, len, .inl (fun j => Int32.ofInt (M a j)))) := by
    rw [wl_get ha]; unfold ce; rw [hl]; rfl
  refine va_iald A.1 A.2.1 A.2.2.2.2.1.1 hP a 0 he rfl (i32_in hi.1 hi.2 (by omega)) D ?_
  rw [i32_cl hi.1 (by omega), hv]
  exact kk H locs ls hP hS hL
theorem a_baload (A : Am G E cc nL own n0 d kc wc) {a len : Nat} {i : Int} (D : decode cc pc = .ok (.baload, 1)) (hl : ly a = (8, len)) (ha : a < n) (hb : len ≤ 100) (hi : 0 ≤ i ∧ i < len) {x : Int} (hv : M a i.toNat = x) (kk : AW G E nL (pc + 1) lv (vi x :: st) n k w rf M) : AW G E nL pc lv (vi i :: .ref a :: st) n k w rf M := by
  intro H locs ls hP hS hL
  have he : (wl G n rf M)[a]? = some (gz G + a, .inl (G.2.1 8, len, .inl (fun j => Int32.ofInt (M a j)))) := by
    rw [wl_get ha]; unfold ce; rw [hl]; rfl
  refine va_zald A.1 A.2.1 A.2.2.2.2.1.1 hP a 2 he rfl (i32_in hi.1 hi.2 (by omega)) D ?_
  rw [i32_cl hi.1 (by omega), hv]
  exact kk H locs ls hP hS hL
theorem a_laload (A : Am G E cc nL own n0 d kc wc) {a len : Nat} {i : Int} (D : decode cc pc = .ok (.laload, 1)) (hl : ly a = (7, len)) (ha : a < n) (hb : len ≤ 100) (hi : 0 ≤ i ∧ i < len) {x : Int} (hv : M a i.toNat = x) (kk : AW G E nL (pc + 1) lv (vl x :: st) n k w rf M) : AW G E nL pc lv (vi i :: .ref a :: st) n k w rf M := by
  intro H locs ls hP hS hL
  have he : (wl G n rf M)[a]? = some (gz G + a, .inl (G.2.1 7, len, .inr (.inl (fun j => Int64.ofInt (M a j))))) := by
    rw [wl_get ha]; unfold ce; rw [hl]; rfl
  refine va_lald A.1 A.2.1 A.2.2.2.2.1.1 hP a 1 he rfl (i32_in hi.1 hi.2 (by omega)) D ?_
  rw [i32_cl hi.1 (by omega), hv]
  exact kk H locs ls hP hS hL
theorem a_aaload (A : Am G E cc nL own n0 d kc wc) {a len r kd : Nat} {i : Int} (D : decode cc pc = .ok (.aaload, 1)) (hl : ly a = (kd, len)) (hk : kd = 9 ∨ kd = 10) (ha : a < n) (hb : len ≤ 100) (hi : 0 ≤ i ∧ i < len) (hr : rf a i.toNat = some r) (kk : AW G E nL (pc + 1) lv (.ref r :: st) n k w rf M) : AW G E nL pc lv (vi i :: .ref a :: st) n k w rf M := by
  intro H locs ls hP hS hL
  have hin := i32_in hi.1 hi.2 (by omega)
  have hlt : (Int32.ofInt i).toNatClampNeg < len := Nat.not_le.mp fun q => hin (Or.inr q)
  have hcl := i32_cl hi.1 (by omega)
  have hv : va_rf ((rf a (Int32.ofInt i).toNatClampNeg).map (fun q => gz G + q)) = .ref (gz G + r) := by rw [hcl, hr]; rfl
  have key : ∀ (cA : ClassId) (t0 : Nat) (ty : FieldType), ty.isReference = true → (tysOf G)[t0]? = some (cA, ty) → (wl G n rf M)[a]? = some (gz G + a, .inl (cA, len, .inr (.inr (.inr (.inr (fun j => (rf a j).map (fun q => gz G + q))))))) → WW E H locs k w (F0 (eM E) pc ls ((vi i :: .ref a :: st).map (cv G))) := by
    intro cA t0 ty hty ht he
    refine W.aald (v := .ref (gz G + r)) (ty := ty) A.1 A.2.1 (hP a _ he) ((A.2.2.2.2.1.1.2 t0 _ ht).1 len (fun j => va_rf ((rf a j).map (fun q => gz G + q)))) hty (fun q => by cases q) (by show ¬ (Int32.ofInt i < 0 ∨ (arrV _ _ _).slots.size ≤ _); rw [arrV_size]; exact hin) (by show (arrV _ _ _).slots[_]? = _; rw [arrV_read _ _ hlt, hv]) rfl rfl D ?_
    exact kk H locs ls hP hS hL
  rcases hk with rfl | rfl
  · exact key (G.2.1 9) 3 (.object RX1) rfl rfl (by rw [wl_get ha]; unfold ce; rw [hl]; rfl)
  · exact key (G.2.1 10) 4 (.array .int) rfl rfl (by rw [wl_get ha]; unfold ce; rw [hl]; rfl)
theorem upd_of (f : Nat → Int) (j : Nat) (x : Int) : upd (fun i => Int32.ofInt (f i)) j (Int32.ofInt x) = fun i => Int32.ofInt (if i = j then x else f i) := by
  funext i
  by_cases h : i = j
  · simp [upd, h]
  · simp [upd, h]
theorem updL_of (f : Nat → Int) (j : Nat) (x : Int) : vp_updL (fun i => Int64.ofInt (f i)) j (Int64.ofInt x) = fun i => Int64.ofInt (if i = j then x else f i) := by
  funext i
  by_cases h : i = j
  · simp [vp_updL, h]
  · simp [vp_updL, h]
theorem a_iastore (A : Am G E cc nL own n0 d kc wc) {a len : Nat} {i x : Int} (D : decode cc pc = .ok (.iastore, 1)) (hl : ly a = (6, len)) (ha : a < n) (hb : len ≤ 100) (hi : 0 ≤ i ∧ i < len) {j : Nat} (hj : i.toNat = j) (kk : AW G E nL (pc + 1) lv st n k w rf (up2 M a j x)) : AW G E nL pc lv (vi x :: vi i :: .ref a :: st) n k w rf M := by
  subst hj
  intro H locs ls hP hS hL
  have he : (wl G n rf M)[a]? = some (gz G + a, .inl (G.2.1 6, len, .inl (fun j => Int32.ofInt (M a j)))) := by
    rw [wl_get ha]; unfold ce; rw [hl]; rfl
  refine va_iast A.1 A.2.1 A.2.2.2.2.1.1 hP wl_D hS a 0 he rfl (i32_in hi.1 hi.2 (by omega)) D (fun H1 locs1 hP1 _ hS1 => ?_)
  rw [i32_cl hi.1 (by omega), upd_of, wl_set (rf' := rf) (M' := up2 M a i.toNat x) (by unfold ce; rw [hl]; simp only [ceK, up2_in]) (fun c hc => ce_same (up2_ne _ _ _ _ hc) rfl)] at hP1
  exact kk H1 locs1 ls hP1 hS1 hL
theorem a_lastore (A : Am G E cc nL own n0 d kc wc) {a len : Nat} {i x : Int} (D : decode cc pc = .ok (.lastore, 1)) (hl : ly a = (7, len)) (ha : a < n) (hb : len ≤ 100) (hi : 0 ≤ i ∧ i < len) {j : Nat} (hj : i.toNat = j) (kk : AW G E nL (pc + 1) lv st n k w rf (up2 M a j x)) : AW G E nL pc lv (vl x :: vi i :: .ref a :: st) n k w rf M := by
  subst hj
  intro H locs ls hP hS hL
  have he : (wl G n rf M)[a]? = some (gz G + a, .inl (G.2.1 7, len, .inr (.inl (fun j => Int64.ofInt (M a j))))) := by
    rw [wl_get ha]; unfold ce; rw [hl]; rfl
  refine va_last A.1 A.2.1 A.2.2.2.2.1.1 hP wl_D hS a 1 he rfl (i32_in hi.1 hi.2 (by omega)) D (fun H1 locs1 hP1 _ hS1 => ?_)
  rw [i32_cl hi.1 (by omega), updL_of, wl_set (rf' := rf) (M' := up2 M a i.toNat x) (by unfold ce; rw [hl]; simp only [ceK, up2_in]) (fun c hc => ce_same (up2_ne _ _ _ _ hc) rfl)] at hP1
  exact kk H1 locs1 ls hP1 hS1 hL
theorem a_bastore (A : Am G E cc nL own n0 d kc wc) {a len : Nat} {i x : Int} (D : decode cc pc = .ok (.bastore, 1)) (hl : ly a = (8, len)) (ha : a < n) (hb : len ≤ 100) (hi : 0 ≤ i ∧ i < len) {j : Nat} (hj : i.toNat = j) (hx : x = 0 ∨ x = 1) (kk : AW G E nL (pc + 1) lv st n k w rf (up2 M a j x)) : AW G E nL pc lv (vi x :: vi i :: .ref a :: st) n k w rf M := by
  subst hj
  intro H locs ls hP hS hL
  have he : (wl G n rf M)[a]? = some (gz G + a, .inl (G.2.1 8, len, .inl (fun j => Int32.ofInt (M a j)))) := by
    rw [wl_get ha]; unfold ce; rw [hl]; rfl
  refine va_zast A.1 A.2.1 A.2.2.2.2.1.1 hP wl_D hS a 2 he rfl (i32_in hi.1 hi.2 (by omega)) D (fun H1 locs1 hP1 _ hS1 => ?_)
  have hx2 : vp_nar .boolean (Int32.ofInt x) = Int32.ofInt x := by rcases hx with rfl | rfl <;> decide
  rw [hx2, i32_cl hi.1 (by omega), upd_of, wl_set (rf' := rf) (M' := up2 M a i.toNat x) (by unfold ce; rw [hl]; simp only [ceK, up2_in]) (fun c hc => ce_same (up2_ne _ _ _ _ hc) rfl)] at hP1
  exact kk H1 locs1 ls hP1 hS1 hL
end AHR
