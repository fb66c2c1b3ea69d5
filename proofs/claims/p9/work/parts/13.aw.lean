/-! THE ABSTRACT MACHINE'S JUDGEMENT: from pc, with locals lv, stack st, n cells (k of them, of w slots, made since the entry), references rf and numbers M, the machine comes to its end -/
abbrev EE : Type := Program × Launch × Env × Room × State × MethodId × Array Value × List Frame × Method × Code × (State → Prop)
abbrev eP (E : EE) : Program := E.1
abbrev eL (E : EE) : Launch := E.2.1
abbrev eE (E : EE) : Env := E.2.2.1
abbrev eR (E : EE) : Room := E.2.2.2.1
abbrev eS (E : EE) : State := E.2.2.2.2.1
abbrev eM (E : EE) : MethodId := E.2.2.2.2.2.1
abbrev eA (E : EE) : Array Value := E.2.2.2.2.2.2.1
abbrev eB (E : EE) : List Frame := E.2.2.2.2.2.2.2.1
abbrev eT (E : EE) : Method := E.2.2.2.2.2.2.2.2.1
abbrev eC (E : EE) : Code := E.2.2.2.2.2.2.2.2.2.1
abbrev eQ (E : EE) : State → Prop := E.2.2.2.2.2.2.2.2.2.2
abbrev WW (E : EE) (H : Heap) (locs : List Loc) (k w : Nat) (g : JFrame) : Prop := W (eP E) (eL E) (eE E) (eR E) (eS E) (eM E) (eA E) (eB E) (eT E) (eC E) H locs k w (eQ E) g
def AW (G : GG) (E : EE) (nL pc : Nat) (lv st : List Value) (n k w : Nat) (rf : RF) (M : MM) : Prop :=
  ∀ (H : Heap) (locs : List Loc) (ls : Array Slot), va_P G.1 vwCl (wl G n rf M) H → va_S (fun q => gz G ≤ q) (eS E).heap H locs → LH G ls nL lv → WW E H locs k w (F0 (eM E) pc ls (st.map (cv G)))
def tysOf (G : GG) : List (ClassId × FieldType) := [(G.2.1 6, .int), (G.2.1 7, .long), (G.2.1 8, .boolean), (G.2.1 9, .object RX1), (G.2.1 10, .array .int)]
def KK (G : GG) (U : State) : Prop := va_K G.1 vwCl (tysOf G) U ∧ TB U
def Am (G : GG) (E : EE) (cc : ByteArray) (nL : Nat) (own : String) (n0 d kc wc : Nat) : Prop :=
  (eP E).tables.exec = Jvm.exec ∧ (eC E).code = cc ∧ (eC E).maxLocals = nL ∧ (eS E).vm.findClass own = some (eM E).cls ∧ KK G (eS E) ∧ (eS E).heap.size = gz G + n0 ∧ d ≤ (eR E).frames ∧ 60 * d ≤ (eR E).locals ∧ kc ≤ (eR E).cells ∧ wc ≤ (eR E).slots
section AWR
variable {G : GG} {E : EE} {cc : ByteArray} {nL : Nat} {own : String} {n0 d kc wc pc : Nat} {lv st : List Value} {n k w : Nat} {rf : RF} {M : MM}
theorem a_of {pc' : Nat} {lv' st' : List Value} (h : ∀ (H : Heap) (locs : List Loc) (ls : Array Slot), LH G ls nL lv → (∀ ls', LH G ls' nL lv' → WW E H locs k w (F0 (eM E) pc' ls' (st'.map (cv G)))) → WW E H locs k w (F0 (eM E) pc ls (st.map (cv G)))) (kk : AW G E nL pc' lv' st' n k w rf M) : AW G E nL pc lv st n k w rf M :=
  fun H locs ls hP hS hL => h H locs ls hL (fun ls' hL' => kk H locs ls' hP hS hL')

theorem a_iconst (A : Am G E cc nL own n0 d kc wc) {z : Int} (D : decode cc pc = .ok (.iconst z, 1)) (kk : AW G E nL (pc + 1) lv (vi z :: st) n k w rf M) : AW G E nL pc lv (st) n k w rf M := by
  intro H locs ls hP hS hL
  exact lv_iconst A.1 A.2.1 D rfl (kk H locs ls hP hS hL)
theorem a_bipush (A : Am G E cc nL own n0 d kc wc) {z : Int} (D : decode cc pc = .ok (.bipush z, 2)) (h : -128 ≤ z ∧ z < 128) (kk : AW G E nL (pc + 2) lv (vi z :: st) n k w rf M) : AW G E nL pc lv (st) n k w rf M := by
  intro H locs ls hP hS hL
  exact lv_bipush A.1 A.2.1 D (i32_bip h.1 h.2) (kk H locs ls hP hS hL)
theorem a_sipush (A : Am G E cc nL own n0 d kc wc) {z : Int} (D : decode cc pc = .ok (.sipush z, 3)) (h : -32768 ≤ z ∧ z < 32768) (kk : AW G E nL (pc + 3) lv (vi z :: st) n k w rf M) : AW G E nL pc lv (st) n k w rf M := by
  intro H locs ls hP hS hL
  exact lv_sipush A.1 A.2.1 D (i32_sip h.1 h.2) (kk H locs ls hP hS hL)
theorem a_lconst0 (A : Am G E cc nL own n0 d kc wc) (D : decode cc pc = .ok (.lconst 0, 1)) (kk : AW G E nL (pc + 1) lv (vl 0 :: st) n k w rf M) : AW G E nL pc lv (st) n k w rf M := by
  intro H locs ls hP hS hL
  exact lv_lconst A.1 A.2.1 D (by decide) (kk H locs ls hP hS hL)
theorem a_lconst1 (A : Am G E cc nL own n0 d kc wc) (D : decode cc pc = .ok (.lconst 1, 1)) (kk : AW G E nL (pc + 1) lv (vl 1 :: st) n k w rf M) : AW G E nL pc lv (st) n k w rf M := by
  intro H locs ls hP hS hL
  exact lv_lconst A.1 A.2.1 D (by decide) (kk H locs ls hP hS hL)
theorem a_ldc2 (A : Am G E cc nL own n0 d kc wc) {ix : Nat} {z : Int} (hw : Cond.constantLong own ix (Int64.ofInt z) ∈ lw_tbl) (D : decode cc pc = .ok (.ldc2_w ix, 3)) (kk : AW G E nL (pc + 3) lv (vl z :: st) n k w rf M) : AW G E nL pc lv (st) n k w rf M := by
  intro H locs ls hP hS hL
  exact lv_ldc2 A.1 A.2.1 A.2.2.2.1 (A.2.2.2.2.1.2.use hw rfl) D (kk H locs ls hP hS hL)
theorem a_iload_n (A : Am G E cc nL own n0 d kc wc) {q : Fin 4} {z : Int} (D : decode cc pc = .ok (.iload_n q, 1)) (h : lv[(q : Nat)]? = some (vi z)) (kk : AW G E nL (pc + 1) lv (vi z :: st) n k w rf M) : AW G E nL pc lv (st) n k w rf M := by
  intro H locs ls hP hS hL
  exact lv_iload_n A.1 A.2.1 D rfl (hL.2.2 _ _ h (by intro q; cases q)) (kk H locs ls hP hS hL)
theorem a_iload (A : Am G E cc nL own n0 d kc wc) {q : Nat} {z : Int} (D : decode cc pc = .ok (.iload q, 2)) (h : lv[q]? = some (vi z)) (kk : AW G E nL (pc + 2) lv (vi z :: st) n k w rf M) : AW G E nL pc lv (st) n k w rf M := by
  intro H locs ls hP hS hL
  exact lv_iload A.1 A.2.1 D (hL.2.2 _ _ h (by intro q; cases q)) (kk H locs ls hP hS hL)
theorem a_lload_n (A : Am G E cc nL own n0 d kc wc) {q : Fin 4} {z : Int} (D : decode cc pc = .ok (.lload_n q, 1)) (h : lv[(q : Nat)]? = some (vl z)) (kk : AW G E nL (pc + 1) lv (vl z :: st) n k w rf M) : AW G E nL pc lv (st) n k w rf M := by
  intro H locs ls hP hS hL
  exact lv_lload_n A.1 A.2.1 D rfl (hL.2.2 _ _ h (by intro q; cases q)) (kk H locs ls hP hS hL)
theorem a_lload (A : Am G E cc nL own n0 d kc wc) {q : Nat} {z : Int} (D : decode cc pc = .ok (.lload q, 2)) (h : lv[q]? = some (vl z)) (kk : AW G E nL (pc + 2) lv (vl z :: st) n k w rf M) : AW G E nL pc lv (st) n k w rf M := by
  intro H locs ls hP hS hL
  exact lv_lload A.1 A.2.1 D (hL.2.2 _ _ h (by intro q; cases q)) (kk H locs ls hP hS hL)
theorem a_aload_n (A : Am G E cc nL own n0 d kc wc) {q : Fin 4} {z : Nat} (D : decode cc pc = .ok (.aload_n q, 1)) (h : lv[(q : Nat)]? = some (.ref z)) (kk : AW G E nL (pc + 1) lv (.ref z :: st) n k w rf M) : AW G E nL pc lv (st) n k w rf M := by
  intro H locs ls hP hS hL
  exact lv_aload_n A.1 A.2.1 D rfl (hL.2.2 _ _ h (by intro q; cases q)) (kk H locs ls hP hS hL)
theorem a_aload (A : Am G E cc nL own n0 d kc wc) {q : Nat} {z : Nat} (D : decode cc pc = .ok (.aload q, 2)) (h : lv[q]? = some (.ref z)) (kk : AW G E nL (pc + 2) lv (.ref z :: st) n k w rf M) : AW G E nL pc lv (st) n k w rf M := by
  intro H locs ls hP hS hL
  exact lv_aload A.1 A.2.1 D (hL.2.2 _ _ h (by intro q; cases q)) (kk H locs ls hP hS hL)
theorem a_aloadS (A : Am G E cc nL own n0 d kc wc) {q : Fin 4} (D : decode cc pc = .ok (.aload_n q, 1)) (h : lv[(q : Nat)]? = some (.retAddr 0)) (kk : AW G E nL (pc + 1) lv (.retAddr 0 :: st) n k w rf M) : AW G E nL pc lv (st) n k w rf M := by
  intro H locs ls hP hS hL
  exact lv_aload_n A.1 A.2.1 D rfl (hL.2.2 _ _ h (by intro q; cases q)) (kk H locs ls hP hS hL)
theorem a_istore_n (A : Am G E cc nL own n0 d kc wc) {q : Fin 4} {z : Int} (D : decode cc pc = .ok (.istore_n q, 1)) (hq : (q : Nat) < nL) {lv' : List Value} (hl : st1 lv (q : Nat) (vi z) = lv') (kk : AW G E nL (pc + 1) lv' st n k w rf M) : AW G E nL pc lv (vi z :: st) n k w rf M := by
  intro H locs ls hP hS hL
  subst hl
  obtain ⟨ls', e', h'⟩ := LH.store1 (v := vi z) hL hq rfl
  intro T hT X
  obtain ⟨t, a, b⟩ := kk H locs ls' hP hS h' T hT X
  refine ⟨t, ?_, b⟩
  jvm_step X.here [X.here.top, A.1, A.2.1, D, cv, e']
  exact ⟨ls', e', a⟩
theorem a_istore (A : Am G E cc nL own n0 d kc wc) {q : Nat} {z : Int} (D : decode cc pc = .ok (.istore q, 2)) (hq : q < nL) {lv' : List Value} (hl : st1 lv q (vi z) = lv') (kk : AW G E nL (pc + 2) lv' st n k w rf M) : AW G E nL pc lv (vi z :: st) n k w rf M := by
  intro H locs ls hP hS hL
  subst hl
  obtain ⟨ls', e', h'⟩ := LH.store1 (v := vi z) hL hq rfl
  intro T hT X
  obtain ⟨t, a, b⟩ := kk H locs ls' hP hS h' T hT X
  refine ⟨t, ?_, b⟩
  jvm_step X.here [X.here.top, A.1, A.2.1, D, cv, e']
  exact ⟨ls', e', a⟩
theorem a_lstore_n (A : Am G E cc nL own n0 d kc wc) {q : Fin 4} {z : Int} (D : decode cc pc = .ok (.lstore_n q, 1)) (hq : (q : Nat) + 1 < nL) {lv' : List Value} (hl : st2 lv (q : Nat) (vl z) = lv') (kk : AW G E nL (pc + 1) lv' st n k w rf M) : AW G E nL pc lv (vl z :: st) n k w rf M := by
  intro H locs ls hP hS hL
  subst hl
  obtain ⟨ls', e', h'⟩ := LH.store2 (v := vl z) hL hq rfl
  intro T hT X
  obtain ⟨t, a, b⟩ := kk H locs ls' hP hS h' T hT X
  refine ⟨t, ?_, b⟩
  jvm_step X.here [X.here.top, A.1, A.2.1, D, cv, e']
  exact ⟨ls', e', a⟩
theorem a_lstore (A : Am G E cc nL own n0 d kc wc) {q : Nat} {z : Int} (D : decode cc pc = .ok (.lstore q, 2)) (hq : q + 1 < nL) {lv' : List Value} (hl : st2 lv q (vl z) = lv') (kk : AW G E nL (pc + 2) lv' st n k w rf M) : AW G E nL pc lv (vl z :: st) n k w rf M := by
  intro H locs ls hP hS hL
  subst hl
  obtain ⟨ls', e', h'⟩ := LH.store2 (v := vl z) hL hq rfl
  intro T hT X
  obtain ⟨t, a, b⟩ := kk H locs ls' hP hS h' T hT X
  refine ⟨t, ?_, b⟩
  jvm_step X.here [X.here.top, A.1, A.2.1, D, cv, e']
  exact ⟨ls', e', a⟩
theorem a_astore_n (A : Am G E cc nL own n0 d kc wc) {q : Fin 4} {z : Nat} (D : decode cc pc = .ok (.astore_n q, 1)) (hq : (q : Nat) < nL) {lv' : List Value} (hl : st1 lv (q : Nat) (.ref z) = lv') (kk : AW G E nL (pc + 1) lv' st n k w rf M) : AW G E nL pc lv (.ref z :: st) n k w rf M := by
  intro H locs ls hP hS hL
  subst hl
  obtain ⟨ls', e', h'⟩ := LH.store1 (v := .ref z) hL hq rfl
  intro T hT X
  obtain ⟨t, a, b⟩ := kk H locs ls' hP hS h' T hT X
  refine ⟨t, ?_, b⟩
  jvm_step X.here [X.here.top, A.1, A.2.1, D, cv, e' , Value.isRef]
  exact ⟨ls', e', a⟩
theorem a_astore (A : Am G E cc nL own n0 d kc wc) {q : Nat} {z : Nat} (D : decode cc pc = .ok (.astore q, 2)) (hq : q < nL) {lv' : List Value} (hl : st1 lv q (.ref z) = lv') (kk : AW G E nL (pc + 2) lv' st n k w rf M) : AW G E nL pc lv (.ref z :: st) n k w rf M := by
  intro H locs ls hP hS hL
  subst hl
  obtain ⟨ls', e', h'⟩ := LH.store1 (v := .ref z) hL hq rfl
  intro T hT X
  obtain ⟨t, a, b⟩ := kk H locs ls' hP hS h' T hT X
  refine ⟨t, ?_, b⟩
  jvm_step X.here [X.here.top, A.1, A.2.1, D, cv, e' , Value.isRef]
  exact ⟨ls', e', a⟩
theorem a_iinc (A : Am G E cc nL own n0 d kc wc) {q : Nat} {z c : Int} (D : decode cc pc = .ok (.iinc q c, 3)) (h : lv[q]? = some (vi z)) (hq : q < nL) {lv' : List Value} (hl : st1 lv q (vi (z + c)) = lv') (kk : AW G E nL (pc + 3) lv' st n k w rf M) : AW G E nL pc lv (st) n k w rf M := by
  intro H locs ls hP hS hL
  subst hl
  obtain ⟨ls', e', h'⟩ := LH.store1 (v := vi (z + c)) hL hq rfl
  have hg : ls[q]? = some (.val (.int (Int32.ofInt z))) := hL.2.2 _ _ h (by intro q; cases q)
  have e2 : storeLocals ls q (.int (Int32.ofInt z + Int32.ofInt c)) = some ls' := by rw [← Int32.ofInt_add]; exact e'
  intro T hT X
  obtain ⟨t, a, b⟩ := kk H locs ls' hP hS h' T hT X
  refine ⟨t, ?_, b⟩
  jvm_step X.here [X.here.top, A.1, A.2.1, D, hg, e2]
  exact a
theorem a_iadd (A : Am G E cc nL own n0 d kc wc) {x y : Int} (D : decode cc pc = .ok (.iadd, 1)) (kk : AW G E nL (pc + 1) lv (vi (x + y) :: st) n k w rf M) : AW G E nL pc lv (vi y :: vi x :: st) n k w rf M := by
  intro H locs ls hP hS hL
  refine lv_iadd A.1 A.2.1 D ?_
  have h := kk H locs ls hP hS hL
  rw [← Int32.ofInt_add]
  exact h
theorem a_isub (A : Am G E cc nL own n0 d kc wc) {x y : Int} (D : decode cc pc = .ok (.isub, 1)) (kk : AW G E nL (pc + 1) lv (vi (x - y) :: st) n k w rf M) : AW G E nL pc lv (vi y :: vi x :: st) n k w rf M := by
  intro H locs ls hP hS hL
  refine lv_isub A.1 A.2.1 D ?_
  have h := kk H locs ls hP hS hL
  rw [← Int32.ofInt_sub]
  exact h
theorem a_imul (A : Am G E cc nL own n0 d kc wc) {x y : Int} (D : decode cc pc = .ok (.imul, 1)) (kk : AW G E nL (pc + 1) lv (vi (x * y) :: st) n k w rf M) : AW G E nL pc lv (vi y :: vi x :: st) n k w rf M := by
  intro H locs ls hP hS hL
  refine lv_imul A.1 A.2.1 D ?_
  have h := kk H locs ls hP hS hL
  rw [← Int32.ofInt_mul]
  exact h
theorem a_ladd (A : Am G E cc nL own n0 d kc wc) {x y : Int} (D : decode cc pc = .ok (.ladd, 1)) (kk : AW G E nL (pc + 1) lv (vl (x + y) :: st) n k w rf M) : AW G E nL pc lv (vl y :: vl x :: st) n k w rf M := by
  intro H locs ls hP hS hL
  refine lv_ladd A.1 A.2.1 D ?_
  have h := kk H locs ls hP hS hL
  rw [← Int64.ofInt_add]
  exact h
theorem a_lsub (A : Am G E cc nL own n0 d kc wc) {x y : Int} (D : decode cc pc = .ok (.lsub, 1)) (kk : AW G E nL (pc + 1) lv (vl (x - y) :: st) n k w rf M) : AW G E nL pc lv (vl y :: vl x :: st) n k w rf M := by
  intro H locs ls hP hS hL
  refine lv_lsub A.1 A.2.1 D ?_
  have h := kk H locs ls hP hS hL
  rw [← Int64.ofInt_sub]
  exact h
theorem a_lmul (A : Am G E cc nL own n0 d kc wc) {x y : Int} (D : decode cc pc = .ok (.lmul, 1)) (kk : AW G E nL (pc + 1) lv (vl (x * y) :: st) n k w rf M) : AW G E nL pc lv (vl y :: vl x :: st) n k w rf M := by
  intro H locs ls hP hS hL
  refine lv_lmul A.1 A.2.1 D ?_
  have h := kk H locs ls hP hS hL
  rw [← Int64.ofInt_mul]
  exact h
theorem a_ineg (A : Am G E cc nL own n0 d kc wc) {x : Int} (D : decode cc pc = .ok (.ineg, 1)) (kk : AW G E nL (pc + 1) lv (vi (-x) :: st) n k w rf M) : AW G E nL pc lv (vi x :: st) n k w rf M := by
  intro H locs ls hP hS hL
  refine lv_ineg A.1 A.2.1 D ?_
  rw [← Int32.ofInt_neg]
  exact kk H locs ls hP hS hL
theorem a_lneg (A : Am G E cc nL own n0 d kc wc) {x : Int} (D : decode cc pc = .ok (.lneg, 1)) (kk : AW G E nL (pc + 1) lv (vl (-x) :: st) n k w rf M) : AW G E nL pc lv (vl x :: st) n k w rf M := by
  intro H locs ls hP hS hL
  refine lv_lneg A.1 A.2.1 D ?_
  rw [← Int64.ofInt_neg]
  exact kk H locs ls hP hS hL
theorem a_idiv (A : Am G E cc nL own n0 d kc wc) {x y : Int} (D : decode cc pc = .ok (.idiv, 1)) (hx : I32 x) (hy : I32 y) (h0 : y ≠ 0) (kk : AW G E nL (pc + 1) lv (vi (x.tdiv y) :: st) n k w rf M) : AW G E nL pc lv (vi y :: vi x :: st) n k w rf M := by
  intro H locs ls hP hS hL
  refine lv_idiv A.1 A.2.1 D (i32_ne0 hy h0) ?_
  rw [i32_div hx hy]
  exact kk H locs ls hP hS hL
theorem a_ldiv (A : Am G E cc nL own n0 d kc wc) {x y : Int} (D : decode cc pc = .ok (.ldiv, 1)) (hx : I64 x) (hy : I64 y) (h0 : y ≠ 0) (kk : AW G E nL (pc + 1) lv (vl (x.tdiv y) :: st) n k w rf M) : AW G E nL pc lv (vl y :: vl x :: st) n k w rf M := by
  intro H locs ls hP hS hL
  refine lv_ldiv A.1 A.2.1 D (i64_ne0 hy h0) ?_
  rw [i64_div hx hy]
  exact kk H locs ls hP hS hL
theorem a_lrem (A : Am G E cc nL own n0 d kc wc) {x y : Int} (D : decode cc pc = .ok (.lrem, 1)) (hx : I64 x) (hy : I64 y) (h0 : y ≠ 0) (kk : AW G E nL (pc + 1) lv (vl (x.tmod y) :: st) n k w rf M) : AW G E nL pc lv (vl y :: vl x :: st) n k w rf M := by
  intro H locs ls hP hS hL
  refine lv_lrem A.1 A.2.1 D (i64_ne0 hy h0) ?_
  rw [i64_rem hx hy]
  exact kk H locs ls hP hS hL
theorem a_i2l (A : Am G E cc nL own n0 d kc wc) {x : Int} (D : decode cc pc = .ok (.i2l, 1)) (hx : I32 x) (kk : AW G E nL (pc + 1) lv (vl x :: st) n k w rf M) : AW G E nL pc lv (vi x :: st) n k w rf M := by
  intro H locs ls hP hS hL
  exact lv_i2l A.1 A.2.1 D (i32_i2l hx) (kk H locs ls hP hS hL)
theorem a_l2i (A : Am G E cc nL own n0 d kc wc) {x : Int} (D : decode cc pc = .ok (.l2i, 1)) (kk : AW G E nL (pc + 1) lv (vi x :: st) n k w rf M) : AW G E nL pc lv (vl x :: st) n k w rf M := by
  intro H locs ls hP hS hL
  exact lv_l2i A.1 A.2.1 D (i64_l2i x) (kk H locs ls hP hS hL)
theorem a_ishl (A : Am G E cc nL own n0 d kc wc) {x y z : Int} (D : decode cc pc = .ok (.ishl, 1)) (hz : Int32.ofInt x <<< (Int32.ofInt y &&& 31) = Int32.ofInt z) (kk : AW G E nL (pc + 1) lv (vi z :: st) n k w rf M) : AW G E nL pc lv (vi y :: vi x :: st) n k w rf M := by
  intro H locs ls hP hS hL
  refine lv_ishl A.1 A.2.1 D ?_
  rw [hz]
  exact kk H locs ls hP hS hL
theorem a_iand (A : Am G E cc nL own n0 d kc wc) {x y z : Int} (D : decode cc pc = .ok (.iand, 1)) (hz : Int32.ofInt x &&& Int32.ofInt y = Int32.ofInt z) (kk : AW G E nL (pc + 1) lv (vi z :: st) n k w rf M) : AW G E nL pc lv (vi y :: vi x :: st) n k w rf M := by
  intro H locs ls hP hS hL
  refine lv_iand A.1 A.2.1 D ?_
  rw [hz]
  exact kk H locs ls hP hS hL
theorem a_ior (A : Am G E cc nL own n0 d kc wc) {x y z : Int} (D : decode cc pc = .ok (.ior, 1)) (hz : Int32.ofInt x ||| Int32.ofInt y = Int32.ofInt z) (kk : AW G E nL (pc + 1) lv (vi z :: st) n k w rf M) : AW G E nL pc lv (vi y :: vi x :: st) n k w rf M := by
  intro H locs ls hP hS hL
  refine lv_ior A.1 A.2.1 D ?_
  rw [hz]
  exact kk H locs ls hP hS hL
theorem a_dup (A : Am G E cc nL own n0 d kc wc) {v : Value} (D : decode cc pc = .ok (.dup, 1)) (hv : v.category = 1) (kk : AW G E nL (pc + 1) lv (v :: v :: st) n k w rf M) : AW G E nL pc lv (v :: st) n k w rf M := by
  intro H locs ls hP hS hL
  exact lv_dup A.1 A.2.1 D (by rw [cv_cat]; exact hv) (kk H locs ls hP hS hL)
theorem a_dup2 (A : Am G E cc nL own n0 d kc wc) {u v : Value} (D : decode cc pc = .ok (.dup2, 1)) (hu : u.category = 1) (hv : v.category = 1) (kk : AW G E nL (pc + 1) lv (u :: v :: u :: v :: st) n k w rf M) : AW G E nL pc lv (u :: v :: st) n k w rf M := by
  intro H locs ls hP hS hL
  exact lv_dup2_11 A.1 A.2.1 D (by rw [cv_cat]; exact hu) (by rw [cv_cat]; exact hv) (kk H locs ls hP hS hL)
theorem a_goto (A : Am G E cc nL own n0 d kc wc) {off : Int} {tgt : Nat} (D : decode cc pc = .ok (.goto off, 3)) (ht : (pc : Int) + off = (tgt : Int)) (kk : AW G E nL (tgt) lv (st) n k w rf M) : AW G E nL pc lv (st) n k w rf M := by
  intro H locs ls hP hS hL
  exact lv_goto A.1 A.2.1 D ht (kk H locs ls hP hS hL)
theorem a_icmp_eq (A : Am G E cc nL own n0 d kc wc) {x y off : Int} {tgt : Nat} (D : decode cc pc = .ok (.if_icmp .eq off, 3)) (ht : (pc : Int) + off = (tgt : Int)) (hx : I32 x) (hy : I32 y) (kt : x = y → AW G E nL tgt lv st n k w rf M) (kf : ¬ x = y → AW G E nL (pc + 3) lv st n k w rf M) : AW G E nL pc lv (vi y :: vi x :: st) n k w rf M := by
  intro H locs ls hP hS hL
  exact lv_icmp_eq A.1 A.2.1 D ht (fun q => kt ((i32_eq hx hy).mp q) H locs ls hP hS hL) (fun q => kf (by have q2 := mt (i32_eq hx hy).mpr q; omega) H locs ls hP hS hL)
theorem a_if_eq (A : Am G E cc nL own n0 d kc wc) {x off : Int} {tgt : Nat} (D : decode cc pc = .ok (.ifCond .eq off, 3)) (ht : (pc : Int) + off = (tgt : Int)) (hx : I32 x) (kt : x = 0 → AW G E nL tgt lv st n k w rf M) (kf : ¬ x = 0 → AW G E nL (pc + 3) lv st n k w rf M) : AW G E nL pc lv (vi x :: st) n k w rf M := by
  intro H locs ls hP hS hL
  have hy : I32 0 := ⟨by omega, by omega⟩
  have e0 : Int32.ofInt 0 = 0 := rfl
  refine lv_if_eq A.1 A.2.1 D ht (fun q => kt ?_ H locs ls hP hS hL) (fun q => kf ?_ H locs ls hP hS hL)
  · rw [← e0] at q
    exact (i32_eq hx hy).mp q
  · rw [← e0] at q
    have q2 := mt (i32_eq hx hy).mpr q; omega
theorem a_lcmp_eq (A : Am G E cc nL own n0 d kc wc) {x y off : Int} {tgt : Nat} (D1 : decode cc pc = .ok (.lcmp, 1)) (D : decode cc (pc + 1) = .ok (.ifCond .eq off, 3)) (ht : (pc : Int) + 1 + off = (tgt : Int)) (hx : I64 x) (hy : I64 y) (kt : x = y → AW G E nL tgt lv st n k w rf M) (kf : ¬ x = y → AW G E nL (pc + 4) lv st n k w rf M) : AW G E nL pc lv (vl y :: vl x :: st) n k w rf M := by
  intro H locs ls hP hS hL
  refine W.lcmp A.1 A.2.1 D1 ?_
  have h1 := i64_lt hx hy
  have h2 := i64_lt hy hx
  have h3 := i64_eq hx hy
  refine lv_if_eq A.1 A.2.1 D (by omega) (fun q => kt ?_ H locs ls hP hS hL) (fun q => kf ?_ H locs ls hP hS hL)
  all_goals
    simp only [lg_cmp, gt_iff_lt, h1, h2, h3] at q
    rcases Int.lt_trichotomy x y with c | c | c
    · first | omega | (exfalso; rw [if_neg (by omega), if_neg (by omega)] at q; revert q; decide)
    · first | omega | (exfalso; rw [if_neg (by omega), if_pos c] at q; revert q; decide)
    · first | omega | (exfalso; rw [if_pos c] at q; revert q; decide)
theorem a_icmp_ne (A : Am G E cc nL own n0 d kc wc) {x y off : Int} {tgt : Nat} (D : decode cc pc = .ok (.if_icmp .ne off, 3)) (ht : (pc : Int) + off = (tgt : Int)) (hx : I32 x) (hy : I32 y) (kt : ¬ x = y → AW G E nL tgt lv st n k w rf M) (kf : x = y → AW G E nL (pc + 3) lv st n k w rf M) : AW G E nL pc lv (vi y :: vi x :: st) n k w rf M := by
  intro H locs ls hP hS hL
  exact lv_icmp_ne A.1 A.2.1 D ht (fun q => kt ((not_congr (i32_eq hx hy)).mp q) H locs ls hP hS hL) (fun q => kf ((i32_eq hx hy).mp q) H locs ls hP hS hL)
theorem a_if_ne (A : Am G E cc nL own n0 d kc wc) {x off : Int} {tgt : Nat} (D : decode cc pc = .ok (.ifCond .ne off, 3)) (ht : (pc : Int) + off = (tgt : Int)) (hx : I32 x) (kt : ¬ x = 0 → AW G E nL tgt lv st n k w rf M) (kf : x = 0 → AW G E nL (pc + 3) lv st n k w rf M) : AW G E nL pc lv (vi x :: st) n k w rf M := by
  intro H locs ls hP hS hL
  have hy : I32 0 := ⟨by omega, by omega⟩
  have e0 : Int32.ofInt 0 = 0 := rfl
  refine lv_if_ne A.1 A.2.1 D ht (fun q => kt ?_ H locs ls hP hS hL) (fun q => kf ?_ H locs ls hP hS hL)
  · rw [← e0] at q
    exact (not_congr (i32_eq hx hy)).mp q
  · rw [← e0] at q
    exact (i32_eq hx hy).mp q
theorem a_lcmp_ne (A : Am G E cc nL own n0 d kc wc) {x y off : Int} {tgt : Nat} (D1 : decode cc pc = .ok (.lcmp, 1)) (D : decode cc (pc + 1) = .ok (.ifCond .ne off, 3)) (ht : (pc : Int) + 1 + off = (tgt : Int)) (hx : I64 x) (hy : I64 y) (kt : ¬ x = y → AW G E nL tgt lv st n k w rf M) (kf : x = y → AW G E nL (pc + 4) lv st n k w rf M) : AW G E nL pc lv (vl y :: vl x :: st) n k w rf M := by
  intro H locs ls hP hS hL
  refine W.lcmp A.1 A.2.1 D1 ?_
  have h1 := i64_lt hx hy
  have h2 := i64_lt hy hx
  have h3 := i64_eq hx hy
  refine lv_if_ne A.1 A.2.1 D (by omega) (fun q => kt ?_ H locs ls hP hS hL) (fun q => kf ?_ H locs ls hP hS hL)
  all_goals
    simp only [lg_cmp, gt_iff_lt, h1, h2, h3] at q
    rcases Int.lt_trichotomy x y with c | c | c
    · first | omega | (exfalso; rw [if_neg (by omega), if_neg (by omega)] at q; revert q; decide)
    · first | omega | (exfalso; rw [if_neg (by omega), if_pos c] at q; revert q; decide)
    · first | omega | (exfalso; rw [if_pos c] at q; revert q; decide)
theorem a_icmp_lt (A : Am G E cc nL own n0 d kc wc) {x y off : Int} {tgt : Nat} (D : decode cc pc = .ok (.if_icmp .lt off, 3)) (ht : (pc : Int) + off = (tgt : Int)) (hx : I32 x) (hy : I32 y) (kt : x < y → AW G E nL tgt lv st n k w rf M) (kf : y ≤ x → AW G E nL (pc + 3) lv st n k w rf M) : AW G E nL pc lv (vi y :: vi x :: st) n k w rf M := by
  intro H locs ls hP hS hL
  exact lv_icmp_lt A.1 A.2.1 D ht (fun q => kt ((i32_lt hx hy).mp q) H locs ls hP hS hL) (fun q => kf (by have q2 := mt (i32_lt hx hy).mpr q; omega) H locs ls hP hS hL)
theorem a_if_lt (A : Am G E cc nL own n0 d kc wc) {x off : Int} {tgt : Nat} (D : decode cc pc = .ok (.ifCond .lt off, 3)) (ht : (pc : Int) + off = (tgt : Int)) (hx : I32 x) (kt : x < 0 → AW G E nL tgt lv st n k w rf M) (kf : 0 ≤ x → AW G E nL (pc + 3) lv st n k w rf M) : AW G E nL pc lv (vi x :: st) n k w rf M := by
  intro H locs ls hP hS hL
  have hy : I32 0 := ⟨by omega, by omega⟩
  have e0 : Int32.ofInt 0 = 0 := rfl
  refine lv_if_lt A.1 A.2.1 D ht (fun q => kt ?_ H locs ls hP hS hL) (fun q => kf ?_ H locs ls hP hS hL)
  · rw [← e0] at q
    exact (i32_lt hx hy).mp q
  · rw [← e0] at q
    have q2 := mt (i32_lt hx hy).mpr q; omega
theorem a_lcmp_lt (A : Am G E cc nL own n0 d kc wc) {x y off : Int} {tgt : Nat} (D1 : decode cc pc = .ok (.lcmp, 1)) (D : decode cc (pc + 1) = .ok (.ifCond .lt off, 3)) (ht : (pc : Int) + 1 + off = (tgt : Int)) (hx : I64 x) (hy : I64 y) (kt : x < y → AW G E nL tgt lv st n k w rf M) (kf : y ≤ x → AW G E nL (pc + 4) lv st n k w rf M) : AW G E nL pc lv (vl y :: vl x :: st) n k w rf M := by
  intro H locs ls hP hS hL
  refine W.lcmp A.1 A.2.1 D1 ?_
  have h1 := i64_lt hx hy
  have h2 := i64_lt hy hx
  have h3 := i64_eq hx hy
  refine lv_if_lt A.1 A.2.1 D (by omega) (fun q => kt ?_ H locs ls hP hS hL) (fun q => kf ?_ H locs ls hP hS hL)
  all_goals
    simp only [lg_cmp, gt_iff_lt, h1, h2, h3] at q
    rcases Int.lt_trichotomy x y with c | c | c
    · first | omega | (exfalso; rw [if_neg (by omega), if_neg (by omega)] at q; revert q; decide)
    · first | omega | (exfalso; rw [if_neg (by omega), if_pos c] at q; revert q; decide)
    · first | omega | (exfalso; rw [if_pos c] at q; revert q; decide)
theorem a_icmp_ge (A : Am G E cc nL own n0 d kc wc) {x y off : Int} {tgt : Nat} (D : decode cc pc = .ok (.if_icmp .ge off, 3)) (ht : (pc : Int) + off = (tgt : Int)) (hx : I32 x) (hy : I32 y) (kt : y ≤ x → AW G E nL tgt lv st n k w rf M) (kf : x < y → AW G E nL (pc + 3) lv st n k w rf M) : AW G E nL pc lv (vi y :: vi x :: st) n k w rf M := by
  intro H locs ls hP hS hL
  exact lv_icmp_ge A.1 A.2.1 D ht (fun q => kt ((i32_le hy hx).mp q) H locs ls hP hS hL) (fun q => kf (by have q2 := mt (i32_le hy hx).mpr q; omega) H locs ls hP hS hL)
theorem a_if_ge (A : Am G E cc nL own n0 d kc wc) {x off : Int} {tgt : Nat} (D : decode cc pc = .ok (.ifCond .ge off, 3)) (ht : (pc : Int) + off = (tgt : Int)) (hx : I32 x) (kt : 0 ≤ x → AW G E nL tgt lv st n k w rf M) (kf : x < 0 → AW G E nL (pc + 3) lv st n k w rf M) : AW G E nL pc lv (vi x :: st) n k w rf M := by
  intro H locs ls hP hS hL
  have hy : I32 0 := ⟨by omega, by omega⟩
  have e0 : Int32.ofInt 0 = 0 := rfl
  refine lv_if_ge A.1 A.2.1 D ht (fun q => kt ?_ H locs ls hP hS hL) (fun q => kf ?_ H locs ls hP hS hL)
  · rw [← e0] at q
    exact (i32_le hy hx).mp q
  · rw [← e0] at q
    have q2 := mt (i32_le hy hx).mpr q; omega
theorem a_lcmp_ge (A : Am G E cc nL own n0 d kc wc) {x y off : Int} {tgt : Nat} (D1 : decode cc pc = .ok (.lcmp, 1)) (D : decode cc (pc + 1) = .ok (.ifCond .ge off, 3)) (ht : (pc : Int) + 1 + off = (tgt : Int)) (hx : I64 x) (hy : I64 y) (kt : y ≤ x → AW G E nL tgt lv st n k w rf M) (kf : x < y → AW G E nL (pc + 4) lv st n k w rf M) : AW G E nL pc lv (vl y :: vl x :: st) n k w rf M := by
  intro H locs ls hP hS hL
  refine W.lcmp A.1 A.2.1 D1 ?_
  have h1 := i64_lt hx hy
  have h2 := i64_lt hy hx
  have h3 := i64_eq hx hy
  refine lv_if_ge A.1 A.2.1 D (by omega) (fun q => kt ?_ H locs ls hP hS hL) (fun q => kf ?_ H locs ls hP hS hL)
  all_goals
    simp only [lg_cmp, gt_iff_lt, h1, h2, h3] at q
    rcases Int.lt_trichotomy x y with c | c | c
    · first | omega | (exfalso; rw [if_neg (by omega), if_neg (by omega)] at q; revert q; decide)
    · first | omega | (exfalso; rw [if_neg (by omega), if_pos c] at q; revert q; decide)
    · first | omega | (exfalso; rw [if_pos c] at q; revert q; decide)
theorem a_icmp_gt (A : Am G E cc nL own n0 d kc wc) {x y off : Int} {tgt : Nat} (D : decode cc pc = .ok (.if_icmp .gt off, 3)) (ht : (pc : Int) + off = (tgt : Int)) (hx : I32 x) (hy : I32 y) (kt : y < x → AW G E nL tgt lv st n k w rf M) (kf : x ≤ y → AW G E nL (pc + 3) lv st n k w rf M) : AW G E nL pc lv (vi y :: vi x :: st) n k w rf M := by
  intro H locs ls hP hS hL
  exact lv_icmp_gt A.1 A.2.1 D ht (fun q => kt ((i32_lt hy hx).mp q) H locs ls hP hS hL) (fun q => kf (by have q2 := mt (i32_lt hy hx).mpr q; omega) H locs ls hP hS hL)
theorem a_if_gt (A : Am G E cc nL own n0 d kc wc) {x off : Int} {tgt : Nat} (D : decode cc pc = .ok (.ifCond .gt off, 3)) (ht : (pc : Int) + off = (tgt : Int)) (hx : I32 x) (kt : 0 < x → AW G E nL tgt lv st n k w rf M) (kf : x ≤ 0 → AW G E nL (pc + 3) lv st n k w rf M) : AW G E nL pc lv (vi x :: st) n k w rf M := by
  intro H locs ls hP hS hL
  have hy : I32 0 := ⟨by omega, by omega⟩
  have e0 : Int32.ofInt 0 = 0 := rfl
  refine lv_if_gt A.1 A.2.1 D ht (fun q => kt ?_ H locs ls hP hS hL) (fun q => kf ?_ H locs ls hP hS hL)
  · rw [← e0] at q
    exact (i32_lt hy hx).mp q
  · rw [← e0] at q
    have q2 := mt (i32_lt hy hx).mpr q; omega
theorem a_lcmp_gt (A : Am G E cc nL own n0 d kc wc) {x y off : Int} {tgt : Nat} (D1 : decode cc pc = .ok (.lcmp, 1)) (D : decode cc (pc + 1) = .ok (.ifCond .gt off, 3)) (ht : (pc : Int) + 1 + off = (tgt : Int)) (hx : I64 x) (hy : I64 y) (kt : y < x → AW G E nL tgt lv st n k w rf M) (kf : x ≤ y → AW G E nL (pc + 4) lv st n k w rf M) : AW G E nL pc lv (vl y :: vl x :: st) n k w rf M := by
  intro H locs ls hP hS hL
  refine W.lcmp A.1 A.2.1 D1 ?_
  have h1 := i64_lt hx hy
  have h2 := i64_lt hy hx
  have h3 := i64_eq hx hy
  refine lv_if_gt A.1 A.2.1 D (by omega) (fun q => kt ?_ H locs ls hP hS hL) (fun q => kf ?_ H locs ls hP hS hL)
  all_goals
    simp only [lg_cmp, gt_iff_lt, h1, h2, h3] at q
    rcases Int.lt_trichotomy x y with c | c | c
    · first | omega | (exfalso; rw [if_neg (by omega), if_neg (by omega)] at q; revert q; decide)
    · first | omega | (exfalso; rw [if_neg (by omega), if_pos c] at q; revert q; decide)
    · first | omega | (exfalso; rw [if_pos c] at q; revert q; decide)
theorem a_icmp_le (A : Am G E cc nL own n0 d kc wc) {x y off : Int} {tgt : Nat} (D : decode cc pc = .ok (.if_icmp .le off, 3)) (ht : (pc : Int) + off = (tgt : Int)) (hx : I32 x) (hy : I32 y) (kt : x ≤ y → AW G E nL tgt lv st n k w rf M) (kf : y < x → AW G E nL (pc + 3) lv st n k w rf M) : AW G E nL pc lv (vi y :: vi x :: st) n k w rf M := by
  intro H locs ls hP hS hL
  exact lv_icmp_le A.1 A.2.1 D ht (fun q => kt ((i32_le hx hy).mp q) H locs ls hP hS hL) (fun q => kf (by have q2 := mt (i32_le hx hy).mpr q; omega) H locs ls hP hS hL)
theorem a_if_le (A : Am G E cc nL own n0 d kc wc) {x off : Int} {tgt : Nat} (D : decode cc pc = .ok (.ifCond .le off, 3)) (ht : (pc : Int) + off = (tgt : Int)) (hx : I32 x) (kt : x ≤ 0 → AW G E nL tgt lv st n k w rf M) (kf : 0 < x → AW G E nL (pc + 3) lv st n k w rf M) : AW G E nL pc lv (vi x :: st) n k w rf M := by
  intro H locs ls hP hS hL
  have hy : I32 0 := ⟨by omega, by omega⟩
  have e0 : Int32.ofInt 0 = 0 := rfl
  refine lv_if_le A.1 A.2.1 D ht (fun q => kt ?_ H locs ls hP hS hL) (fun q => kf ?_ H locs ls hP hS hL)
  · rw [← e0] at q
    exact (i32_le hx hy).mp q
  · rw [← e0] at q
    have q2 := mt (i32_le hx hy).mpr q; omega
theorem a_lcmp_le (A : Am G E cc nL own n0 d kc wc) {x y off : Int} {tgt : Nat} (D1 : decode cc pc = .ok (.lcmp, 1)) (D : decode cc (pc + 1) = .ok (.ifCond .le off, 3)) (ht : (pc : Int) + 1 + off = (tgt : Int)) (hx : I64 x) (hy : I64 y) (kt : x ≤ y → AW G E nL tgt lv st n k w rf M) (kf : y < x → AW G E nL (pc + 4) lv st n k w rf M) : AW G E nL pc lv (vl y :: vl x :: st) n k w rf M := by
  intro H locs ls hP hS hL
  refine W.lcmp A.1 A.2.1 D1 ?_
  have h1 := i64_lt hx hy
  have h2 := i64_lt hy hx
  have h3 := i64_eq hx hy
  refine lv_if_le A.1 A.2.1 D (by omega) (fun q => kt ?_ H locs ls hP hS hL) (fun q => kf ?_ H locs ls hP hS hL)
  all_goals
    simp only [lg_cmp, gt_iff_lt, h1, h2, h3] at q
    rcases Int.lt_trichotomy x y with c | c | c
    · first | omega | (exfalso; rw [if_neg (by omega), if_neg (by omega)] at q; revert q; decide)
    · first | omega | (exfalso; rw [if_neg (by omega), if_pos c] at q; revert q; decide)
    · first | omega | (exfalso; rw [if_pos c] at q; revert q; decide)
end AWR
