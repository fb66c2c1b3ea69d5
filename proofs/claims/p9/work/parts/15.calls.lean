/-! contracts, calls, returns -/
def rmA (d kc wc : Nat) : Room := { frames := d, cells := kc, slots := wc, locals := 60 * d }
def PcA (G : GG) (av : List Value) (n : Nat) (rf : RF) (M : MM) : Array Value → State → Prop := va_Pc (av.map (cv G)) (fun U => U.heap.size = gz G + n ∧ va_P G.1 vwCl (wl G n rf M) U.heap ∧ KK G U)
def QcA (G : GG) (n : Nat) (Post : Option Value → RF → MM → Prop) : Array Value → State → Outcome → State → Prop := fun _ st oc t => (∃ (r : Option Value) (rf' : RF) (M' : MM), oc = .returned (r.map (cv G)) ∧ Post r rf' M' ∧ va_P G.1 vwCl (wl G n rf' M') t.heap) ∧ va_F (fun q => gz G ≤ q) st t
/-- a method's contract: from n cells with rf and M, called with av, at most d frames deep, it makes kc cells of wc slots and ends with Post -/
def CT (G : GG) (l : Launch) (y : MethodName) (cc : ByteArray) (mL : Nat) (ret : Option FieldType) (d kc wc : Nat) (av : List Value) (n : Nat) (rf : RF) (M : MM) (Post : Option Value → RF → MM → Prop) : Prop :=
  Met l y [Cond.code y cc mL ret] (rmA d kc wc) (PcA G av n rf M) (QcA G (n + kc) Post) kc wc (fun q => gz G ≤ q)
def RT (E : EE) (G : GG) (y : MethodName) (n kc wc : Nat) (ret : Option FieldType) (Post : Option Value → RF → MM → Prop) : Prop := eQ E = MQ (eB E) (QcA G n Post) (eA E) (eS E) kc wc (fun q => gz G ≤ q) ∧ (eT E).sig.returnType = ret ∧ (eT E).locks = false ∧ (eT E).name = y.name
theorem KK.moved {G : GG} {s U : State} (hW : s.WarmedH U.vm) (h : KK G s) : KK G U := ⟨va_K.moved hW.alike h.1, h.2.warm hW⟩
theorem CT.intro {G : GG} {l : Launch} {y : MethodName} {cc : ByteArray} {mL : Nat} {ret : Option FieldType} {d kc wc : Nat} {av : List Value} {n : Nat} {rf : RF} {M : MM} {Post : Option Value → RF → MM → Prop} (hy : plainName y.cls = true) (hlen : (lvx av).length ≤ mL)
    (body : ∀ E : EE, eL E = l → Am G E cc mL y.cls n d kc wc → RT E G y (n + kc) kc wc ret Post → AW G E mL 0 (lv0 mL av) [] n 0 0 rf M) : CT G l y cc mL ret d kc wc av n rf M Post := by
  refine Met.ofW (cc := cc) (maxL := mL) (ret := ret) hy rfl ?_
  intro p e s m args below meth c s₁ B hml hv
  obtain ⟨rfl, hsz, hP, hK⟩ := hv
  have hown : s.vm.findClass y.cls = some m.cls := findClass_of_methodNamed B.named
  rw [lg_entry_eq]
  exact body (p, l, e, rmA d kc wc, s, m, _, below, meth, c, _) rfl ⟨B.exec, B.bytes, hml, hown, hK, hsz, Nat.le_refl _, Nat.le_refl _, Nat.le_refl _, Nat.le_refl _⟩ ⟨rfl, B.returns, B.notSynchronized, (name_of_methodNamed B.named B.method).1⟩ s.heap [] _ hP va_S.rf (LH.entry G av mL hlen)
def MI (y : MethodName) (cy : ByteArray) (mL : Nat) (ret : Option FieldType) (na : Nat) : Prop := Cond.code y cy mL ret ∈ lw_tbl ∧ Cond.initialized y.cls ∈ lw_tbl ∧ y.cls ≠ "java/lang/invoke/MethodHandle" ∧ y.cls ≠ "java/lang/invoke/VarHandle" ∧ (parseMethodDescriptor y.desc).map (fun d => d.parameters.length) = some na ∧ mL ≤ 41
def MV (y : MethodName) : Prop := Cond.instanceMethod y ∈ lw_tbl ∧ Cond.selects y.cls y y ∈ lw_tbl
def CS (own : String) (ix : Nat) (y : MethodName) : Prop := Cond.methodLink own ix y ∈ lw_tbl ∨ Cond.methodLinkNest own ix y RX4 ∈ lw_tbl
section ACR
variable {G : GG} {E : EE} {cc : ByteArray} {nL : Nat} {own : String} {n0 d kc wc pc : Nat} {lv st : List Value} {n k w : Nat} {rf : RF} {M : MM}
theorem a_size (A : Am G E cc nL own n0 d kc wc) (hn : n = n0 + k) (kk : ∀ (H : Heap) (locs : List Loc) (ls : Array Slot), va_P G.1 vwCl (wl G n rf M) H → va_S (fun q => gz G ≤ q) (eS E).heap H locs → LH G ls nL lv → H.size = gz G + n → WW E H locs k w (F0 (eM E) pc ls (st.map (cv G)))) : AW G E nL pc lv st n k w rf M := by
  intro H locs ls hP hS hL T hT X
  have h1 : H.size ≤ (eS E).heap.size + k := by rw [← hT]; exact X.heapSize
  have h2 : gz G + n ≤ H.size := by
    rcases Nat.eq_zero_or_pos n with h0 | h0
    · have := hS.1
      rw [A.2.2.2.2.2.1] at this
      omega
    · have := (hP (n - 1) _ (wl_get (by omega))).lt
      dsimp only at this
      omega
  rw [A.2.2.2.2.2.1] at h1
  exact kk H locs ls hP hS hL (by omega) T hT X
theorem PcA.blind (av : List Value) : FrameBlind (PcA G av n rf M) := by
  intro a U g mk q
  obtain ⟨q0, q1, q2, q3, q4⟩ := q
  exact ⟨q0, q1, q2, va_K.moved (u := U) (U := U.calling g mk a) (Vm.Alike.refl U.vm) q3, TB.same (u := U) (U := U.calling g mk a) (show U.vm = (U.calling g mk a).vm from rfl) q4⟩
theorem PcA.at (A : Am G E cc nL own n0 d kc wc) {av : List Value} {H : Heap} (hP : va_P G.1 vwCl (wl G n rf M) H) (hz : H.size = gz G + n) : ∀ U : State, U.heap = H → (eS E).WarmedH U.vm → PcA G av n rf M (av.map (cv G)).toArray U := by
  intro U hU hW
  exact ⟨rfl, by rw [hU]; exact hz, by rw [hU]; exact hP, KK.moved hW A.2.2.2.2.1⟩
theorem a_run (A : Am G E cc nL own n0 d kc wc) (hn : n = n0 + k) {kc' wc' : Nat} {rest : List Value} {Post : Option Value → RF → MM → Prop} {a : Array Value}
    (hr : ∀ (H : Heap) (locs : List Loc) (ls : Array Slot), va_P G.1 vwCl (wl G n rf M) H → LH G ls nL lv → H.size = gz G + n → va_Run (eP E) (eL E) (eE E) (eR E) (eS E) (eM E) (eA E) (eB E) (eT E) (eC E) H locs k w kc' wc' (F0 (eM E) pc ls (st.map (cv G))) (rest.map (cv G)) (QcA G (n + kc') Post a) (fun q => gz G ≤ q))
    (kk : ∀ (r : Option Value) (rf' : RF) (M' : MM), Post r rf' M' → AW G E nL (pc + 3) lv (r.toList ++ rest) (n + kc') (k + kc') (w + wc') rf' M') : AW G E nL pc lv st n k w rf M := by
  refine a_size A hn (fun H locs ls hP hS hL hz T hT X => ?_)
  obtain ⟨v, st₀, t, T', L, h0, X', hL2, e1, e2, ⟨⟨r, rf', M', hv, hp, hb⟩, hz2, hk2⟩, go⟩ := hr H locs ls hP hL hz T hT X
  cases hv
  rw [h0] at hz2 hk2
  have hS' : va_S (fun q => gz G ≤ q) (eS E).heap T'.heap (locs ++ L) := ⟨Nat.le_trans hS.1 (by rw [e1]; exact hz2), fun q h1 h2 => by rw [e1, hk2 q (Nat.lt_of_lt_of_le h1 hS.1) h2]; exact hS.2.1 q h1 h2, fun q hq => by
    rcases List.mem_append.mp hq with h | h
    · exact hS.2.2 q h
    · exact hL2 q h⟩
  obtain ⟨t2, a1, b1⟩ := kk r rf' M' hp T'.heap (locs ++ L) ls (by rw [e1]; exact hb) hS' hL T' rfl X'
  refine ⟨t2, go t2 ?_, b1⟩
  have e3 : (r.map (cv G)).toList ++ rest.map (cv G) = (r.toList ++ rest).map (cv G) := by
    cases r <;> simp
  show Steps _ _ _ (T'.setTop { F0 (eM E) pc ls (st.map (cv G)) with pc := pc + 3, stack := (r.map (cv G)).toList ++ rest.map (cv G) }) t2
  rw [e3]
  exact a1
theorem code_ok (y : MethodName) (cy : ByteArray) (mL : Nat) (ret : Option FieldType) : okW (Cond.code y cy mL ret) = true := rfl
theorem a_cb (A : Am G E cc nL own n0 d kc wc) {y : MethodName} {cy : ByteArray} {mL : Nat} {ret : Option FieldType} {na d' kc' wc' : Nat} (I : MI y cy mL ret na) (hd : d' + 1 ≤ d) :
    ((rmA d' kc' wc').cells = kc' ∧ (rmA d' kc' wc').slots = wc' ∧ (rmA d' kc' wc').frames + 1 ≤ (eR E).frames ∧ 8 + (mL + 11) + (rmA d' kc' wc').locals ≤ (eR E).locals ∧ (∀ w ∈ [Cond.code y cy mL ret], ∀ (a' : Array Value) (U : State), (eS E).WarmedH U.vm → w.before a' U = true) ∧ Cond.code y cy mL ret ∈ [Cond.code y cy mL ret]) ∧
    (Cond.code y cy mL ret).before (eA E) (eS E) = true ∧ (Cond.initialized y.cls).before (eA E) (eS E) = true ∧ (y.cls ≠ "java/lang/invoke/MethodHandle" ∧ y.cls ≠ "java/lang/invoke/VarHandle") ∧ (∀ sig, parseMethodDescriptor y.desc = some sig → na = sig.parameters.length) := by
  obtain ⟨h1, h2, h3, h4, h5, h6⟩ := I
  have hT := A.2.2.2.2.1.2
  have hf := A.2.2.2.2.2.2.1
  have hl := A.2.2.2.2.2.2.2.1
  refine ⟨⟨rfl, rfl, by show d' + 1 ≤ _; omega, by show 8 + (mL + 11) + 60 * d' ≤ _; omega, fun w hw a' U hW => ?_, List.mem_singleton.mpr rfl⟩, hT.use h1 rfl, hT.use h2 rfl, ⟨h3, h4⟩, fun sig h => ?_⟩
  · rw [List.mem_singleton.mp hw]
    exact (hT.warm hW).use h1 rfl
  · rw [h] at h5
    exact (Option.some.inj h5).symm
theorem a_invV (A : Am G E cc nL own n0 d kc wc) (hn : n = n0 + k) {y : MethodName} {cy : ByteArray} {mL : Nat} {ret : Option FieldType} {na d' kc' wc' a ci N len ix : Nat} {T : u_T} {ty : Nat → FieldType} {As rest : List Value} {Post : Option Value → RF → MM → Prop}
    (hM : CT G (eL E) y cy mL ret d' kc' wc' (.ref a :: As) n rf M Post) (hd : d' + 1 ≤ d) (I : MI y cy mL ret na) (V : MV y) (hs : CS own ix y) (C0 : CF ci y.cls T N ty) (hl : ly a = (ci, len)) (ha : a < n) (hlen : As.length = na) (D : decode cc pc = .ok (.invokevirtual ix, 3)) (hst : st = As.reverse ++ .ref a :: rest) (hrest : (rest.map fun v => v.category).sum ≤ 8) (hk : k + kc' ≤ kc ∧ w + wc' ≤ wc)
    (kk : ∀ (r : Option Value) (rf' : RF) (M' : MM), Post r rf' M' → AW G E nL (pc + 3) lv (r.toList ++ rest) (n + kc') (k + kc') (w + wc') rf' M') : AW G E nL pc lv st n k w rf M := by
  refine a_run A hn (a := ((Value.ref a :: As).map (cv G)).toArray) (rest := rest) (fun H locs ls hP hL hz => ?_) kk
  obtain ⟨c1, c2, c3, c4, -, -, -⟩ := C0
  have he : (wl G n rf M)[a]? = some (gz G + a, .inr (ci, (List.range N).map (fun j => fv (ty j) (M a j) (rf a j) (gz G)))) := by
    rw [wl_get ha, ce_obj hl c4, c2, c3]
  have hrecv := va_recv A.2.2.2.2.1.1 hP c1 he
  obtain ⟨b1, b2, b3, b4, b5⟩ := a_cb (kc' := kc') (wc' := wc') A I hd
  have hT := A.2.2.2.2.1.2
  have hi : (Cond.instanceMethod y).before (eA E) (eS E) = true := hT.use V.1 rfl
  have hsel : (Cond.selects y.cls y y).before (eA E) (eS E) = true := hT.use V.2 rfl
  have hcells : k + kc' ≤ (eR E).cells ∧ w + wc' ≤ (eR E).slots := ⟨Nat.le_trans hk.1 A.2.2.2.2.2.2.2.2.1, Nat.le_trans hk.2 A.2.2.2.2.2.2.2.2.2⟩
  have hstack : (F0 (eM E) pc ls (st.map (cv G))).stack = (As.map (cv G)).reverse ++ .ref (gz G + a) :: rest.map (cv G) := by
    subst hst
    show (As.reverse ++ .ref a :: rest).map (cv G) = _
    rw [List.map_append, List.map_reverse]
    rfl
  have hroom : 2 * (F0 (eM E) pc ls (st.map (cv G))).monitorRoom + ((rest.map (cv G)).map fun v => v.category).sum ≤ 8 := by
    rw [cv_sum]
    show 2 * 0 + _ ≤ 8
    omega
  rcases hs with hs | hs
  · exact va_runV (Ts := []) (As := As.map (cv G)) ⟨A.1, A.2.1, A.2.2.1, A.2.2.2.1, fun _ h => by cases h⟩ hM ⟨⟨b1.1, b1.2.1, b1.2.2.1, b1.2.2.2.1, b1.2.2.2.2.1, b1.2.2.2.2.2, b2, b3, b4, b5, hT.use hs rfl⟩, hi, hsel⟩ ⟨PcA.blind _, hrecv, PcA.at A hP hz⟩ rfl (by simp [hlen]) hL.1 hstack hroom D hcells
  · exact va_runVN (Ts := []) (As := As.map (cv G)) ⟨A.1, A.2.1, A.2.2.1, A.2.2.2.1, fun _ h => by cases h⟩ hM ⟨⟨b1, b2, b3, b4, b5, hT.use hs rfl⟩, hi, hsel⟩ ⟨PcA.blind _, hrecv, PcA.at A hP hz⟩ rfl (by simp [hlen]) hL.1 hstack hroom D hcells
theorem a_invS (A : Am G E cc nL own n0 d kc wc) (hn : n = n0 + k) {y : MethodName} {cy : ByteArray} {mL : Nat} {ret : Option FieldType} {na d' kc' wc' ix : Nat} {As rest : List Value} {Post : Option Value → RF → MM → Prop}
    (hM : CT G (eL E) y cy mL ret d' kc' wc' As n rf M Post) (hd : d' + 1 ≤ d) (I : MI y cy mL ret na) (V : Cond.static y ∈ lw_tbl) (hs : CS own ix y) (hlen : As.length = na) (D : decode cc pc = .ok (.invokestatic ix, 3)) (hst : st = As.reverse ++ rest) (hrest : (rest.map fun v => v.category).sum ≤ 8) (hk : k + kc' ≤ kc ∧ w + wc' ≤ wc)
    (kk : ∀ (r : Option Value) (rf' : RF) (M' : MM), Post r rf' M' → AW G E nL (pc + 3) lv (r.toList ++ rest) (n + kc') (k + kc') (w + wc') rf' M') : AW G E nL pc lv st n k w rf M := by
  refine a_run A hn (a := (As.map (cv G)).toArray) (rest := rest) (fun H locs ls hP hL hz => ?_) kk
  obtain ⟨b1, b2, b3, b4, b5⟩ := a_cb (kc' := kc') (wc' := wc') A I hd
  have hT := A.2.2.2.2.1.2
  have hi : (Cond.static y).before (eA E) (eS E) = true := hT.use V rfl
  have hcells : k + kc' ≤ (eR E).cells ∧ w + wc' ≤ (eR E).slots := ⟨Nat.le_trans hk.1 A.2.2.2.2.2.2.2.2.1, Nat.le_trans hk.2 A.2.2.2.2.2.2.2.2.2⟩
  have hstack : (F0 (eM E) pc ls (st.map (cv G))).stack = (As.map (cv G)).reverse ++ rest.map (cv G) := by
    subst hst
    show (As.reverse ++ rest).map (cv G) = _
    rw [List.map_append, List.map_reverse]
  have hroom : 2 * (F0 (eM E) pc ls (st.map (cv G))).monitorRoom + ((rest.map (cv G)).map fun v => v.category).sum ≤ 8 := by
    rw [cv_sum]
    show 2 * 0 + _ ≤ 8
    omega
  rcases hs with hs | hs
  · exact va_runS (Ts := []) (As := As.map (cv G)) ⟨A.1, A.2.1, A.2.2.1, A.2.2.2.1, fun _ h => by cases h⟩ hM ⟨⟨b1.1, b1.2.1, b1.2.2.1, b1.2.2.2.1, b1.2.2.2.2.1, b1.2.2.2.2.2, b2, b3, b4, b5, hT.use hs rfl⟩, hi⟩ ⟨PcA.blind _, PcA.at A hP hz⟩ rfl (by simp [hlen]) hL.1 hstack hroom D hcells
  · exact va_runSN (Ts := []) (As := As.map (cv G)) ⟨A.1, A.2.1, A.2.2.1, A.2.2.2.1, fun _ h => by cases h⟩ hM ⟨⟨b1, b2, b3, b4, b5, hT.use hs rfl⟩, hi, trivial⟩ ⟨PcA.blind _, PcA.at A hP hz⟩ rfl (by simp [hlen]) hL.1 hstack hroom D hcells
theorem a_invI (A : Am G E cc nL own n0 d kc wc) (hn : n = n0 + k) {y : MethodName} {cy : ByteArray} {mL : Nat} {na d' kc' wc' a ix : Nat} {As rest : List Value} {Post : Option Value → RF → MM → Prop}
    (hM : CT G (eL E) y cy mL none d' kc' wc' (.ref a :: As) n rf M Post) (hd : d' + 1 ≤ d) (I : MI y cy mL none na) (V : Cond.instanceMethod y ∈ lw_tbl) (hy : y.name = "<init>") (hs : CS own ix y) (hlen : As.length = na) (D : decode cc pc = .ok (.invokespecial ix, 3)) (hst : st = As.reverse ++ .ref a :: rest) (hrest : (rest.map fun v => v.category).sum ≤ 8) (hk : k + kc' ≤ kc ∧ w + wc' ≤ wc)
    (kk : ∀ (r : Option Value) (rf' : RF) (M' : MM), Post r rf' M' → AW G E nL (pc + 3) lv (r.toList ++ rest) (n + kc') (k + kc') (w + wc') rf' M') : AW G E nL pc lv st n k w rf M := by
  refine a_run A hn (a := ((Value.ref a :: As).map (cv G)).toArray) (rest := rest) (fun H locs ls hP hL hz => ?_) kk
  obtain ⟨b1, b2, b3, b4, b5⟩ := a_cb (kc' := kc') (wc' := wc') A I hd
  have hT := A.2.2.2.2.1.2
  have hi : (Cond.instanceMethod y).before (eA E) (eS E) = true := hT.use V rfl
  have hcells : k + kc' ≤ (eR E).cells ∧ w + wc' ≤ (eR E).slots := ⟨Nat.le_trans hk.1 A.2.2.2.2.2.2.2.2.1, Nat.le_trans hk.2 A.2.2.2.2.2.2.2.2.2⟩
  have hstack : (F0 (eM E) pc ls (st.map (cv G))).stack = (As.map (cv G)).reverse ++ .ref (gz G + a) :: rest.map (cv G) := by
    subst hst
    show (As.reverse ++ .ref a :: rest).map (cv G) = _
    rw [List.map_append, List.map_reverse]
    rfl
  have hroom : 2 * (F0 (eM E) pc ls (st.map (cv G))).monitorRoom + ((rest.map (cv G)).map fun v => v.category).sum ≤ 8 := by
    rw [cv_sum]
    show 2 * 0 + _ ≤ 8
    omega
  rcases hs with hs | hs
  · exact va_runI (Ts := []) (As := As.map (cv G)) ⟨A.1, A.2.1, A.2.2.1, A.2.2.2.1, fun _ h => by cases h⟩ hM ⟨⟨b1.1, b1.2.1, b1.2.2.1, b1.2.2.2.1, b1.2.2.2.2.1, b1.2.2.2.2.2, b2, b3, b4, b5, hT.use hs rfl⟩, hy, hi⟩ ⟨PcA.blind _, PcA.at A hP hz⟩ rfl (by simp [hlen]) hL.1 hstack hroom D hcells
  · exact va_runIN (Ts := []) (As := As.map (cv G)) ⟨A.1, A.2.1, A.2.2.1, A.2.2.2.1, fun _ h => by cases h⟩ hM ⟨⟨b1, b2, b3, b4, b5, hT.use hs rfl⟩, hy, hi⟩ ⟨PcA.blind _, PcA.at A hP hz⟩ rfl (by simp [hlen]) hL.1 hstack hroom D hcells
/-! returns -/
theorem a_ret {y : MethodName} {ret : Option FieldType} {Post : Option Value → RF → MM → Prop} (T0 : RT E G y n kc wc ret Post) {r : Option Value} (hp : Post r rf M) {pc0 : Nat} {st0 : List Value}
    (go : ∀ (H : Heap) (locs : List Loc) (ls : Array Slot), (∀ t : State, t.heap = H → (eS E).WarmedH t.vm → QcA G n Post (eA E) (eS E) (.returned (r.map (cv G))) t) → (∀ q ∈ locs, gz G ≤ q.base) → W (eP E) (eL E) (eE E) (eR E) (eS E) (eM E) (eA E) (eB E) (eT E) (eC E) H locs kc wc (MQ (eB E) (QcA G n Post) (eA E) (eS E) kc wc (fun q => gz G ≤ q)) (F0 (eM E) pc0 ls st0)) (hst : st.map (cv G) = st0) : AW G E nL pc0 lv st n kc wc rf M := by
  intro H locs ls hP hS hL
  rw [hst]
  show W _ _ _ _ _ _ _ _ _ _ _ _ _ _ (eQ E) _
  rw [T0.1]
  exact go H locs ls (fun t ht hW => ⟨⟨r, rf, M, rfl, hp, by rw [ht]; exact hP⟩, hS.F ht⟩) hS.2.2
theorem a_ireturn (A : Am G E cc nL own n0 d kc wc) {y : MethodName} {Post : Option Value → RF → MM → Prop} (T0 : RT E G y n kc wc (some .int) Post) {z : Int} (D : decode cc pc = .ok (.ireturn, 1)) (hp : Post (some (vi z)) rf M) : AW G E nL pc lv [vi z] n kc wc rf M :=
  a_ret T0 hp (fun _ _ _ hq hf => W.iret A.1 A.2.1 T0.2.1 hq hf D T0.2.2.1) rfl
theorem a_zreturn (A : Am G E cc nL own n0 d kc wc) {y : MethodName} {Post : Option Value → RF → MM → Prop} (T0 : RT E G y n kc wc (some .boolean) Post) {z : Int} (D : decode cc pc = .ok (.ireturn, 1)) (hz : z = 0 ∨ z = 1) (hp : Post (some (vi z)) rf M) : AW G E nL pc lv [vi z] n kc wc rf M :=
  a_ret T0 hp (fun _ _ _ hq hf => W.zret A.1 A.2.1 T0.2.1 (by rcases hz with rfl | rfl <;> rfl) hq hf D T0.2.2.1) rfl
theorem a_lreturn (A : Am G E cc nL own n0 d kc wc) {y : MethodName} {Post : Option Value → RF → MM → Prop} (T0 : RT E G y n kc wc (some .long) Post) {z : Int} (D : decode cc pc = .ok (.lreturn, 1)) (hp : Post (some (vl z)) rf M) : AW G E nL pc lv [vl z] n kc wc rf M :=
  a_ret T0 hp (fun _ _ _ hq hf => W.lret A.1 A.2.1 T0.2.1 hq hf D T0.2.2.1) rfl
theorem a_areturn (A : Am G E cc nL own n0 d kc wc) {y : MethodName} {Post : Option Value → RF → MM → Prop} {t : FieldType} (T0 : RT E G y n kc wc (some (.array t)) Post) {z : Nat} (D : decode cc pc = .ok (.areturn, 1)) (hp : Post (some (.ref z)) rf M) : AW G E nL pc lv [.ref z] n kc wc rf M :=
  a_ret T0 hp (fun _ _ _ hq hf => W.aret A.1 A.2.1 T0.2.1 (Or.inr ⟨_, rfl⟩) (Or.inr ⟨_, rfl⟩) hq hf D T0.2.2.1) rfl
theorem a_return (A : Am G E cc nL own n0 d kc wc) {y : MethodName} {Post : Option Value → RF → MM → Prop} (T0 : RT E G y n kc wc none Post) (D : decode cc pc = .ok (.return_, 1)) (hp : Post none rf M) : AW G E nL pc lv [] n kc wc rf M :=
  a_ret T0 hp (fun _ _ _ hq hf => W.vret A.1 A.2.1 T0.2.1 hq hf D T0.2.2.1) rfl
end ACR
