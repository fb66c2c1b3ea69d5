/-! an array of arrays of ints, made at one stroke -/
def zm_o (cA : ClassId) (N h0 i : Nat) : Cell := arrV cA N (fun j => if j < i then .ref (h0 + 1 + j) else .null)
theorem zm_o_set (cA : ClassId) (N h0 i : Nat) : (zm_o cA N h0 i).setSlot i (.ref (h0 + 1 + i)) = zm_o cA N h0 (i + 1) := by
  unfold zm_o
  rw [arrV_store]
  congr 1
  funext j
  unfold updV
  by_cases h : j = i
  · subst h
    rw [if_pos rfl, if_pos (Nat.lt_succ_self _)]
  · rw [if_neg h]
    show (if j < i then Value.ref (h0 + 1 + j) else Value.null) = _
    by_cases h2 : j < i
    · rw [if_pos h2, if_pos (by omega)]
    · rw [if_neg h2, if_neg (by omega)]
def zm_i (co : ClassId) (m : Nat) : Cell := arrV co m (fun _ => .int 0)
def zm_s (s : State) (cA co : ClassId) (N m : Nat) : Nat → State
  | 0 => s.pushCell (zm_o cA N s.heap.size 0)
  | i + 1 => ((zm_s s cA co N m i).pushCell (zm_i co m)).setCell s.heap.size (zm_o cA N s.heap.size (i + 1))
theorem zm_facts (s : State) (cA co : ClassId) (N m : Nat) : ∀ i, (zm_s s cA co N m i).heap.size = s.heap.size + 1 + i ∧ (zm_s s cA co N m i).heap[s.heap.size]? = some (zm_o cA N s.heap.size i) ∧ (zm_s s cA co N m i).vm = s.vm ∧ (zm_s s cA co N m i).slotsUsed = s.slotsUsed + N + i * m := by
  intro i
  induction i with
  | zero =>
    refine ⟨by simp [zm_s], State.heap_pushCell_size _ _, rfl, ?_⟩
    have h : (zm_o cA N s.heap.size 0).slots.size = N := arrV_size _ _ _
    simp [zm_s, h]
  | succ i ih =>
    obtain ⟨a, b, c, d⟩ := ih
    have h : (zm_i co m).slots.size = m := arrV_size _ _ _
    have hl : s.heap.size < (zm_s s cA co N m i).heap.size := by omega
    refine ⟨?_, State.heap_setCell_self (c := zm_o cA N s.heap.size i) ?_, by simp [zm_s, c], ?_⟩
    · simp [zm_s, State.setCell, a]
      omega
    · rw [State.heap_pushCell_of_lt (h := hl)]
      exact b
    · simp [zm_s, d, h, Nat.succ_mul]
      omega
theorem zm_old (s : State) (cA co : ClassId) (N m : Nat) {a : Nat} (ha : a < s.heap.size) : ∀ i, (zm_s s cA co N m i).heap[a]? = s.heap[a]? := by
  intro i
  induction i with
  | zero => exact State.heap_pushCell_of_lt _ _ ha
  | succ i ih =>
    have hl : a < (zm_s s cA co N m i).heap.size := by rw [(zm_facts s cA co N m i).1]; omega
    show (State.setCell _ s.heap.size _).heap[a]? = _
    rw [State.heap_setCell_other (Nat.ne_of_gt ha), State.heap_pushCell_of_lt (h := hl)]
    exact ih
theorem zm_in (s : State) (cA co : ClassId) (N m : Nat) : ∀ i j, j < i → (zm_s s cA co N m i).heap[s.heap.size + 1 + j]? = some (zm_i co m) := by
  intro i
  induction i with
  | zero => intro j h; omega
  | succ i ih =>
    intro j h
    have f1 := (zm_facts s cA co N m i).1
    show (State.setCell _ s.heap.size _).heap[s.heap.size + 1 + j]? = _
    rw [State.heap_setCell_other (show s.heap.size ≠ s.heap.size + 1 + j by omega)]
    by_cases hj : j < i
    · have hl : s.heap.size + 1 + j < (zm_s s cA co N m i).heap.size := by rw [f1]; omega
      rw [State.heap_pushCell_of_lt (h := hl)]
      exact ih j hj
    · rw [show s.heap.size + 1 + j = (zm_s s cA co N m i).heap.size by rw [f1]; omega]
      exact State.heap_pushCell_size _ _
theorem zm_top (s : State) (f : JFrame) (cA co : ClassId) (N m : Nat) : ∀ i, zm_s (s.setTop f) cA co N m i = (zm_s s cA co N m i).setTop f := by
  intro i
  induction i with
  | zero => rfl
  | succ i ih =>
    show ((zm_s (s.setTop f) cA co N m i).pushCell _).setCell _ _ = _
    rw [ih]
    rfl
theorem zm_stand {p : Program} {l : Launch} {e : Env} {R : Room} {s : State} {m : MethodId} {args : Array Value} {below : List Frame} {meth : Method} {c : Code} {T : State} {locs : List Loc} {cells slots : Nat} (X : Stand p l e R s m args below meth c T locs cells slots) (cA co : ClassId) (N mm : Nat) : ∀ i, Stand p l e R s m args below meth c (zm_s T cA co N mm i) locs (cells + 1 + i) (slots + N + i * mm) := by
  intro i
  induction i with
  | zero =>
    have h := X.pushed (zm_o cA N T.heap.size 0)
    rw [show (zm_o cA N T.heap.size 0).slots.size = N from arrV_size _ _ _] at h
    simpa [zm_s] using h
  | succ i ih =>
    obtain ⟨f1, f2, f3, f4⟩ := zm_facts T cA co N mm i
    have h := ih.pushed (zm_i co mm)
    rw [show (zm_i co mm).slots.size = mm from arrV_size _ _ _] at h
    have hl : T.heap.size < (zm_s T cA co N mm i).heap.size := by rw [f1]; omega
    have h2 := h.stored (a := T.heap.size) (cell := zm_o cA N T.heap.size i) (by rw [State.heap_pushCell_of_lt (h := hl)]; exact f2) i (.ref (T.heap.size + 1 + i))
    rw [zm_o_set] at h2
    have h3 := h2.dropFresh (fun x hx => by rw [List.mem_singleton.mp hx]; exact X.heapGrown)
    have e : slots + N + (i + 1) * mm = slots + N + i * mm + mm := by rw [Nat.succ_mul]; omega
    rw [e]
    exact h3
section ZMW
variable {E : CtlPost} {e : Env} {d : Bool} {acts : List Action} {s : State}
theorem zm_wp1 {co cc : ClassId} {kc : Class} {m : Int32} (hkc : s.vm.classes[co]? = some kc) (hkd : kc.kind = .array cc .int) (hm : ¬ m < 0) (hl : ¬ m.toNatClampNeg > e.platform.arrayLengthLimit) (hh : ¬ m.toNatClampNeg * componentBytes .int > e.platform.maxHeapBytes) (h1 : s.heap.size < e.platform.maxCells) (h2 : s.slotsUsed + m.toNatClampNeg ≤ e.platform.maxSlots) {Q : Addr → Pre} (hq : ∀ a', Q s.heap.size d a' (s.pushCell (zm_i co m.toNatClampNeg))) : wp (Jvm.Op.multianewarray.make co [m]) Q E e d acts s := by
  rw [Jvm.Op.multianewarray.make]
  simp only [wp_bind', W.ite, hm, if_false, wp_pure', W.theClass, hkc, hkd, Option.some.injEq, exists_eq_left']
  refine W.newArray_of hkc hkd hl hh h1 h2 rfl (fun a' => ?_)
  have e1 : ({ cls := co, slots := Array.replicate m.toNatClampNeg (defaultValue .int) } : Cell) = zm_i co m.toNatClampNeg := arrV_new co m.toNatClampNeg (.int 0)
  rw [e1]
  exact hq a'
theorem zm_wp2 {cA co cc : ClassId} {k kc : Class} {n m : Int32} (hk : s.vm.classes[cA]? = some k) (hkk : k.kind = .array co (.array .int)) (hkc : s.vm.classes[co]? = some kc) (hkd : kc.kind = .array cc .int) (hn : ¬ n < 0) (hm : ¬ m < 0) (hl0 : ¬ n.toNatClampNeg > e.platform.arrayLengthLimit) (hh0 : ¬ n.toNatClampNeg * componentBytes (.array .int) > e.platform.maxHeapBytes) (hl : ¬ m.toNatClampNeg > e.platform.arrayLengthLimit) (hh : ¬ m.toNatClampNeg * componentBytes .int > e.platform.maxHeapBytes) (h1 : s.heap.size + 1 + n.toNatClampNeg ≤ e.platform.maxCells) (h2 : s.slotsUsed + n.toNatClampNeg + n.toNatClampNeg * m.toNatClampNeg ≤ e.platform.maxSlots) {Q : Addr → Pre} (hq : ∀ d' a', Q s.heap.size d' a' (zm_s s cA co n.toNatClampNeg m.toNatClampNeg n.toNatClampNeg)) : wp (Jvm.Op.multianewarray.make cA [n, m]) Q E e d acts s := by
  rw [Jvm.Op.multianewarray.make]
  simp only [wp_bind', W.ite, hn, if_false, wp_pure', W.theClass, hk, hkk, Option.some.injEq, exists_eq_left']
  refine W.newArray_of hk hkk hl0 hh0 (by omega) (by omega) rfl (fun a' => ?_)
  have hfi : ([m].find? (· < 0)) = none := by simp [hm]
  simp only [hfi]
  rw [ite_self, wp_bind', Std.Legacy.Range.forIn_eq_forIn_range']
  have hsz : ([:n.toNatClampNeg] : Std.Legacy.Range).size = n.toNatClampNeg := by simp [Std.Legacy.Range.size]
  rw [hsz]
  have e0 : ({ cls := cA, slots := Array.replicate n.toNatClampNeg .null } : Cell) = zm_o cA n.toNatClampNeg s.heap.size 0 := arrV_new cA n.toNatClampNeg .null
  rw [e0]
  generalize hN : n.toNatClampNeg = N at *
  generalize hMm : m.toNatClampNeg = mm at *
  refine wp_forIn_inv (fun rest t => ∃ i, i + rest.length = N ∧ rest = List.range' i rest.length ∧ t = zm_s s cA co N mm i) _ _ ⟨0, by simp, by simp, rfl⟩ ?_ ?_
  · rintro x rest t d' a2 Q' ⟨i, hi, hr, rfl⟩ hnx
    rw [List.length_cons] at hi hr
    rw [List.range'_succ] at hr
    obtain ⟨rfl, hr2⟩ := List.cons.inj hr
    obtain ⟨f1, f2, f3, f4⟩ := zm_facts s cA co N mm x
    have hmul : x * mm + mm ≤ N * mm := by
      have := Nat.mul_le_mul_right mm (show x + 1 ≤ N by omega)
      rw [Nat.succ_mul] at this
      exact this
    simp only [wp_bind']
    refine zm_wp1 (by rw [f3]; exact hkc) hkd hm (by rw [hMm]; exact hl) (by rw [hMm]; exact hh) (by rw [f1]; omega) (by rw [f4, hMm]; omega) (fun a3 => ?_)
    simp only [wp_bind', W.writeLoc, wp_pure']
    rw [hMm]
    have hlt : s.heap.size < (zm_s s cA co N mm x).heap.size := by rw [f1]; omega
    refine ⟨zm_o cA N s.heap.size x, by rw [State.heap_pushCell_of_lt (h := hlt)]; exact f2, by simp [zm_o, arrV], by rw [show (zm_o cA N s.heap.size x).slots.size = N from arrV_size _ _ _]; omega, ?_, hnx _ _ _ ⟨x + 1, by omega, hr2, ?_⟩⟩
    · simp [zm_o, arrV, State.fitsSlot, State.slotType?, f3, hk, hkk, fits]
    · rw [f1, zm_o_set]
      rfl
  · rintro t d' a2 ⟨i, hi, hr, rfl⟩
    rw [List.length_nil] at hi
    simp only [wp_pure']
    rw [show i = N by omega]
    exact hq _ _
end ZMW
theorem zm_W {p : Program} {l : Launch} {e : Env} {R : Room} {s : State} {m : MethodId} {args : Array Value} {below : List Frame} {meth : Method} {c : Code} {H : Heap} {locs : List Loc} {cells slots : Nat} {Q : State → Prop} {cc : ByteArray} (hexec : p.tables.exec = Jvm.exec) (hb : c.code = cc) {own : String} {index : Nat} (hown : s.vm.findClass own = some m.cls) (hclink : (Cond.classLink own index "[[I").before args s = true) (hover : (Cond.arrayOver (.array .int)).before args s = true) (harr : (Cond.arrayClass .int).before args s = true)
    {g : JFrame} (hg : g.method = m) (hdg : decode cc g.pc = .ok (.multianewarray index 2, 4)) {n k : Int32} {rest : List Value} (hstack : g.stack = .int k :: .int n :: rest) (hn : ¬ n < 0) (hk : ¬ k < 0) (hb1 : n.toNatClampNeg ≤ 100) (hb2 : k.toNatClampNeg ≤ 100) (hcells : cells + (1 + n.toNatClampNeg) ≤ R.cells) (hslots : slots + (n.toNatClampNeg + n.toNatClampNeg * k.toNatClampNeg) ≤ R.slots)
    (kk : ∀ (cA co : ClassId) (H' : Heap), s.vm.findClass "[[I" = some cA → s.vm.findClass "[I" = some co → H'.size = H.size + 1 + n.toNatClampNeg → (∀ q, q < H.size → H'[q]? = H[q]?) → H'[H.size]? = some (zm_o cA n.toNatClampNeg H.size n.toNatClampNeg) → (∀ j, j < n.toNatClampNeg → H'[H.size + 1 + j]? = some (zm_i co k.toNatClampNeg)) →
      W p l e R s m args below meth c H' locs (cells + 1 + n.toNatClampNeg) (slots + n.toNatClampNeg + n.toNatClampNeg * k.toNatClampNeg) Q { g with pc := g.pc + 4, stack := .ref H.size :: rest }) : W p l e R s m args below meth c H locs cells slots Q g := by
  intro T hT X
  subst hT; subst hb; subst hg
  have hpl : e.platform.magicAccessors = ({} : Platform).magicAccessors := by rw [X.admits.platform]
  obtain ⟨co, cA, kA, hco, -, hkA, hkA2, hnA⟩ := arrayOverA_spec hover
  obtain ⟨co', kC, cc', hco', hkC, hkC2⟩ := Cond.arrayClass_spec harr
  have eco : co' = co := Option.some.inj (hco'.symm.trans hco)
  subst eco
  obtain ⟨c0, hfc0, hcl⟩ := Cond.classLink_spec hown hclink e.platform hpl
  have ec0 : c0 = cA := Option.some.inj (hfc0.symm.trans hnA)
  subst ec0
  obtain ⟨hg1, hw1, hr1⟩ := State.classEntry (e := e) X.warmed hcl
  generalize T.vm.noted g.method.cls index (.cls c0) = vm1 at hg1 hw1 hr1
  obtain ⟨kA1, hkA1, heA⟩ := hw1.alike.2.2 _ _ hkA
  obtain ⟨kC1, hkC1, heC⟩ := hw1.alike.2.2 _ _ hkC
  have hkA3 : kA1.kind = .array co' (.array .int) := by rw [heA]; exact hkA2
  have hkC3 : kC1.kind = .array cc' .int := by rw [heC]; exact hkC2
  have X1 := X.noted hw1
  have X2 := zm_stand X1 c0 co' n.toNatClampNeg k.toNatClampNeg n.toNatClampNeg
  obtain ⟨ro1, ro2⟩ := X.roomAbove hcells hslots
  obtain ⟨f1, f2, f3, f4⟩ := zm_facts (T.setVm vm1) c0 co' n.toNatClampNeg k.toNatClampNeg n.toNatClampNeg
  obtain ⟨t, a1, b1⟩ := kk c0 co' _ hfc0 hco f1 (fun q hq => zm_old (T.setVm vm1) c0 co' _ _ hq _) f2 (fun j hj => zm_in (T.setVm vm1) c0 co' _ _ _ j hj) _ rfl X2
  refine ⟨t, ?_, b1⟩
  have hl1 : ¬ n.toNatClampNeg > e.platform.arrayLengthLimit := by rw [Launch.admits_arrayLengthLimit X.admits]; omega
  have hl2 : ¬ k.toNatClampNeg > e.platform.arrayLengthLimit := by rw [Launch.admits_arrayLengthLimit X.admits]; omega
  have hh1 : ¬ n.toNatClampNeg * componentBytes (.array .int) > e.platform.maxHeapBytes := by rw [Launch.admits_maxHeapBytes X.admits]; show ¬ n.toNatClampNeg * 4 > 536870912; omega
  have hh2 : ¬ k.toNatClampNeg * componentBytes .int > e.platform.maxHeapBytes := by rw [Launch.admits_maxHeapBytes X.admits]; show ¬ k.toNatClampNeg * 4 > 536870912; omega
  jvm_step X.here [hexec, hdg]
  simp only [Jvm.Op.multianewarray.sem, wp_bind', W.resolveClassAt_links (State.method?_setTop g X.here.top) hg1]
  rw [W.popN, if_neg (by decide)]
  refine ⟨g, State.topJava?_setTop' (s := T.setVm vm1) g X.here.top, [.int n, .int k], rest, rfl, hstack, ?_⟩
  simp only [List.mapM_cons, List.mapM_nil, wp_bind', wp_pure']
  refine zm_wp2 (k := kA1) (kc := kC1) hkA1 hkA3 hkC1 hkC3 hn hk hl1 hh1 hl2 hh2 (by show T.heap.size + 1 + _ ≤ _; omega) (by show T.slotsUsed + _ + _ ≤ _; omega) (fun d' a' => ?_)
  have eS : ((T.setTop g).setVm vm1).setTop { g with stack := rest } = (T.setVm vm1).setTop { g with stack := rest } := by
    show ((T.setVm vm1).setTop g).setTop _ = _
    rw [State.setTop_setTop]
  rw [eS, zm_top]
  simp only [wp_bind', W.mark, W.pushRef, State.topJava?_setTop' _ X2.here.top, Option.some.injEq, exists_eq_left', State.setTop_setTop, State.heap_setTop]
  intro acts
  simp [jvm, X2.here.top]
  exact a1
def rMul (rf : RF) (n N : Nat) : RF := fun c => if c = n then (fun j => if j < N then some (n + 1 + j) else none) else if n < c ∧ c < n + 1 + N then (fun _ => none) else rf c
def mMul (M : MM) (n N : Nat) : MM := fun c => if n ≤ c ∧ c < n + 1 + N then (fun _ => 0) else M c
section ZMA
variable {G : GG} {E : EE} {cc : ByteArray} {nL : Nat} {own : String} {n0 d kc wc pc : Nat} {lv st : List Value} {n k w : Nat} {rf : RF} {M : MM}
theorem a_multi (A : Am G E cc nL own n0 d kc wc) (hn : n = n0 + k) {N mm ix : Nat} {x y : Int} (hl : ly n = (10, N)) (hm : ∀ j, j < N → ly (n + 1 + j) = (6, mm)) (h1 : Cond.classLink own ix "[[I" ∈ lw_tbl) (D : decode cc pc = .ok (.multianewarray ix 2, 4)) (hx : x = N) (hy : y = mm) (hb : N ≤ 100 ∧ mm ≤ 100) (hk : k + 1 + N ≤ kc ∧ w + N + N * mm ≤ wc) (kk : AW G E nL (pc + 4) lv (.ref n :: st) (n + 1 + N) (k + 1 + N) (w + N + N * mm) (rMul rf n N) (mMul M n N)) : AW G E nL pc lv (vi y :: vi x :: st) n k w rf M := by
  refine a_size A hn (fun H locs ls hP hS hL hz => ?_)
  have hT := A.2.2.2.2.1.2
  have hcx : (Int32.ofInt x).toNatClampNeg = N := by rw [i32_cl (by omega) (by omega)]; omega
  have hcy : (Int32.ofInt y).toNatClampNeg = mm := by rw [i32_cl (by omega) (by omega)]; omega
  have hnx : ¬ Int32.ofInt x < 0 := fun q => by have := (i32_lt (x := x) (y := 0) (by omega) (by omega)).mp q; omega
  have hny : ¬ Int32.ofInt y < 0 := fun q => by have := (i32_lt (x := y) (y := 0) (by omega) (by omega)).mp q; omega
  refine zm_W (n := Int32.ofInt x) (k := Int32.ofInt y) A.1 A.2.1 A.2.2.2.1 (hT.use h1 rfl) hT.2.2.1.use hT.2.2.2.1.use rfl D rfl hnx hny (by rw [hcx]; exact hb.1) (by rw [hcy]; exact hb.2) (by rw [hcx]; exact Nat.le_trans (by omega) A.2.2.2.2.2.2.2.2.1) (by rw [hcx, hcy]; exact Nat.le_trans (by omega) A.2.2.2.2.2.2.2.2.2) (fun cA co H1 f1 f2 z1 o1 c1 c2 => ?_)
  rw [hcx, hcy] at *
  rw [hz] at c1 c2
  have hra := (A.2.2.2.2.1.1.2 0 _ rfl).2
  have hrb := (A.2.2.2.2.1.1.2 4 _ rfl).2
  have eco : co = G.2.1 6 := Option.some.inj (f2.symm.trans hra)
  have ecA : cA = G.2.1 10 := Option.some.inj (f1.symm.trans hrb)
  subst eco ecA
  rw [hz]
  refine kk H1 locs ls (fun i q hq => ?_) (va_S_grow hS (by omega) o1) hL
  have hi : i < n + 1 + N := by
    have := (List.getElem?_eq_some_iff.mp hq).1
    rwa [wl_len] at this
  rw [wl_get hi] at hq
  cases hq
  by_cases h2 : i < n
  · have e1 : ce G (rMul rf n N) (mMul M n N) i = ce G rf M i := ce_same (by simp [mMul]; intro q; omega) (by simp [rMul, show i ≠ n by omega]; intro q; omega)
    rw [e1]
    exact (hP.kept (H1 := H1) (fun a b hab => o1 b.1 ((hP a b hab).lt))) i _ (wl_get h2)
  by_cases h3 : i = n
  · subst h3
    have ec : ce G (rMul rf i N) (mMul M i N) i = .inl (G.2.1 10, N, .inr (.inr (.inr (.inr (fun j => if j < N then some (gz G + (i + 1 + j)) else none))))) := by
      unfold ce
      rw [hl]
      simp only [ceK, rMul, if_true]
      congr 7
      funext j
      by_cases hj : j < N
      · simp [hj]
      · simp [hj]
    rw [ec]
    show H1[gz G + i]? = some (vp_cell _ _)
    rw [c1, vp_cell_q]
    unfold zm_o
    congr 2
    funext j
    by_cases hj : j < N
    · rw [if_pos hj, if_pos hj]
      show Value.ref (gz G + i + 1 + j) = Value.ref (gz G + (i + 1 + j))
      rw [show gz G + i + 1 + j = gz G + (i + 1 + j) by omega]
    · rw [if_neg hj, if_neg hj]
      rfl
  · have ec : ce G (rMul rf n N) (mMul M n N) i = .inl (G.2.1 6, mm, .inl (fun _ => Int32.ofInt 0)) := by
      have := hm (i - n - 1) (by omega)
      rw [show n + 1 + (i - n - 1) = i by omega] at this
      unfold ce
      rw [this]
      simp only [ceK, mMul]
      rw [if_pos (by omega)]
    rw [ec]
    show H1[gz G + i]? = some (vp_cell _ _)
    have := c2 (i - n - 1) (by omega)
    rw [show gz G + n + 1 + (i - n - 1) = gz G + i by omega] at this
    rw [this]
    rfl
end ZMA
