/-! THE PICTURE: 108 cells, made in a fixed order behind the heap that the law finds (size sz): cell k lies at sz + k.
ly k: its kind (0..5 an object of that class of vwCl, 6 int[], 7 long[], 8 boolean[], 9 Net[], 10 int[][]) and length.
M k j: the whole number in place j of cell k; rf k j: the cell that place j of cell k refers to. -/
def lyL : List (Nat × Nat) := [(4, 0), (1, 0), (10, 10), (6, 8), (6, 8), (6, 8), (6, 8), (6, 8), (6, 8), (6, 8), (6, 8), (6, 8), (6, 8), (6, 4), (9, 3), (8, 3), (3, 0), (6, 4), (0, 0), (6, 4), (0, 0), (2, 0), (6, 10), (6, 10), (6, 10), (6, 10), (6, 10), (10, 13), (6, 5), (6, 5), (6, 5), (6, 5), (6, 5), (6, 5), (6, 5), (6, 5), (6, 5), (6, 5), (6, 5), (6, 5), (6, 5), (7, 5), (0, 0), (0, 0), (0, 0), (1, 0), (10, 10), (6, 8), (6, 8), (6, 8), (6, 8), (6, 8), (6, 8), (6, 8), (6, 8), (6, 8), (6, 8), (6, 4), (1, 0), (10, 10), (6, 8), (6, 8), (6, 8), (6, 8), (6, 8), (6, 8), (6, 8), (6, 8), (6, 8), (6, 8), (6, 4), (1, 0), (10, 10), (6, 8), (6, 8), (6, 8), (6, 8), (6, 8), (6, 8), (6, 8), (6, 8), (6, 8), (6, 8), (6, 4), (5, 0), (6, 4), (6, 4), (6, 40), (6, 40), (6, 40), (6, 40), (6, 40), (6, 40), (6, 40), (6, 40), (6, 4), (6, 20), (7, 4), (7, 4), (6, 10), (6, 10), (6, 10), (6, 5), (7, 5), (7, 5), (6, 5), (6, 5), (8, 3)]
def ly (k : Nat) : Nat × Nat := lyL.getD k (99, 0)
abbrev GG : Type := va_G × (Nat → ClassId) × Nat × Nat
abbrev RF : Type := Nat → Nat → Option Nat
abbrev MM : Type := Nat → Nat → Int
abbrev gz (G : GG) : Nat := G.2.2.1
def clN (ci : Nat) : Nat := match ci with
  | 0 => 2
  | 1 => 5
  | 2 => 17
  | 3 => 9
  | 4 => 8
  | _ => 33
def clT (ci : Nat) : Nat → FieldType := match ci with
  | 0 => tyX0
  | 1 => tyX1
  | 2 => tyX2
  | 3 => tyX3
  | 4 => tyX4
  | _ => tyX5
def fv (t : FieldType) (z : Int) (r : Option Nat) (sz : Nat) : Value := match t with
  | .long => .long (Int64.ofInt z)
  | .int => .int (Int32.ofInt z)
  | .boolean => .int (Int32.ofInt z)
  | _ => va_rf (r.map (fun q => sz + q))
def ceK (G : GG) (len : Nat) (rf : Nat → Option Nat) (M : Nat → Int) : Nat → va_E
  | 6 => .inl (G.2.1 6, len, .inl (fun j => Int32.ofInt (M j)))
  | 7 => .inl (G.2.1 7, len, .inr (.inl (fun j => Int64.ofInt (M j))))
  | 8 => .inl (G.2.1 8, len, .inl (fun j => Int32.ofInt (M j)))
  | 9 => .inl (G.2.1 9, len, .inr (.inr (.inr (.inr (fun j => (rf j).map (fun q => gz G + q))))))
  | 10 => .inl (G.2.1 10, len, .inr (.inr (.inr (.inr (fun j => (rf j).map (fun q => gz G + q))))))
  | ci => .inr (ci, (List.range (clN ci)).map (fun j => fv (clT ci j) (M j) (rf j) (gz G)))
def ce (G : GG) (rf : RF) (M : MM) (k : Nat) : va_E := ceK G (ly k).2 (rf k) (M k) (ly k).1
def wl (G : GG) (n : Nat) (rf : RF) (M : MM) : va_W := (List.range n).map (fun k => (gz G + k, ce G rf M k))
theorem wl_get {G : GG} {n k : Nat} {rf : RF} {M : MM} (hk : k < n) : (wl G n rf M)[k]? = some (gz G + k, ce G rf M k) := by
  simp [wl, hk]
theorem wl_len {G : GG} {n : Nat} {rf : RF} {M : MM} : (wl G n rf M).length = n := by simp [wl]
theorem wl_set {G : GG} {n k : Nat} {rf rf' : RF} {M M' : MM} {e : va_E} (h1 : ce G rf' M' k = e) (h2 : ∀ j, j ≠ k → ce G rf' M' j = ce G rf M j) : (wl G n rf M).set k (gz G + k, e) = wl G n rf' M' := by
  apply List.ext_getElem?
  intro i
  by_cases hi : i < n
  · rw [wl_get hi, List.getElem?_set]
    by_cases hk : k = i
    · subst hk
      rw [if_pos rfl, if_pos (by rw [wl_len]; exact hi), h1]
    · rw [if_neg hk, wl_get hi, h2 i (fun q => hk q.symm)]
  · rw [List.getElem?_eq_none (by rw [List.length_set, wl_len]; omega), List.getElem?_eq_none (by rw [wl_len]; omega)]
theorem wl_D {G : GG} {n : Nat} {rf : RF} {M : MM} : va_D (fun q => gz G ≤ q) (wl G n rf M) := by
  have hlt : ∀ (i : Nat) (x : Nat × va_E), (wl G n rf M)[i]? = some x → x.1 = gz G + i := fun i x hx => by
    have hi : i < n := by
      have := (List.getElem?_eq_some_iff.mp hx).1
      rwa [wl_len] at this
    rw [wl_get hi] at hx
    cases hx
    rfl
  refine ⟨fun i j x y hi hj hxy => ?_, fun k x hx => ?_⟩
  · have := hlt i x hi
    have := hlt j y hj
    omega
  · have := hlt k x hx
    show gz G ≤ x.1
    omega
/-! values: .ref k stands for the cell k, .retAddr 0 for the script, .retAddr 1 for 'not known' -/
abbrev jk : Value := .retAddr 1
def cv (G : GG) : Value → Value
  | .ref k => .ref (gz G + k)
  | .retAddr 0 => .ref G.2.2.2
  | v => v
abbrev vi (z : Int) : Value := .int (Int32.ofInt z)
abbrev vl (z : Int) : Value := .long (Int64.ofInt z)
theorem cv_cat (G : GG) (v : Value) : (cv G v).category = v.category := by
  cases v with
  | retAddr p => cases p <;> rfl
  | _ => rfl
theorem cv_sum (G : GG) (st : List Value) : ((st.map (cv G)).map fun v => v.category).sum = (st.map fun v => v.category).sum := by
  rw [List.map_map]
  congr 1
  apply List.map_congr_left
  intro v _
  exact cv_cat G v
def LH (G : GG) (ls : Array Slot) (nL : Nat) (lv : List Value) : Prop := ls.size = nL ∧ lv_wf ls ∧ ∀ (i : Nat) (v : Value), lv[i]? = some v → v ≠ jk → ls[i]? = some (.val (cv G v))
def kl : Nat → List Value → List Value
  | 0, lv => lv
  | j + 1, lv => match lv[j]? with
    | some (.long _) => lv.set j jk
    | some (.double _) => lv.set j jk
    | _ => lv
def st1 (lv : List Value) (i : Nat) (v : Value) : List Value := (kl i lv).set i v
def st2 (lv : List Value) (i : Nat) (v : Value) : List Value := ((kl i lv).set i v).set (i + 1) jk
theorem kl_at {i j : Nat} {lv : List Value} {u : Value} (hu : u ≠ jk) (h : (kl i lv)[j]? = some u) : lv[j]? = some u ∧ ¬ (j + 1 = i ∧ u.category = 2) := by
  cases i with
  | zero => exact ⟨h, fun q => by omega⟩
  | succ i =>
    have key : (lv.set i jk)[j]? = some u → lv[j]? = some u ∧ ¬ (j + 1 = i + 1 ∧ u.category = 2) := by
      intro h
      rw [List.getElem?_set] at h
      by_cases hij : i = j
      · rw [if_pos hij] at h
        split at h
        · cases h; exact absurd rfl hu
        · cases h
      · rw [if_neg hij] at h
        exact ⟨h, fun q => hij (by omega)⟩
    simp only [kl] at h
    split at h
    · exact key h
    · exact key h
    · rename_i h1 h2
      refine ⟨h, fun q => ?_⟩
      obtain ⟨q1, q2⟩ := q
      have e : j = i := by omega
      subst e
      cases u with
      | long x => exact h1 x h
      | double x => exact h2 x h
      | _ => simp [Value.category] at q2
theorem LH.has {G : GG} {ls : Array Slot} {nL : Nat} {lv : List Value} (h : LH G ls nL lv) : lv_has ls nL ((List.range lv.length).filterMap (fun i => match lv[i]? with | some v => if v = jk then none else some (i, cv G v) | none => none)) := by
  refine ⟨h.1, h.2.1, fun q hq => ?_⟩
  obtain ⟨i, -, hi⟩ := List.mem_filterMap.mp hq
  split at hi
  · rename_i v hv
    split at hi
    · cases hi
    · rename_i hne
      cases hi
      exact h.2.2 i v hv hne
  · cases hi
theorem LH.mem {G : GG} {lv : List Value} {i : Nat} {v : Value} (hv : lv[i]? = some v) (hne : v ≠ jk) : (i, cv G v) ∈ (List.range lv.length).filterMap (fun i => match lv[i]? with | some v => if v = jk then none else some (i, cv G v) | none => none) := by
  refine List.mem_filterMap.mpr ⟨i, List.mem_range.mpr (List.getElem?_eq_some_iff.mp hv).1, ?_⟩
  rw [hv]
  simp only [hne, if_false]
theorem LH.store1 {G : GG} {ls : Array Slot} {nL : Nat} {lv : List Value} {i : Nat} {v : Value} (h : LH G ls nL lv) (hi : i < nL) (hc : v.category = 1) : ∃ ls', storeLocals ls i (cv G v) = some ls' ∧ LH G ls' nL (st1 lv i v) := by
  obtain ⟨ls', e, h'⟩ := lv_store1 (v := cv G v) h.has hi (by rw [cv_cat]; exact hc)
  refine ⟨ls', e, h'.1, h'.2.1, fun j u hu hne => ?_⟩
  unfold st1 at hu
  rw [List.getElem?_set] at hu
  by_cases hij : i = j
  · rw [if_pos hij] at hu
    split at hu
    · cases hu
      subst hij
      exact h'.2.2 (i, cv G v) List.mem_cons_self
    · cases hu
  · rw [if_neg hij] at hu
    obtain ⟨h1, h2⟩ := kl_at hne hu
    refine h'.2.2 (j, cv G u) (List.mem_cons_of_mem _ (List.mem_filter.mpr ⟨LH.mem h1 hne, ?_⟩))
    simp only [Bool.and_eq_true, Bool.not_eq_true', beq_eq_false_iff_ne, ne_eq, Bool.and_eq_false_iff, cv_cat]
    refine ⟨fun q => hij q.symm, ?_⟩
    by_cases e1 : j + 1 = i
    · exact Or.inr (fun q => h2 ⟨e1, q⟩)
    · exact Or.inl e1
theorem LH.store2 {G : GG} {ls : Array Slot} {nL : Nat} {lv : List Value} {i : Nat} {v : Value} (h : LH G ls nL lv) (hi : i + 1 < nL) (hc : v.category = 2) : ∃ ls', storeLocals ls i (cv G v) = some ls' ∧ LH G ls' nL (st2 lv i v) := by
  obtain ⟨ls', e, h'⟩ := lv_store2 (v := cv G v) h.has hi (by rw [cv_cat]; exact hc)
  refine ⟨ls', e, h'.1, h'.2.1, fun j u hu hne => ?_⟩
  unfold st2 at hu
  rw [List.getElem?_set] at hu
  by_cases hij2 : i + 1 = j
  · rw [if_pos hij2] at hu
    split at hu
    · cases hu; exact absurd rfl hne
    · cases hu
  rw [if_neg hij2, List.getElem?_set] at hu
  by_cases hij : i = j
  · rw [if_pos hij] at hu
    split at hu
    · cases hu
      subst hij
      exact h'.2.2 (i, cv G v) List.mem_cons_self
    · cases hu
  · rw [if_neg hij] at hu
    obtain ⟨h1, h2⟩ := kl_at hne hu
    refine h'.2.2 (j, cv G u) (List.mem_cons_of_mem _ (List.mem_filter.mpr ⟨LH.mem h1 hne, ?_⟩))
    simp only [Bool.and_eq_true, Bool.not_eq_true', beq_eq_false_iff_ne, ne_eq, Bool.and_eq_false_iff, cv_cat]
    refine ⟨fun q => hij q.symm, fun q => hij2 q.symm, ?_⟩
    by_cases e1 : j + 1 = i
    · exact Or.inr (fun q => h2 ⟨e1, q⟩)
    · exact Or.inl e1
/-! a method's entry -/
def lvx : List Value → List Value
  | [] => []
  | v :: t => match v with
    | .long x => .long x :: jk :: lvx t
    | .double x => .double x :: jk :: lvx t
    | v => v :: lvx t
def lv0 (nL : Nat) (av : List Value) : List Value := lvx av ++ List.replicate (nL - (lvx av).length) jk
theorem lvx_at (G : GG) : ∀ (av : List Value) (i : Nat) (v : Value), (lvx av)[i]? = some v → v ≠ jk → (lg_sl (av.map (cv G)))[i]? = some (.val (cv G v))
  | [], i, v, h, _ => by simp [lvx] at h
  | a :: t, i, v, h, hne => by
    have ih := lvx_at G t
    have h1 : ∀ (a : Value), a.category = 1 → (a :: lvx t)[i]? = some v → (lg_sl ((a :: t).map (cv G)))[i]? = some (.val (cv G v)) := by
      intro a ha h
      have e : lg_sl ((a :: t).map (cv G)) = Slot.val (cv G a) :: lg_sl (t.map (cv G)) := by
        simp [lg_sl, cv_cat, ha]
      rw [e]
      cases i with
      | zero => simp at h; subst h; rfl
      | succ i => simp at h ⊢; exact ih i v h hne
    have h2 : ∀ (a : Value), a.category = 2 → (a :: jk :: lvx t)[i]? = some v → (lg_sl ((a :: t).map (cv G)))[i]? = some (.val (cv G v)) := by
      intro a ha h
      have e : lg_sl ((a :: t).map (cv G)) = Slot.val (cv G a) :: Slot.second :: lg_sl (t.map (cv G)) := by
        simp [lg_sl, cv_cat, ha]
      rw [e]
      match i, h with
      | 0, h => simp at h; subst h; rfl
      | 1, h => simp at h; exact absurd h.symm hne
      | i + 2, h => simp at h ⊢; exact ih i v h hne
    cases a with
    | long x => exact h2 _ rfl h
    | double x => exact h2 _ rfl h
    | _ => exact h1 _ rfl h
theorem lvx_len (G : GG) : ∀ (av : List Value), (lg_sl (av.map (cv G))).length = (lvx av).length
  | [] => rfl
  | a :: t => by
    have ih := lvx_len G t
    have e : lg_sl ((a :: t).map (cv G)) = (if (cv G a).category = 2 then [Slot.val (cv G a), Slot.second] else [Slot.val (cv G a)]) ++ lg_sl (t.map (cv G)) := by
      simp [lg_sl]
    rw [e, List.length_append, ih, cv_cat]
    cases a <;> simp [lvx, Value.category] <;> omega
theorem LH.entry (G : GG) (av : List Value) (nL : Nat) (h : (lvx av).length ≤ nL) : LH G ((lg_sl (av.map (cv G)) ++ List.replicate (nL - (lg_sl (av.map (cv G))).length) Slot.unset).toArray) nL (lv0 nL av) := by
  have h1 := lv_entry (av.map (cv G)) (n := nL) (by rw [lvx_len]; exact h)
  refine ⟨h1.1, h1.2.1, fun i v hi hne => ?_⟩
  unfold lv0 at hi
  by_cases hl : i < (lvx av).length
  · rw [List.getElem?_append_left hl] at hi
    have := lvx_at G av i v hi hne
    rw [List.getElem?_toArray, List.getElem?_append_left (by rw [lvx_len]; exact hl)]
    exact this
  · rw [List.getElem?_append_right (by omega), List.getElem?_replicate] at hi
    split at hi
    · cases hi; exact absurd rfl hne
    · cases hi
