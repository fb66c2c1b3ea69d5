/-! the tables' words at a state; they stay when the machine warms up -/
def nestW : Cond → Bool
  | .fieldLinkNest .. => true
  | .methodLinkNest .. => true
  | _ => false
def okW (w : Cond) : Bool := w.onTables && (goodWord w || nestW w)
def AO (ty : FieldType) (U : State) : Prop := (Cond.arrayOver ty).before #[] U = true
def AC (ty : FieldType) (U : State) : Prop := (Cond.arrayClass ty).before #[] U = true
def TB (U : State) : Prop := (∀ w ∈ lw_tbl, okW w = true → va_Nw w U) ∧ AO (.object RX1) U ∧ AO (.array .int) U ∧ AC .int U ∧ AC .long U ∧ AC .boolean U
theorem AO.use {ty : FieldType} {U : State} {A : Array Value} (h : AO ty U) : (Cond.arrayOver ty).before A U = true := h
theorem AO.same {ty : FieldType} {u U : State} (h : u.vm = U.vm) (hT : AO ty u) : AO ty U := by
  have e : (Cond.arrayOver ty).before #[] (u.setVm U.vm) = (Cond.arrayOver ty).before #[] U := rfl
  have e2 : u.setVm U.vm = u := by rw [← h]; rfl
  rw [e2] at e
  exact e.symm.trans hT
theorem AO.warm {ty : FieldType} {s U : State} (hW : s.WarmedH U.vm) (hT : AO ty s) : AO ty U := by
  have e := Cond.arrayOver_setVmC (args := #[]) hW.alike ty
  exact (show (Cond.arrayOver ty).before #[] U = _ from rfl).trans (e.trans hT)
theorem AC.use {ty : FieldType} {U : State} {A : Array Value} (h : AC ty U) : (Cond.arrayClass ty).before A U = true := h
theorem AC.same {ty : FieldType} {u U : State} (h : u.vm = U.vm) (hT : AC ty u) : AC ty U := by
  have e : (Cond.arrayClass ty).before #[] (u.setVm U.vm) = (Cond.arrayClass ty).before #[] U := rfl
  have e2 : u.setVm U.vm = u := by rw [← h]; rfl
  rw [e2] at e
  exact e.symm.trans hT
theorem AC.warm {ty : FieldType} {s U : State} (hW : s.WarmedH U.vm) (hT : AC ty s) : AC ty U := word_at hW (Or.inr ⟨_, rfl⟩) hT
theorem TB.use {U : State} (h : TB U) {A : Array Value} {w : Cond} (hw : w ∈ lw_tbl) (ho : okW w = true) : w.before A U = true := by
  have h1 := ho
  simp only [okW, Bool.and_eq_true] at h1
  exact va_Nw.use h1.1 (h.1 w hw ho)
theorem TB.same {u U : State} (h : u.vm = U.vm) (hT : TB u) : TB U := ⟨fun w hw ho => by
  have h1 := ho
  simp only [okW, Bool.and_eq_true] at h1
  exact va_Nw.same h1.1 h (hT.1 w hw ho), hT.2.1.same h, hT.2.2.1.same h, hT.2.2.2.1.same h, hT.2.2.2.2.1.same h, hT.2.2.2.2.2.same h⟩
theorem TB.warm {s U : State} (hW : s.WarmedH U.vm) (hT : TB s) : TB U := ⟨fun w hw ho => by
  have h1 := ho
  simp only [okW, Bool.and_eq_true, Bool.or_eq_true] at h1
  obtain ⟨h1, h2⟩ := h1
  rcases h2 with h2 | h2
  · exact word_at hW (good_of_word h2) (hT.1 w hw ho)
  · have hz := hT.1 w hw ho
    cases w with
    | fieldLinkNest a i b n d h => exact va_Nw.warmF hW hz
    | methodLinkNest a i x h => exact va_Nw.warmM hW hz
    | _ => simp [nestW] at h2, hT.2.1.warm hW, hT.2.2.1.warm hW, hT.2.2.2.1.warm hW, hT.2.2.2.2.1.warm hW, hT.2.2.2.2.2.warm hW⟩
set_option maxRecDepth 100000 in
theorem tb_a1 : Cond.arrayOver (.object RX1) ∈ lw_tbl := by decide +kernel
set_option maxRecDepth 100000 in
theorem tb_a2 : Cond.arrayOver (.array .int) ∈ lw_tbl := by decide +kernel
set_option maxRecDepth 100000 in
theorem tb_a3 : Cond.arrayClass .int ∈ lw_tbl := by decide +kernel
set_option maxRecDepth 100000 in
theorem tb_a4 : Cond.arrayClass .long ∈ lw_tbl := by decide +kernel
set_option maxRecDepth 100000 in
theorem tb_a5 : Cond.arrayClass .boolean ∈ lw_tbl := by decide +kernel
theorem TB.of {A : Array Value} {U : State} (h : ∀ w ∈ lw_tbl, w.before A U = true) : TB U := ⟨fun w hw ho => by
  have h1 := ho
  simp only [okW, Bool.and_eq_true] at h1
  exact va_Nw.of h1.1 (h w hw), h _ tb_a1, h _ tb_a2, h _ tb_a3, h _ tb_a4, h _ tb_a5⟩
set_option maxRecDepth 100000 in
theorem tb_u0 : ∀ w ∈ u_ws RX0 TX0 2, w ∈ lw_tbl ∧ okW w = true := by decide +kernel
set_option maxRecDepth 100000 in
theorem tb_u1 : ∀ w ∈ u_ws RX1 TX1 5, w ∈ lw_tbl ∧ okW w = true := by decide +kernel
set_option maxRecDepth 100000 in
theorem tb_u2 : ∀ w ∈ u_ws RX2 TX2 17, w ∈ lw_tbl ∧ okW w = true := by decide +kernel
set_option maxRecDepth 100000 in
theorem tb_u3 : ∀ w ∈ u_ws RX3 TX3 9, w ∈ lw_tbl ∧ okW w = true := by decide +kernel
set_option maxRecDepth 100000 in
theorem tb_u4 : ∀ w ∈ u_ws RX4 TX4 8, w ∈ lw_tbl ∧ okW w = true := by decide +kernel
set_option maxRecDepth 100000 in
theorem tb_u5 : ∀ w ∈ u_ws RX5 TX5 33, w ∈ lw_tbl ∧ okW w = true := by decide +kernel
