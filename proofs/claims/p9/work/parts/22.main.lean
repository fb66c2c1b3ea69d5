/-! the time behind the constructors: 108 cells, references fixed -/
def rF : RF := fun c j => match c with
  | 0 => ([some 1, some 14, some 15, some 16, some 21, some 42, some 43, some 44] : List (Option Nat)).getD j none
  | 1 => ([none, none, some 2, some 13, none] : List (Option Nat)).getD j none
  | 2 => if j < 10 then some (3 + j) else none
  | 14 => if j < 3 then some (45 + 13 * j) else none
  | 16 => ([some 17, some 18, some 19, some 20] : List (Option Nat)).getD j none
  | 21 => ([some 22, some 23, some 24, some 25, some 26, none, some 27, none, some 41] : List (Option Nat)).getD j none
  | 27 => if j < 13 then some (28 + j) else none
  | 45 => ([none, none, some 46, some 57, none] : List (Option Nat)).getD j none
  | 46 => if j < 10 then some (47 + j) else none
  | 58 => ([none, none, some 59, some 70, none] : List (Option Nat)).getD j none
  | 59 => if j < 10 then some (60 + j) else none
  | 71 => ([none, none, some 72, some 83, none] : List (Option Nat)).getD j none
  | 72 => if j < 10 then some (73 + j) else none
  | 84 => ([none, some 85, some 86, some 87, some 88, some 89, some 90, some 91, some 92, some 93, some 94, some 95, some 96, some 97, some 98, none, none, some 99, some 100, some 101, some 102, some 103, some 104, none, none, some 105, some 106, none, none, none, none, none, some 107] : List (Option Nat)).getD j none
  | _ => none
abbrev AM (G : GG) (E : EE) (nL pc : Nat) (lv st : List Value) (M : MM) : Prop := AW G E nL pc lv st 108 0 0 rF M
abbrev AmM (G : GG) (E : EE) (cc : ByteArray) (nL : Nat) (own : String) (d : Nat) : Prop := Am G E cc nL own 108 d 0 0
/-- contracts of the main time, by the kind of the answer -/
def CMi (G : GG) (l : Launch) (y : MethodName) (cc : ByteArray) (mL : Nat) (ret : Option FieldType) (d : Nat) (av : List Value) (M : MM) (P : Int → MM → Prop) : Prop := CT G l y cc mL ret d 0 0 av 108 rF M (fun r rf' M' => rf' = rF ∧ ∃ z, r = some (vi z) ∧ P z M')
def CMl (G : GG) (l : Launch) (y : MethodName) (cc : ByteArray) (mL : Nat) (ret : Option FieldType) (d : Nat) (av : List Value) (M : MM) (P : Int → MM → Prop) : Prop := CT G l y cc mL ret d 0 0 av 108 rF M (fun r rf' M' => rf' = rF ∧ ∃ z, r = some (vl z) ∧ P z M')
def CMr (G : GG) (l : Launch) (y : MethodName) (cc : ByteArray) (mL : Nat) (ret : Option FieldType) (d : Nat) (av : List Value) (M : MM) (P : Nat → MM → Prop) : Prop := CT G l y cc mL ret d 0 0 av 108 rF M (fun r rf' M' => rf' = rF ∧ ∃ z, r = some (.ref z) ∧ P z M')
def CMv (G : GG) (l : Launch) (y : MethodName) (cc : ByteArray) (mL : Nat) (ret : Option FieldType) (d : Nat) (av : List Value) (M : MM) (P : MM → Prop) : Prop := CT G l y cc mL ret d 0 0 av 108 rF M (fun r rf' M' => rf' = rF ∧ r = none ∧ P M')
section MMR
variable {G : GG} {E : EE} {cc : ByteArray} {nL : Nat} {own : String} {d pc : Nat} {lv st : List Value} {M : MM}
variable {y : MethodName} {cy : ByteArray} {mL : Nat} {ret : Option FieldType} {na d' a ci N len ix : Nat} {T : u_T} {ty : Nat → FieldType} {As rest : List Value}
theorem m_invVi {P : Int → MM → Prop} (A : AmM G E cc nL own d) (hM : CMi G (eL E) y cy mL ret d' (.ref a :: As) M P) (hd : d' + 1 ≤ d) (I : MI y cy mL ret na) (V : MV y) (hs : CS own ix y) (C0 : CF ci y.cls T N ty) (D : decode cc pc = .ok (.invokevirtual ix, 3)) (hl : ly a = (ci, len)) (ha : a < 108) (hlen : As.length = na) (hst : st = As.reverse ++ .ref a :: rest) (hrest : (rest.map fun v => v.category).sum ≤ 8)
    (kk : ∀ (z : Int) (M' : MM), P z M' → AM G E nL (pc + 3) lv (vi z :: rest) M') : AM G E nL pc lv st M :=
  a_invV A rfl hM hd I V hs C0 hl ha hlen D hst hrest ⟨Nat.le_refl _, Nat.le_refl _⟩ (fun r rf' M' h => by obtain ⟨rfl, z, rfl, h⟩ := h; exact kk z M' h)
theorem m_invVl {P : Int → MM → Prop} (A : AmM G E cc nL own d) (hM : CMl G (eL E) y cy mL ret d' (.ref a :: As) M P) (hd : d' + 1 ≤ d) (I : MI y cy mL ret na) (V : MV y) (hs : CS own ix y) (C0 : CF ci y.cls T N ty) (D : decode cc pc = .ok (.invokevirtual ix, 3)) (hl : ly a = (ci, len)) (ha : a < 108) (hlen : As.length = na) (hst : st = As.reverse ++ .ref a :: rest) (hrest : (rest.map fun v => v.category).sum ≤ 8)
    (kk : ∀ (z : Int) (M' : MM), P z M' → AM G E nL (pc + 3) lv (vl z :: rest) M') : AM G E nL pc lv st M :=
  a_invV A rfl hM hd I V hs C0 hl ha hlen D hst hrest ⟨Nat.le_refl _, Nat.le_refl _⟩ (fun r rf' M' h => by obtain ⟨rfl, z, rfl, h⟩ := h; exact kk z M' h)
theorem m_invVr {P : Nat → MM → Prop} (A : AmM G E cc nL own d) (hM : CMr G (eL E) y cy mL ret d' (.ref a :: As) M P) (hd : d' + 1 ≤ d) (I : MI y cy mL ret na) (V : MV y) (hs : CS own ix y) (C0 : CF ci y.cls T N ty) (D : decode cc pc = .ok (.invokevirtual ix, 3)) (hl : ly a = (ci, len)) (ha : a < 108) (hlen : As.length = na) (hst : st = As.reverse ++ .ref a :: rest) (hrest : (rest.map fun v => v.category).sum ≤ 8)
    (kk : ∀ (z : Nat) (M' : MM), P z M' → AM G E nL (pc + 3) lv (.ref z :: rest) M') : AM G E nL pc lv st M :=
  a_invV A rfl hM hd I V hs C0 hl ha hlen D hst hrest ⟨Nat.le_refl _, Nat.le_refl _⟩ (fun r rf' M' h => by obtain ⟨rfl, z, rfl, h⟩ := h; exact kk z M' h)
theorem m_invVv {P : MM → Prop} (A : AmM G E cc nL own d) (hM : CMv G (eL E) y cy mL ret d' (.ref a :: As) M P) (hd : d' + 1 ≤ d) (I : MI y cy mL ret na) (V : MV y) (hs : CS own ix y) (C0 : CF ci y.cls T N ty) (D : decode cc pc = .ok (.invokevirtual ix, 3)) (hl : ly a = (ci, len)) (ha : a < 108) (hlen : As.length = na) (hst : st = As.reverse ++ .ref a :: rest) (hrest : (rest.map fun v => v.category).sum ≤ 8)
    (kk : ∀ (M' : MM), P M' → AM G E nL (pc + 3) lv rest M') : AM G E nL pc lv st M :=
  a_invV A rfl hM hd I V hs C0 hl ha hlen D hst hrest ⟨Nat.le_refl _, Nat.le_refl _⟩ (fun r rf' M' h => by obtain ⟨rfl, rfl, h⟩ := h; exact kk M' h)
theorem m_invSi {P : Int → MM → Prop} (A : AmM G E cc nL own d) (hM : CMi G (eL E) y cy mL ret d' As M P) (hd : d' + 1 ≤ d) (I : MI y cy mL ret na) (V : Cond.static y ∈ lw_tbl) (hs : CS own ix y) (D : decode cc pc = .ok (.invokestatic ix, 3)) (hlen : As.length = na) (hst : st = As.reverse ++ rest) (hrest : (rest.map fun v => v.category).sum ≤ 8)
    (kk : ∀ (z : Int) (M' : MM), P z M' → AM G E nL (pc + 3) lv (vi z :: rest) M') : AM G E nL pc lv st M :=
  a_invS A rfl hM hd I V hs hlen D hst hrest ⟨Nat.le_refl _, Nat.le_refl _⟩ (fun r rf' M' h => by obtain ⟨rfl, z, rfl, h⟩ := h; exact kk z M' h)
theorem m_invSl {P : Int → MM → Prop} (A : AmM G E cc nL own d) (hM : CMl G (eL E) y cy mL ret d' As M P) (hd : d' + 1 ≤ d) (I : MI y cy mL ret na) (V : Cond.static y ∈ lw_tbl) (hs : CS own ix y) (D : decode cc pc = .ok (.invokestatic ix, 3)) (hlen : As.length = na) (hst : st = As.reverse ++ rest) (hrest : (rest.map fun v => v.category).sum ≤ 8)
    (kk : ∀ (z : Int) (M' : MM), P z M' → AM G E nL (pc + 3) lv (vl z :: rest) M') : AM G E nL pc lv st M :=
  a_invS A rfl hM hd I V hs hlen D hst hrest ⟨Nat.le_refl _, Nat.le_refl _⟩ (fun r rf' M' h => by obtain ⟨rfl, z, rfl, h⟩ := h; exact kk z M' h)
theorem m_invSv {P : MM → Prop} (A : AmM G E cc nL own d) (hM : CMv G (eL E) y cy mL ret d' As M P) (hd : d' + 1 ≤ d) (I : MI y cy mL ret na) (V : Cond.static y ∈ lw_tbl) (hs : CS own ix y) (D : decode cc pc = .ok (.invokestatic ix, 3)) (hlen : As.length = na) (hst : st = As.reverse ++ rest) (hrest : (rest.map fun v => v.category).sum ≤ 8)
    (kk : ∀ (M' : MM), P M' → AM G E nL (pc + 3) lv rest M') : AM G E nL pc lv st M :=
  a_invS A rfl hM hd I V hs hlen D hst hrest ⟨Nat.le_refl _, Nat.le_refl _⟩ (fun r rf' M' h => by obtain ⟨rfl, rfl, h⟩ := h; exact kk M' h)
theorem m_ireturn {P : Int → MM → Prop} (A : AmM G E cc nL own d) (T0 : RT E G y 108 0 0 (some .int) (fun r rf' M' => rf' = rF ∧ ∃ z, r = some (vi z) ∧ P z M')) {z : Int} (D : decode cc pc = .ok (.ireturn, 1)) (hp : P z M) : AM G E nL pc lv [vi z] M := a_ireturn A T0 D ⟨rfl, z, rfl, hp⟩
theorem m_zreturn {P : Int → MM → Prop} (A : AmM G E cc nL own d) (T0 : RT E G y 108 0 0 (some .boolean) (fun r rf' M' => rf' = rF ∧ ∃ z, r = some (vi z) ∧ P z M')) {z : Int} (D : decode cc pc = .ok (.ireturn, 1)) (hz : z = 0 ∨ z = 1) (hp : P z M) : AM G E nL pc lv [vi z] M := a_zreturn A T0 D hz ⟨rfl, z, rfl, hp⟩
theorem m_lreturn {P : Int → MM → Prop} (A : AmM G E cc nL own d) (T0 : RT E G y 108 0 0 (some .long) (fun r rf' M' => rf' = rF ∧ ∃ z, r = some (vl z) ∧ P z M')) {z : Int} (D : decode cc pc = .ok (.lreturn, 1)) (hp : P z M) : AM G E nL pc lv [vl z] M := a_lreturn A T0 D ⟨rfl, z, rfl, hp⟩
theorem m_areturn {P : Nat → MM → Prop} {t : FieldType} (A : AmM G E cc nL own d) (T0 : RT E G y 108 0 0 (some (.array t)) (fun r rf' M' => rf' = rF ∧ ∃ z, r = some (.ref z) ∧ P z M')) {z : Nat} (D : decode cc pc = .ok (.areturn, 1)) (hp : P z M) : AM G E nL pc lv [.ref z] M := a_areturn A T0 D ⟨rfl, z, rfl, hp⟩
theorem m_return {P : MM → Prop} (A : AmM G E cc nL own d) (T0 : RT E G y 108 0 0 none (fun r rf' M' => rf' = rF ∧ r = none ∧ P M')) (D : decode cc pc = .ok (.return_, 1)) (hp : P M) : AM G E nL pc lv [] M := a_return A T0 D ⟨rfl, rfl, hp⟩
end MMR
