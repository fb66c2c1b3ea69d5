/-! the start: what the tables give, what both constructors leave -/
theorem zs_arr {A : Array Value} {s : State} {ty : FieldType} (h : (Cond.arrayClass ty).before A s = true) : ∃ c : ClassId, ArrOfT s c ty ∧ s.vm.findClass (FieldType.array ty).toString = some c := by
  obtain ⟨c, k, cc, h1, h2, h3⟩ := Cond.arrayClass_spec h
  exact ⟨c, fun n z => ⟨fun x => by simp [arrV], k, h2, cc, h3⟩, h1⟩
theorem zs_K {A : Array Value} {s : State} (hts : ∀ w ∈ lw_tbl, w.before A s = true) (b : Nat) : ∃ G : GG, KK G s ∧ G.2.2.1 = s.heap.size ∧ G.2.2.2 = b := by
  obtain ⟨c0, i0, k0⟩ := u_known (C := RX0) (T := TX0) (N := 2) (n := 2) hts (fun w hw => (tb_u0 w hw).1) (hts _ zn_X0)
  obtain ⟨c1, i1, k1⟩ := u_known (C := RX1) (T := TX1) (N := 5) (n := 5) hts (fun w hw => (tb_u1 w hw).1) (hts _ zn_X1)
  obtain ⟨c2, i2, k2⟩ := u_known (C := RX2) (T := TX2) (N := 17) (n := 17) hts (fun w hw => (tb_u2 w hw).1) (hts _ zn_X2)
  obtain ⟨c3, i3, k3⟩ := u_known (C := RX3) (T := TX3) (N := 9) (n := 9) hts (fun w hw => (tb_u3 w hw).1) (hts _ zn_X3)
  obtain ⟨c4, i4, k4⟩ := u_known (C := RX4) (T := TX4) (N := 8) (n := 8) hts (fun w hw => (tb_u4 w hw).1) (hts _ zn_X4)
  obtain ⟨c5, i5, k5⟩ := u_known (C := RX5) (T := TX5) (N := 33) (n := 33) hts (fun w hw => (tb_u5 w hw).1) (hts _ zn_X5)
  obtain ⟨a6, g6, f6⟩ := zs_arr (hts _ tb_a3)
  obtain ⟨a7, g7, f7⟩ := zs_arr (hts _ tb_a4)
  obtain ⟨a8, g8, f8⟩ := zs_arr (hts _ tb_a5)
  obtain ⟨q9, a9, w9, e9, -, x9, y9, f9⟩ := Cond.arrayOver_spec (hts _ tb_a1)
  obtain ⟨q10, a10, w10, e10, -, x10, y10, f10⟩ := arrayOverA_spec (hts _ tb_a2)
  let dC : Nat → ClassId := fun k => match k with
    | 0 => c0
    | 1 => c1
    | 2 => c2
    | 3 => c3
    | 4 => c4
    | _ => c5
  let dI : Nat → Nat → Nat := fun k => match k with
    | 0 => i0
    | 1 => i1
    | 2 => i2
    | 3 => i3
    | 4 => i4
    | _ => i5
  let dA : Nat → ClassId := fun k => match k with
    | 6 => a6
    | 7 => a7
    | 8 => a8
    | 9 => a9
    | _ => a10
  refine ⟨((dC, dI), dA, s.heap.size, b), ⟨⟨fun k q hq => ?_, fun k q hq => ?_⟩, TB.of hts⟩, rfl, rfl⟩
  · match k, hq with
    | 0, hq => cases hq; exact k0
    | 1, hq => cases hq; exact k1
    | 2, hq => cases hq; exact k2
    | 3, hq => cases hq; exact k3
    | 4, hq => cases hq; exact k4
    | 5, hq => cases hq; exact k5
    | k + 6, hq => simp [vwCl] at hq
  · match k, hq with
    | 0, hq => cases hq; exact ⟨g6, f6⟩
    | 1, hq => cases hq; exact ⟨g7, f7⟩
    | 2, hq => cases hq; exact ⟨g8, f8⟩
    | 3, hq => cases hq; exact ⟨fun n z => ⟨fun x => by simp [arrV], w9, x9, q9, y9⟩, w9, q9, x9, y9, e9, f9⟩
    | 4, hq => cases hq; exact ⟨fun n z => ⟨fun x => by simp [arrV], w10, x10, q10, y10⟩, f10⟩
    | k + 5, hq => simp [tysOf] at hq
def rI : RF := ziR5 (rZ (ziR4 (rZ (fun _ _ => none) 0)) 84)
def mI : MM := ziM5 (mZ (ziM4 (mZ (fun _ _ => 0) 0)) 84)
set_option maxRecDepth 100000 in
theorem zs_r1 : ∀ c, c < 108 → (ly c).1 < 6 → ∀ j, j < 33 → rI c j = rF c j := by decide +kernel
theorem zs_r2 : rI 2 = rF 2 := rfl
theorem zs_r27 : rI 27 = rF 27 := rfl
theorem zs_r46 : rI 46 = rF 46 := rfl
theorem zs_r59 : rI 59 = rF 59 := rfl
theorem zs_r72 : rI 72 = rF 72 := rfl
theorem zs_r14 : rI 14 = rF 14 := by
  funext j
  have e : rI 14 j = if j = 2 then some 71 else if j = 1 then some 58 else if j = 0 then some 45 else none := rfl
  rw [e]
  show _ = if j < 3 then some (45 + 13 * j) else none
  by_cases h2 : j = 2
  · subst h2; rfl
  rw [if_neg h2]
  by_cases h1 : j = 1
  · subst h1; rfl
  rw [if_neg h1]
  by_cases h0 : j = 0
  · subst h0; rfl
  rw [if_neg h0, if_neg (by omega)]
set_option maxRecDepth 100000 in
theorem zs_kinds : ∀ c, c < 108 → (ly c).1 < 6 ∨ (ly c).1 = 6 ∨ (ly c).1 = 7 ∨ (ly c).1 = 8 ∨ ((ly c).1 = 9 ∧ c = 14) ∨ ((ly c).1 = 10 ∧ (c = 2 ∨ c = 27 ∨ c = 46 ∨ c = 59 ∨ c = 72)) := by decide +kernel
theorem zs_clN : ∀ k, clN k ≤ 33 := by
  intro k
  unfold clN
  split <;> omega
theorem zs_ce (G : GG) {M : MM} : ∀ c, c < 108 → ce G rI M c = ce G rF M c := by
  intro c hc
  rcases zs_kinds c hc with h | h | h | h | ⟨h, rfl⟩ | ⟨h, h2⟩
  · rw [ce_obj (len := (ly c).2) rfl h, ce_obj (len := (ly c).2) rfl h]
    congr 2
    apply List.map_congr_left
    intro j hj
    rw [zs_r1 c hc h j (Nat.lt_of_lt_of_le (List.mem_range.mp hj) (zs_clN _))]
  · unfold ce; rw [h]; rfl
  · unfold ce; rw [h]; rfl
  · unfold ce; rw [h]; rfl
  · unfold ce; rw [zs_r14]
  · unfold ce
    rcases h2 with rfl | rfl | rfl | rfl | rfl
    · rw [zs_r2]
    · rw [zs_r27]
    · rw [zs_r46]
    · rw [zs_r59]
    · rw [zs_r72]
theorem zs_wl (G : GG) {M : MM} : wl G 108 rI M = wl G 108 rF M := by
  unfold wl
  apply List.map_congr_left
  intro k hk
  rw [zs_ce G k (List.mem_range.mp hk)]
section ZST
variable {G : GG} {E : EE} {cc : ByteArray} {nL : Nat} {own : String} {n0 d kc wc pc : Nat} {lv st : List Value} {n k w : Nat} {rf : RF} {M : MM}
theorem zs_main (kk : AW G E nL pc lv st 108 k w rF M) : AW G E nL pc lv st 108 k w rI M := by
  intro H locs ls hP hS hL
  rw [zs_wl] at hP
  exact kk H locs ls hP hS hL
variable {y : MethodName} {cy : ByteArray} {mL : Nat} {ret : Option FieldType} {na d' a ci N len ix : Nat} {T : u_T} {ty : Nat → FieldType} {As rest : List Value}
theorem l_invVi {P : Int → MM → Prop} (A : Am G E cc nL own n0 d kc wc) (hn : 108 = n0 + k) (hM : CMi G (eL E) y cy mL ret d' (.ref a :: As) M P) (hd : d' + 1 ≤ d) (I : MI y cy mL ret na) (V : MV y) (hs : CS own ix y) (C0 : CF ci y.cls T N ty) (D : decode cc pc = .ok (.invokevirtual ix, 3)) (hl : ly a = (ci, len)) (ha : a < 108) (hlen : As.length = na) (hst : st = As.reverse ++ .ref a :: rest) (hrest : (rest.map fun v => v.category).sum ≤ 8) (hk : k ≤ kc ∧ w ≤ wc)
    (kk : ∀ (z : Int) (M' : MM), P z M' → AW G E nL (pc + 3) lv (vi z :: rest) 108 k w rF M') : AW G E nL pc lv st 108 k w rF M :=
  a_invV A hn hM hd I V hs C0 hl ha hlen D hst hrest hk (fun r rf' M' h => by obtain ⟨rfl, z, rfl, h⟩ := h; exact kk z M' h)
theorem l_invVl {P : Int → MM → Prop} (A : Am G E cc nL own n0 d kc wc) (hn : 108 = n0 + k) (hM : CMl G (eL E) y cy mL ret d' (.ref a :: As) M P) (hd : d' + 1 ≤ d) (I : MI y cy mL ret na) (V : MV y) (hs : CS own ix y) (C0 : CF ci y.cls T N ty) (D : decode cc pc = .ok (.invokevirtual ix, 3)) (hl : ly a = (ci, len)) (ha : a < 108) (hlen : As.length = na) (hst : st = As.reverse ++ .ref a :: rest) (hrest : (rest.map fun v => v.category).sum ≤ 8) (hk : k ≤ kc ∧ w ≤ wc)
    (kk : ∀ (z : Int) (M' : MM), P z M' → AW G E nL (pc + 3) lv (vl z :: rest) 108 k w rF M') : AW G E nL pc lv st 108 k w rF M :=
  a_invV A hn hM hd I V hs C0 hl ha hlen D hst hrest hk (fun r rf' M' h => by obtain ⟨rfl, z, rfl, h⟩ := h; exact kk z M' h)
end ZST
