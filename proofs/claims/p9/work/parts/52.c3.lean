/-! rows of lanes, by the class: cell 16, trail 17, its gain 18, best 19, its gain 20 -/
def LXc (M : MM) (N : Nat) : Prop := ∃ k, k < N ∧ (∀ j, j < k → M 17 j = M 19 j) ∧ M 17 k < M 19 k
theorem LXc_no {M : MM} {N i : Nat} (h : ∀ j, j < i → M 17 j = M 19 j) (h2 : M 19 i < M 17 i) : ¬ LXc M N := fun ⟨k, _, hj, hlt⟩ => by
  rcases Nat.lt_trichotomy k i with c | c | c
  · have := h k c; omega
  · subst c; omega
  · have := hj i c; omega
theorem LXc_end {M : MM} {N i : Nat} (h : ∀ j, j < i → M 17 j = M 19 j) (h2 : N ≤ i) : ¬ LXc M N := fun ⟨k, hk, _, hlt⟩ => by
  have := h k (by omega); omega
def BX (u d : Int) (M : MM) (N : Nat) : Prop := 0 < u * M 20 1 - M 20 0 * d ∨ (u * M 20 1 - M 20 0 * d = 0 ∧ ((N : Int) < M 16 4 ∨ ((N : Int) = M 16 4 ∧ LXc M N)))
theorem BX_lx {u d : Int} {M : MM} {N : Nat} (h0 : u * M 20 1 - M 20 0 * d = 0) (h4 : (N : Int) = M 16 4) : BX u d M N ↔ LXc M N := ⟨fun h => by
  rcases h with h | ⟨_, h | h⟩
  · omega
  · omega
  · exact h.2, fun h => Or.inr ⟨h0, Or.inr ⟨h4, h⟩⟩⟩
theorem BX_no {u d : Int} {M : MM} {N : Nat} (h0 : u * M 20 1 - M 20 0 * d < 0 ∨ (u * M 20 1 - M 20 0 * d = 0 ∧ M 16 4 < (N : Int))) : ¬ BX u d M N := fun h => by
  rcases h with h | ⟨h1, h | h⟩
  · omega
  · omega
  · omega
set_option maxRecDepth 100000 in
set_option maxHeartbeats 4000000 in
theorem c_X3_begin (G : GG) (l : Launch) (g : Int) (M : MM) (hg : g = 0 ∨ g = 1) : CMv G l yX3_begin cX3_begin 2 none 1 [.ref 16, vi g] M (fun M' => M' = up2 (up2 (up2 (up2 M 16 6 g) 16 4 0) 16 7 0) 16 8 0) := by
  refine CT.intro (by decide) (Nat.le_of_ble_eq_true rfl) (fun E hE A T0 => ?_)
  subst hE
  refine a_aload_n (z := 16) A dX3_begin_0 rfl ?_
  refine a_iload_n (z := g) A dX3_begin_1 rfl ?_
  refine pf_X3_35 A dX3_begin_2 rfl (by decide) (by omega) ?_
  refine a_aload_n (z := 16) A dX3_begin_5 rfl ?_
  refine a_iconst A dX3_begin_6 ?_
  refine pf_X3_28 A dX3_begin_7 rfl (by decide) ?_
  refine a_aload_n (z := 16) A dX3_begin_10 rfl ?_
  refine a_iconst A dX3_begin_11 ?_
  refine pf_X3_39 A dX3_begin_12 rfl (by decide) ?_
  refine a_aload_n (z := 16) A dX3_begin_15 rfl ?_
  refine a_iconst A dX3_begin_16 ?_
  refine pf_X3_42 A dX3_begin_17 rfl (by decide) ?_
  exact m_return A T0 dX3_begin_20 (by rfl)
set_option maxRecDepth 100000 in
set_option maxHeartbeats 4000000 in
theorem tb_loop3 {G : GG} {E : EE} {P : Int → MM → Prop} (A : AmM G E cX3_trailIsBetter 5 yX3_trailIsBetter.cls 2) (T0 : RT E G yX3_trailIsBetter 108 0 0 (some .boolean) (fun r rf' M' => rf' = rF ∧ ∃ z, r = some (vi z) ∧ P z M')) (N : Nat) (od : Int) (M : MM) (hN : N ≤ 4) (h17 : ∀ k, k < N → I32 (M 17 k)) (h19 : ∀ k, k < N → I32 (M 19 k)) (hp1 : LXc M N → P 1 M) (hp0 : ¬ LXc M N → P 0 M) : ∀ (n : Nat) (i : Nat), N - i < n → i ≤ N → (∀ j, j < i → M 17 j = M 19 j) → AM G E 5 55 [.ref 16, vi (N : Int), vl od, jk, vi (i : Int)] [] M := by
  intro n
  induction n with
  | zero => intro i hn hi heq; exfalso; omega
  | succ n ih =>
    intro i hn hi heq
    have h17i : i < N → I32 (M 17 i) := h17 i
    have h19i : i < N → I32 (M 19 i) := h19 i
    refine a_iload (z := (i : Int)) A dX3_trailIsBetter_55 rfl ?_
    refine a_iload_n (z := (N : Int)) A dX3_trailIsBetter_57 rfl ?_
    refine a_icmp_ge (tgt := 107) A dX3_trailIsBetter_58 (by decide) (by omega) (by omega) (fun h58 => ?_) (fun h58 => ?_)
    · refine a_iconst A dX3_trailIsBetter_107 ?_
      exact m_zreturn A T0 dX3_trailIsBetter_108 (by first | exact Or.inl rfl | exact Or.inr rfl | omega) (hp0 (LXc_end heq (by omega)))
    · refine a_aload_n (z := 16) A dX3_trailIsBetter_61 rfl ?_
      refine gf_X3_9 (r := 17) A dX3_trailIsBetter_62 rfl (by decide) rfl ?_
      refine a_iload (z := (i : Int)) A dX3_trailIsBetter_65 rfl ?_
      refine a_iaload (i := (i : Int)) (x := M 17 i) A dX3_trailIsBetter_67 rfl (by decide) (by decide) (by omega) rfl ?_
      refine a_aload_n (z := 16) A dX3_trailIsBetter_68 rfl ?_
      refine gf_X3_22 (r := 19) A dX3_trailIsBetter_69 rfl (by decide) rfl ?_
      refine a_iload (z := (i : Int)) A dX3_trailIsBetter_72 rfl ?_
      refine a_iaload (i := (i : Int)) (x := M 19 i) A dX3_trailIsBetter_74 rfl (by decide) (by decide) (by omega) rfl ?_
      refine a_icmp_eq (tgt := 101) A dX3_trailIsBetter_75 (by decide) (by omega) (by omega) (fun h75 => ?_) (fun h75 => ?_)
      · refine a_iinc (z := (i : Int)) (lv' := [.ref 16, vi (N : Int), vl od, jk, vi ((i : Int) + 1)]) A dX3_trailIsBetter_101 rfl (by decide) rfl ?_
        refine a_goto (tgt := 55) A dX3_trailIsBetter_104 (by decide) ?_
        exact ih (i + 1) (by omega) (by omega) (lt_s heq (by omega))
      · refine a_aload_n (z := 16) A dX3_trailIsBetter_78 rfl ?_
        refine gf_X3_9 (r := 17) A dX3_trailIsBetter_79 rfl (by decide) rfl ?_
        refine a_iload (z := (i : Int)) A dX3_trailIsBetter_82 rfl ?_
        refine a_iaload (i := (i : Int)) (x := M 17 i) A dX3_trailIsBetter_84 rfl (by decide) (by decide) (by omega) rfl ?_
        refine a_aload_n (z := 16) A dX3_trailIsBetter_85 rfl ?_
        refine gf_X3_22 (r := 19) A dX3_trailIsBetter_86 rfl (by decide) rfl ?_
        refine a_iload (z := (i : Int)) A dX3_trailIsBetter_89 rfl ?_
        refine a_iaload (i := (i : Int)) (x := M 19 i) A dX3_trailIsBetter_91 rfl (by decide) (by decide) (by omega) rfl ?_
        refine a_icmp_ge (tgt := 99) A dX3_trailIsBetter_92 (by decide) (by omega) (by omega) (fun h92 => ?_) (fun h92 => ?_)
        · refine a_iconst A dX3_trailIsBetter_99 ?_
          exact m_zreturn A T0 dX3_trailIsBetter_100 (by first | exact Or.inl rfl | exact Or.inr rfl | omega) (by first | exact hp1 ⟨i, by omega, heq, by omega⟩ | exact hp0 (LXc_no heq (by omega)))
        · refine a_iconst A dX3_trailIsBetter_95 ?_
          refine a_goto (tgt := 100) A dX3_trailIsBetter_96 (by decide) ?_
          exact m_zreturn A T0 dX3_trailIsBetter_100 (by first | exact Or.inl rfl | exact Or.inr rfl | omega) (by first | exact hp1 ⟨i, by omega, heq, by omega⟩ | exact hp0 (LXc_no heq (by omega)))
set_option maxRecDepth 100000 in
set_option maxHeartbeats 4000000 in
theorem c_X3_trailIsBetter (G : GG) (l : Launch) (N : Nat) (M : MM) (hN : 1 ≤ N ∧ N ≤ 4) (h17 : ∀ k, k < N → I32 (M 17 k)) (h19 : ∀ k : Nat, (k : Int) < M 16 4 → I32 (M 19 k)) (h4 : I32 (M 16 4)) (ho : -9223372036854775808 < M 18 0 * M 20 1 - M 20 0 * M 18 1 ∧ M 18 0 * M 20 1 - M 20 0 * M 18 1 < 9223372036854775808) : CMi G l yX3_trailIsBetter cX3_trailIsBetter 5 (some .boolean) 2 [.ref 16, vi (N : Int)] M (fun z M' => M' = M ∧ ((z = 1 ∧ BX (M 18 0) (M 18 1) M N) ∨ (z = 0 ∧ ¬ BX (M 18 0) (M 18 1) M N))) := by
  refine CT.intro (by decide) (Nat.le_of_ble_eq_true rfl) (fun E hE A T0 => ?_)
  subst hE
  refine a_aload_n (z := 16) A dX3_trailIsBetter_0 rfl ?_
  refine gf_X3_18 (r := 18) A dX3_trailIsBetter_1 rfl (by decide) rfl ?_
  refine a_aload_n (z := 16) A dX3_trailIsBetter_4 rfl ?_
  refine gf_X3_25 (r := 20) A dX3_trailIsBetter_5 rfl (by decide) rfl ?_
  refine m_invVl A (c_X0_compareWith G _ 18 20 M rfl (by decide) rfl (by decide)) (by decide) mi_X0_compareWith mv_X0_compareWith cs_X3_87 cf0 dX3_trailIsBetter_8 rfl (by decide) rfl rfl (Nat.le_of_ble_eq_true rfl) (fun z8 M8 h8 => ?_)
  obtain ⟨e8, rfl⟩ := h8
  have e8 := e8.symm
  subst e8
  refine a_lstore_n (lv' := [.ref 16, vi (N : Int), vl (M 18 0 * M 20 1 - M 20 0 * M 18 1), jk, jk]) A dX3_trailIsBetter_11 (by decide) rfl ?_
  refine a_lload_n (z := (M 18 0 * M 20 1 - M 20 0 * M 18 1)) A dX3_trailIsBetter_12 rfl ?_
  refine a_lconst0 A dX3_trailIsBetter_13 ?_
  refine a_lcmp_eq (tgt := 30) A dX3_trailIsBetter_14 dX3_trailIsBetter_15 (by decide) (by omega) (by omega) (fun h14 => ?_) (fun h14 => ?_)
  · refine a_iload_n (z := (N : Int)) A dX3_trailIsBetter_30 rfl ?_
    refine a_aload_n (z := 16) A dX3_trailIsBetter_31 rfl ?_
    refine gf_X3_28 (x := M 16 4) A dX3_trailIsBetter_32 rfl (by decide) rfl ?_
    refine a_icmp_eq (tgt := 52) A dX3_trailIsBetter_35 (by decide) (by omega) (by omega) (fun h35 => ?_) (fun h35 => ?_)
    · refine a_iconst A dX3_trailIsBetter_52 ?_
      refine a_istore (lv' := [.ref 16, vi (N : Int), vl (M 18 0 * M 20 1 - M 20 0 * M 18 1), jk, vi 0]) A dX3_trailIsBetter_53 (by decide) rfl ?_
      have hq := BX_lx (u := M 18 0) (d := M 18 1) (M := M) (N := N) (by omega) (by omega)
      exact tb_loop3 A T0 N _ M (by omega) h17 (fun k hk => h19 k (by omega)) (fun q => ⟨rfl, Or.inl ⟨rfl, hq.mpr q⟩⟩) (fun q => ⟨rfl, Or.inr ⟨rfl, fun w => q (hq.mp w)⟩⟩) (N + 1) 0 (by omega) (by omega) (fun j hj => absurd hj (Nat.not_lt_zero _))
    · refine a_iload_n (z := (N : Int)) A dX3_trailIsBetter_38 rfl ?_
      refine a_aload_n (z := 16) A dX3_trailIsBetter_39 rfl ?_
      refine gf_X3_28 (x := M 16 4) A dX3_trailIsBetter_40 rfl (by decide) rfl ?_
      refine a_icmp_ge (tgt := 50) A dX3_trailIsBetter_43 (by decide) (by omega) (by omega) (fun h43 => ?_) (fun h43 => ?_)
      · refine a_iconst A dX3_trailIsBetter_50 ?_
        exact m_zreturn A T0 dX3_trailIsBetter_51 (by first | exact Or.inl rfl | exact Or.inr rfl | omega) (by first | exact ⟨rfl, Or.inl ⟨rfl, Or.inl (by omega)⟩⟩ | exact ⟨rfl, Or.inl ⟨rfl, Or.inr ⟨by omega, Or.inl (by omega)⟩⟩⟩ | exact ⟨rfl, Or.inr ⟨rfl, BX_no (by omega)⟩⟩)
      · refine a_iconst A dX3_trailIsBetter_46 ?_
        refine a_goto (tgt := 51) A dX3_trailIsBetter_47 (by decide) ?_
        exact m_zreturn A T0 dX3_trailIsBetter_51 (by first | exact Or.inl rfl | exact Or.inr rfl | omega) (by first | exact ⟨rfl, Or.inl ⟨rfl, Or.inl (by omega)⟩⟩ | exact ⟨rfl, Or.inl ⟨rfl, Or.inr ⟨by omega, Or.inl (by omega)⟩⟩⟩ | exact ⟨rfl, Or.inr ⟨rfl, BX_no (by omega)⟩⟩)
  · refine a_lload_n (z := (M 18 0 * M 20 1 - M 20 0 * M 18 1)) A dX3_trailIsBetter_18 rfl ?_
    refine a_lconst0 A dX3_trailIsBetter_19 ?_
    refine a_lcmp_le (tgt := 28) A dX3_trailIsBetter_20 dX3_trailIsBetter_21 (by decide) (by omega) (by omega) (fun h20 => ?_) (fun h20 => ?_)
    · refine a_iconst A dX3_trailIsBetter_28 ?_
      exact m_zreturn A T0 dX3_trailIsBetter_29 (by first | exact Or.inl rfl | exact Or.inr rfl | omega) (by first | exact ⟨rfl, Or.inl ⟨rfl, Or.inl (by omega)⟩⟩ | exact ⟨rfl, Or.inl ⟨rfl, Or.inr ⟨by omega, Or.inl (by omega)⟩⟩⟩ | exact ⟨rfl, Or.inr ⟨rfl, BX_no (by omega)⟩⟩)
    · refine a_iconst A dX3_trailIsBetter_24 ?_
      refine a_goto (tgt := 29) A dX3_trailIsBetter_25 (by decide) ?_
      exact m_zreturn A T0 dX3_trailIsBetter_29 (by first | exact Or.inl rfl | exact Or.inr rfl | omega) (by first | exact ⟨rfl, Or.inl ⟨rfl, Or.inl (by omega)⟩⟩ | exact ⟨rfl, Or.inl ⟨rfl, Or.inr ⟨by omega, Or.inl (by omega)⟩⟩⟩ | exact ⟨rfl, Or.inr ⟨rfl, BX_no (by omega)⟩⟩)
def FC (M0 M : MM) : Prop := ∀ c, c < 16 ∨ 20 < c → M c = M0 c
theorem FC.rf (M : MM) : FC M M := fun _ _ => rfl
theorem FC.up {M0 M : MM} (h : FC M0 M) {c : Nat} (hc : 16 ≤ c ∧ c ≤ 20) (j : Nat) (x : Int) : FC M0 (up2 M c j x) := fun c' h' => by rw [up2_ne _ _ _ _ (by omega)]; exact h c' h'
theorem FC.cp {M0 M : MM} (h : FC M0 M) (n : Nat) : FC M0 (cp2 M 17 19 n) := fun c' h' => by
  have e : cp2 M 17 19 n c' = M c' := if_neg (by omega)
  rw [e]; exact h c' h'
theorem CL.fc {M0 M : MM} (h : ∀ c, c < 14 → M c = M0 c) {i : Nat} (hi : i < 10) (hl : CL M0 i) : CL M i := by
  unfold CL at hl ⊢
  rw [h 1 (by omega), h (3 + i) (by omega)]
  exact hl
theorem CW.fz {M0 M : MM} (h : ∀ c, c < 14 → M c = M0 c) (hw : CW M0) : CW M := by
  have h1 := h 1 (by omega)
  refine ⟨by rw [h1]; exact hw.1, by rw [h1]; exact hw.2.1, fun i hi => ?_⟩
  rw [h1] at hi
  exact CL.fc h (by have := hw.2.1; omega) (hw.2.2 i hi)
theorem FC.cw {M0 M : MM} (h : FC M0 M) (hw : CW M0) : CW M := CW.fz (fun c hc => h c (by omega)) hw
theorem prodZ_cg {f g : Nat → Int} {n : Nat} (h : ∀ k, k < n → f k = g k) : prodZ f n = prodZ g n := by
  induction n with
  | zero => rfl
  | succ n ih => show prodZ f n * f n = prodZ g n * g n; rw [ih (fun k hk => h k (by omega)), h n (by omega)]
theorem cU_cg {M0 M : MM} {r r0 N : Nat} (hf : ∀ c, c < 14 → M c = M0 c) (hw : CW M0) (hr : RW M0 r0 N) (he : ∀ k, k < N → M r k = M0 r0 k) : cU M r N = cU M0 r0 N ∧ cD M r N = cD M0 r0 N :=
  ⟨prodZ_cg (fun k hk => by have h1 := hr k hk; have h2 := hw.2.1; show M (3 + (M r k).toNat) 3 = _; rw [he k hk, hf _ (by omega)]), prodZ_cg (fun k hk => by have h1 := hr k hk; have h2 := hw.2.1; show M (3 + (M r k).toNat) 4 = _; rw [he k hk, hf _ (by omega)])⟩
def BKc (M : MM) : Prop := (0 ≤ M 16 4 ∧ M 16 4 ≤ 4) ∧ (∀ k : Nat, (k : Int) < M 16 4 → 0 ≤ M 19 k ∧ M 19 k < M 1 1) ∧ (M 16 4 ≠ 0 → (0 ≤ M 20 0 ∧ M 20 0 ≤ 59049) ∧ (0 ≤ M 20 1 ∧ M 20 1 ≤ 59049))
abbrev tU (M : MM) (N : Nat) : Int := nU (cU M 17 N) (cD M 17 N)
abbrev tD (M : MM) (N : Nat) : Int := nD (cU M 17 N) (cD M 17 N)
def wgA (M : MM) (N : Nat) : MM := up2 (up2 (up2 M 18 0 (tU M N)) 18 1 (tD M N)) 16 7 (M 16 7 + 1)
noncomputable def wgT (M : MM) (N : Nat) (X : MM) : MM := cif (M 16 4 = 0 ∨ BX (tU M N) (tD M N) M N) (up2 (up2 (up2 (cp2 X 17 19 N) 20 0 (tU M N)) 20 1 (tD M N)) 16 4 N) X
noncomputable def wgM (M : MM) (N : Nat) : MM := cif (tD M N < tU M N) (wgT M N (up2 (wgA M N) 16 8 (M 16 8 + 1))) (cif (M 16 6 ≠ 0) (wgA M N) (wgT M N (wgA M N)))
theorem ord_bd {a b c d : Int} (ha : 0 ≤ a ∧ a ≤ 59049) (hb : 0 ≤ b ∧ b ≤ 59049) (hc : 0 ≤ c ∧ c ≤ 59049) (hd : 0 ≤ d ∧ d ≤ 59049) : -9223372036854775808 < a * b - c * d ∧ a * b - c * d < 9223372036854775808 := by
  have h1 := mul_bd ha hb
  have h2 := mul_bd hc hd
  omega
theorem t_bd {M : MM} (hW : CW M) {N : Nat} (hN : N ≤ 4) (hr : RW M 17 N) : (0 ≤ tU M N ∧ tU M N ≤ 59049) ∧ (0 < tD M N ∧ tD M N ≤ 59049) := by
  have h := cU_bd hW hN hr
  have h1 := nU_bd (a := cU M 17 N) (b := cD M 17 N) (by omega) (by omega)
  have h2 := nD_bd (a := cU M 17 N) (b := cD M 17 N) (by omega)
  exact ⟨⟨h1.1, Int.le_trans h1.2 h.1.2⟩, ⟨h2.1, Int.le_trans h2.2 h.2.2⟩⟩
set_option maxRecDepth 100000 in
set_option maxHeartbeats 4000000 in
theorem c_X3_weigh (G : GG) (l : Launch) (N : Nat) (M : MM) (hN : 1 ≤ N ∧ N ≤ 4) (hW : CW M) (hr : RW M 17 N) (hbk : BKc M) (h6 : M 16 6 = 0 ∨ M 16 6 = 1) : CMv G l yX3_weigh cX3_weigh 3 none 4 [.ref 16, .ref 1, vi (N : Int)] M (fun M' => M' = wgM M N) := by
  refine CT.intro (by decide) (Nat.le_of_ble_eq_true rfl) (fun E hE A T0 => ?_)
  subst hE
  have htb := t_bd hW hN.2 hr
  have hL := hW.2.1
  have hb4 := hbk.1
  have hI17 : ∀ k, k < N → I32 (M 17 k) := fun k hk => by have := hr k hk; omega
  have hI19 : ∀ k : Nat, (k : Int) < M 16 4 → I32 (M 19 k) := fun k hk => by have := hbk.2.1 k hk; omega
  refine a_aload_n (z := 1) A dX3_weigh_0 rfl ?_
  refine a_aload_n (z := 16) A dX3_weigh_1 rfl ?_
  refine gf_X3_9 (r := 17) A dX3_weigh_2 rfl (by decide) rfl ?_
  refine a_iload_n (z := (N : Int)) A dX3_weigh_5 rfl ?_
  refine a_aload_n (z := 16) A dX3_weigh_6 rfl ?_
  refine gf_X3_18 (r := 18) A dX3_weigh_7 rfl (by decide) rfl ?_
  refine m_invVv A (c_X1_multiplyShares G _ 17 N 18 M rfl (by decide) rfl (by decide) hN.2 hW hr) (by decide) mi_X1_multiplyShares mv_X1_multiplyShares cs_X3_69 cf1 dX3_weigh_10 rfl (by decide) rfl rfl (Nat.le_of_ble_eq_true rfl) (fun M10 h10 => ?_)
  have h10 := h10.symm
  subst h10
  refine a_aload_n (z := 16) A dX3_weigh_13 rfl ?_
  refine a_dup A dX3_weigh_14 rfl ?_
  refine gf_X3_39 (x := M 16 7) A dX3_weigh_15 rfl (by decide) rfl ?_
  refine a_iconst A dX3_weigh_18 ?_
  refine a_iadd (x := (M 16 7)) (y := 1) A dX3_weigh_19 ?_
  refine pf_X3_39 A dX3_weigh_20 rfl (by decide) ?_
  refine a_aload_n (z := 16) A dX3_weigh_23 rfl ?_
  refine gf_X3_18 (r := 18) A dX3_weigh_24 rfl (by decide) rfl ?_
  refine m_invVi A (c_X0_isAboveOne G _ 18 (up2 (up2 (up2 M 18 0 (tU M N)) 18 1 (tD M N)) 16 7 ((M 16 7) + 1)) rfl (by decide) (show I64 (tU M N) by omega) (show I64 (tD M N) by omega)) (by decide) mi_X0_isAboveOne mv_X0_isAboveOne cs_X3_73 cf0 dX3_weigh_27 rfl (by decide) rfl rfl (Nat.le_of_ble_eq_true rfl) (fun z27 M27 h27 => ?_)
  obtain ⟨e27, hc27⟩ := h27
  have e27 := e27.symm
  subst e27
  have hc27 : (z27 = 1 ∧ tD M N < tU M N) ∨ (z27 = 0 ∧ tU M N ≤ tD M N) := hc27
  refine a_if_eq (tgt := 46) A dX3_weigh_30 (by decide) (by omega) (fun h30 => ?_) (fun h30 => ?_)
  · refine a_aload_n (z := 16) A dX3_weigh_46 rfl ?_
    refine gf_X3_35 (x := M 16 6) A dX3_weigh_47 rfl (by decide) rfl ?_
    refine a_if_eq (tgt := 54) A dX3_weigh_50 (by decide) (by omega) (fun h50 => ?_) (fun h50 => ?_)
    · refine a_aload_n (z := 16) A dX3_weigh_54 rfl ?_
      refine gf_X3_28 (x := M 16 4) A dX3_weigh_55 rfl (by decide) rfl ?_
      refine a_if_eq (tgt := 69) A dX3_weigh_58 (by decide) (by omega) (fun h58 => ?_) (fun h58 => ?_)
      · refine a_aload_n (z := 16) A dX3_weigh_69 rfl ?_
        refine gf_X3_9 (r := 17) A dX3_weigh_70 rfl (by decide) rfl ?_
        refine a_iconst A dX3_weigh_73 ?_
        refine a_aload_n (z := 16) A dX3_weigh_74 rfl ?_
        refine gf_X3_22 (r := 19) A dX3_weigh_75 rfl (by decide) rfl ?_
        refine a_iconst A dX3_weigh_78 ?_
        refine a_iload_n (z := (N : Int)) A dX3_weigh_79 rfl ?_
        refine a_copy (m := (N : Int)) A cj_X3_81 j_cp1 j_cp2 j_sys dX3_weigh_80 (by decide) (Nat.le_of_ble_eq_true rfl) rfl (by decide) rfl (by decide) (by omega) ?_
        have hf83 : FC M (cp2 (up2 (up2 (up2 M 18 0 (tU M N)) 18 1 (tD M N)) 16 7 ((M 16 7) + 1)) 17 19 N) := (((((FC.rf M).up (by omega) _ _).up (by omega) _ _).up (by omega) _ _).cp N)
        have he83 : ∀ k, k < N → (cp2 (up2 (up2 (up2 M 18 0 (tU M N)) 18 1 (tD M N)) 16 7 ((M 16 7) + 1)) 17 19 N) 19 k = M 17 k := fun k hk => if_pos hk
        have hr83 : RW (cp2 (up2 (up2 (up2 M 18 0 (tU M N)) 18 1 (tD M N)) 16 7 ((M 16 7) + 1)) 17 19 N) 19 N := fun k hk => by rw [he83 k hk]; exact hr k hk
        refine a_aload_n (z := 1) A dX3_weigh_83 rfl ?_
        refine a_aload_n (z := 16) A dX3_weigh_84 rfl ?_
        refine gf_X3_22 (r := 19) A dX3_weigh_85 rfl (by decide) rfl ?_
        refine a_iload_n (z := (N : Int)) A dX3_weigh_88 rfl ?_
        refine a_aload_n (z := 16) A dX3_weigh_89 rfl ?_
        refine gf_X3_25 (r := 20) A dX3_weigh_90 rfl (by decide) rfl ?_
        refine m_invVv A (c_X1_multiplyShares G _ 19 N 20 (cp2 (up2 (up2 (up2 M 18 0 (tU M N)) 18 1 (tD M N)) 16 7 ((M 16 7) + 1)) 17 19 N) rfl (by decide) rfl (by decide) hN.2 (hf83.cw hW) hr83) (by decide) mi_X1_multiplyShares mv_X1_multiplyShares cs_X3_69 cf1 dX3_weigh_93 rfl (by decide) rfl rfl (Nat.le_of_ble_eq_true rfl) (fun M93 h93 => ?_)
        have hcg := cU_cg (fun c hc => hf83 c (by omega)) hW hr he83
        rw [hcg.1, hcg.2] at h93
        have h93 := h93.symm
        subst h93
        refine a_aload_n (z := 16) A dX3_weigh_96 rfl ?_
        refine a_iload_n (z := (N : Int)) A dX3_weigh_97 rfl ?_
        refine pf_X3_28 A dX3_weigh_98 rfl (by decide) ?_
        exact m_return A T0 dX3_weigh_101 (by first | (show _ = wgM M N; rw [wgM, cif_t (show tD M N < tU M N by omega), wgT, cif_t (Or.inl (by omega))]; rfl) | (show _ = wgM M N; rw [wgM, cif_t (show tD M N < tU M N by omega), wgT, cif_t (Or.inr (hb1 h66))]; rfl) | (show _ = wgM M N; rw [wgM, cif_t (show tD M N < tU M N by omega), wgT, cif_f (fun q => q.elim h58 (hb0 h66))]; rfl) | (show _ = wgM M N; rw [wgM, cif_f (show ¬ tD M N < tU M N by omega), cif_f (show ¬ M 16 6 ≠ 0 by omega), wgT, cif_t (Or.inl (by omega))]; rfl) | (show _ = wgM M N; rw [wgM, cif_f (show ¬ tD M N < tU M N by omega), cif_f (show ¬ M 16 6 ≠ 0 by omega), wgT, cif_t (Or.inr (hb1 h66))]; rfl) | (show _ = wgM M N; rw [wgM, cif_f (show ¬ tD M N < tU M N by omega), cif_f (show ¬ M 16 6 ≠ 0 by omega), wgT, cif_f (fun q => q.elim h58 (hb0 h66))]; rfl))
      · refine a_aload_n (z := 16) A dX3_weigh_61 rfl ?_
        refine a_iload_n (z := (N : Int)) A dX3_weigh_62 rfl ?_
        refine m_invVi A (c_X3_trailIsBetter G _ N (up2 (up2 (up2 M 18 0 (tU M N)) 18 1 (tD M N)) 16 7 ((M 16 7) + 1)) hN (fun k hk => hI17 k hk) (fun k hk => hI19 k hk) (show I32 (M 16 4) by omega) (ord_bd htb.1 (hbk.2.2 h58).2 (hbk.2.2 h58).1 ⟨Int.le_of_lt htb.2.1, htb.2.2⟩)) (by decide) mi_X3_trailIsBetter mv_X3_trailIsBetter cs_X3_77 cf3 dX3_weigh_63 rfl (by decide) rfl rfl (Nat.le_of_ble_eq_true rfl) (fun z63 M63 h63 => ?_)
        obtain ⟨e63, hc63⟩ := h63
        have e63 := e63.symm
        subst e63
        have hc63 : (z63 = 1 ∧ BX (tU M N) (tD M N) M N) ∨ (z63 = 0 ∧ ¬ BX (tU M N) (tD M N) M N) := hc63
        have hb1 : z63 ≠ 0 → BX (tU M N) (tD M N) M N := fun q => hc63.elim (fun w => w.2) (fun w => absurd w.1 q)
        have hb0 : z63 = 0 → ¬ BX (tU M N) (tD M N) M N := fun q => hc63.elim (fun w => by omega) (fun w => w.2)
        refine a_if_eq (tgt := 101) A dX3_weigh_66 (by decide) (by omega) (fun h66 => ?_) (fun h66 => ?_)
        · exact m_return A T0 dX3_weigh_101 (by first | (show _ = wgM M N; rw [wgM, cif_t (show tD M N < tU M N by omega), wgT, cif_t (Or.inl (by omega))]; rfl) | (show _ = wgM M N; rw [wgM, cif_t (show tD M N < tU M N by omega), wgT, cif_t (Or.inr (hb1 h66))]; rfl) | (show _ = wgM M N; rw [wgM, cif_t (show tD M N < tU M N by omega), wgT, cif_f (fun q => q.elim h58 (hb0 h66))]; rfl) | (show _ = wgM M N; rw [wgM, cif_f (show ¬ tD M N < tU M N by omega), cif_f (show ¬ M 16 6 ≠ 0 by omega), wgT, cif_t (Or.inl (by omega))]; rfl) | (show _ = wgM M N; rw [wgM, cif_f (show ¬ tD M N < tU M N by omega), cif_f (show ¬ M 16 6 ≠ 0 by omega), wgT, cif_t (Or.inr (hb1 h66))]; rfl) | (show _ = wgM M N; rw [wgM, cif_f (show ¬ tD M N < tU M N by omega), cif_f (show ¬ M 16 6 ≠ 0 by omega), wgT, cif_f (fun q => q.elim h58 (hb0 h66))]; rfl))
        · refine a_aload_n (z := 16) A dX3_weigh_69 rfl ?_
          refine gf_X3_9 (r := 17) A dX3_weigh_70 rfl (by decide) rfl ?_
          refine a_iconst A dX3_weigh_73 ?_
          refine a_aload_n (z := 16) A dX3_weigh_74 rfl ?_
          refine gf_X3_22 (r := 19) A dX3_weigh_75 rfl (by decide) rfl ?_
          refine a_iconst A dX3_weigh_78 ?_
          refine a_iload_n (z := (N : Int)) A dX3_weigh_79 rfl ?_
          refine a_copy (m := (N : Int)) A cj_X3_81 j_cp1 j_cp2 j_sys dX3_weigh_80 (by decide) (Nat.le_of_ble_eq_true rfl) rfl (by decide) rfl (by decide) (by omega) ?_
          have hf83 : FC M (cp2 (up2 (up2 (up2 M 18 0 (tU M N)) 18 1 (tD M N)) 16 7 ((M 16 7) + 1)) 17 19 N) := (((((FC.rf M).up (by omega) _ _).up (by omega) _ _).up (by omega) _ _).cp N)
          have he83 : ∀ k, k < N → (cp2 (up2 (up2 (up2 M 18 0 (tU M N)) 18 1 (tD M N)) 16 7 ((M 16 7) + 1)) 17 19 N) 19 k = M 17 k := fun k hk => if_pos hk
          have hr83 : RW (cp2 (up2 (up2 (up2 M 18 0 (tU M N)) 18 1 (tD M N)) 16 7 ((M 16 7) + 1)) 17 19 N) 19 N := fun k hk => by rw [he83 k hk]; exact hr k hk
          refine a_aload_n (z := 1) A dX3_weigh_83 rfl ?_
          refine a_aload_n (z := 16) A dX3_weigh_84 rfl ?_
          refine gf_X3_22 (r := 19) A dX3_weigh_85 rfl (by decide) rfl ?_
          refine a_iload_n (z := (N : Int)) A dX3_weigh_88 rfl ?_
          refine a_aload_n (z := 16) A dX3_weigh_89 rfl ?_
          refine gf_X3_25 (r := 20) A dX3_weigh_90 rfl (by decide) rfl ?_
          refine m_invVv A (c_X1_multiplyShares G _ 19 N 20 (cp2 (up2 (up2 (up2 M 18 0 (tU M N)) 18 1 (tD M N)) 16 7 ((M 16 7) + 1)) 17 19 N) rfl (by decide) rfl (by decide) hN.2 (hf83.cw hW) hr83) (by decide) mi_X1_multiplyShares mv_X1_multiplyShares cs_X3_69 cf1 dX3_weigh_93 rfl (by decide) rfl rfl (Nat.le_of_ble_eq_true rfl) (fun M93 h93 => ?_)
          have hcg := cU_cg (fun c hc => hf83 c (by omega)) hW hr he83
          rw [hcg.1, hcg.2] at h93
          have h93 := h93.symm
          subst h93
          refine a_aload_n (z := 16) A dX3_weigh_96 rfl ?_
          refine a_iload_n (z := (N : Int)) A dX3_weigh_97 rfl ?_
          refine pf_X3_28 A dX3_weigh_98 rfl (by decide) ?_
          exact m_return A T0 dX3_weigh_101 (by first | (show _ = wgM M N; rw [wgM, cif_t (show tD M N < tU M N by omega), wgT, cif_t (Or.inl (by omega))]; rfl) | (show _ = wgM M N; rw [wgM, cif_t (show tD M N < tU M N by omega), wgT, cif_t (Or.inr (hb1 h66))]; rfl) | (show _ = wgM M N; rw [wgM, cif_t (show tD M N < tU M N by omega), wgT, cif_f (fun q => q.elim h58 (hb0 h66))]; rfl) | (show _ = wgM M N; rw [wgM, cif_f (show ¬ tD M N < tU M N by omega), cif_f (show ¬ M 16 6 ≠ 0 by omega), wgT, cif_t (Or.inl (by omega))]; rfl) | (show _ = wgM M N; rw [wgM, cif_f (show ¬ tD M N < tU M N by omega), cif_f (show ¬ M 16 6 ≠ 0 by omega), wgT, cif_t (Or.inr (hb1 h66))]; rfl) | (show _ = wgM M N; rw [wgM, cif_f (show ¬ tD M N < tU M N by omega), cif_f (show ¬ M 16 6 ≠ 0 by omega), wgT, cif_f (fun q => q.elim h58 (hb0 h66))]; rfl))
    · exact m_return A T0 dX3_weigh_53 (by show _ = wgM M N; rw [wgM, cif_f (show ¬ tD M N < tU M N by omega), cif_t h50]; rfl)
  · refine a_aload_n (z := 16) A dX3_weigh_33 rfl ?_
    refine a_dup A dX3_weigh_34 rfl ?_
    refine gf_X3_42 (x := M 16 8) A dX3_weigh_35 rfl (by decide) rfl ?_
    refine a_iconst A dX3_weigh_38 ?_
    refine a_iadd (x := (M 16 8)) (y := 1) A dX3_weigh_39 ?_
    refine pf_X3_42 A dX3_weigh_40 rfl (by decide) ?_
    refine a_goto (tgt := 54) A dX3_weigh_43 (by decide) ?_
    refine a_aload_n (z := 16) A dX3_weigh_54 rfl ?_
    refine gf_X3_28 (x := M 16 4) A dX3_weigh_55 rfl (by decide) rfl ?_
    refine a_if_eq (tgt := 69) A dX3_weigh_58 (by decide) (by omega) (fun h58 => ?_) (fun h58 => ?_)
    · refine a_aload_n (z := 16) A dX3_weigh_69 rfl ?_
      refine gf_X3_9 (r := 17) A dX3_weigh_70 rfl (by decide) rfl ?_
      refine a_iconst A dX3_weigh_73 ?_
      refine a_aload_n (z := 16) A dX3_weigh_74 rfl ?_
      refine gf_X3_22 (r := 19) A dX3_weigh_75 rfl (by decide) rfl ?_
      refine a_iconst A dX3_weigh_78 ?_
      refine a_iload_n (z := (N : Int)) A dX3_weigh_79 rfl ?_
      refine a_copy (m := (N : Int)) A cj_X3_81 j_cp1 j_cp2 j_sys dX3_weigh_80 (by decide) (Nat.le_of_ble_eq_true rfl) rfl (by decide) rfl (by decide) (by omega) ?_
      have hf83 : FC M (cp2 (up2 (up2 (up2 (up2 M 18 0 (tU M N)) 18 1 (tD M N)) 16 7 ((M 16 7) + 1)) 16 8 ((M 16 8) + 1)) 17 19 N) := ((((((FC.rf M).up (by omega) _ _).up (by omega) _ _).up (by omega) _ _).up (by omega) _ _).cp N)
      have he83 : ∀ k, k < N → (cp2 (up2 (up2 (up2 (up2 M 18 0 (tU M N)) 18 1 (tD M N)) 16 7 ((M 16 7) + 1)) 16 8 ((M 16 8) + 1)) 17 19 N) 19 k = M 17 k := fun k hk => if_pos hk
      have hr83 : RW (cp2 (up2 (up2 (up2 (up2 M 18 0 (tU M N)) 18 1 (tD M N)) 16 7 ((M 16 7) + 1)) 16 8 ((M 16 8) + 1)) 17 19 N) 19 N := fun k hk => by rw [he83 k hk]; exact hr k hk
      refine a_aload_n (z := 1) A dX3_weigh_83 rfl ?_
      refine a_aload_n (z := 16) A dX3_weigh_84 rfl ?_
      refine gf_X3_22 (r := 19) A dX3_weigh_85 rfl (by decide) rfl ?_
      refine a_iload_n (z := (N : Int)) A dX3_weigh_88 rfl ?_
      refine a_aload_n (z := 16) A dX3_weigh_89 rfl ?_
      refine gf_X3_25 (r := 20) A dX3_weigh_90 rfl (by decide) rfl ?_
      refine m_invVv A (c_X1_multiplyShares G _ 19 N 20 (cp2 (up2 (up2 (up2 (up2 M 18 0 (tU M N)) 18 1 (tD M N)) 16 7 ((M 16 7) + 1)) 16 8 ((M 16 8) + 1)) 17 19 N) rfl (by decide) rfl (by decide) hN.2 (hf83.cw hW) hr83) (by decide) mi_X1_multiplyShares mv_X1_multiplyShares cs_X3_69 cf1 dX3_weigh_93 rfl (by decide) rfl rfl (Nat.le_of_ble_eq_true rfl) (fun M93 h93 => ?_)
      have hcg := cU_cg (fun c hc => hf83 c (by omega)) hW hr he83
      rw [hcg.1, hcg.2] at h93
      have h93 := h93.symm
      subst h93
      refine a_aload_n (z := 16) A dX3_weigh_96 rfl ?_
      refine a_iload_n (z := (N : Int)) A dX3_weigh_97 rfl ?_
      refine pf_X3_28 A dX3_weigh_98 rfl (by decide) ?_
      exact m_return A T0 dX3_weigh_101 (by first | (show _ = wgM M N; rw [wgM, cif_t (show tD M N < tU M N by omega), wgT, cif_t (Or.inl (by omega))]; rfl) | (show _ = wgM M N; rw [wgM, cif_t (show tD M N < tU M N by omega), wgT, cif_t (Or.inr (hb1 h66))]; rfl) | (show _ = wgM M N; rw [wgM, cif_t (show tD M N < tU M N by omega), wgT, cif_f (fun q => q.elim h58 (hb0 h66))]; rfl) | (show _ = wgM M N; rw [wgM, cif_f (show ¬ tD M N < tU M N by omega), cif_f (show ¬ M 16 6 ≠ 0 by omega), wgT, cif_t (Or.inl (by omega))]; rfl) | (show _ = wgM M N; rw [wgM, cif_f (show ¬ tD M N < tU M N by omega), cif_f (show ¬ M 16 6 ≠ 0 by omega), wgT, cif_t (Or.inr (hb1 h66))]; rfl) | (show _ = wgM M N; rw [wgM, cif_f (show ¬ tD M N < tU M N by omega), cif_f (show ¬ M 16 6 ≠ 0 by omega), wgT, cif_f (fun q => q.elim h58 (hb0 h66))]; rfl))
    · refine a_aload_n (z := 16) A dX3_weigh_61 rfl ?_
      refine a_iload_n (z := (N : Int)) A dX3_weigh_62 rfl ?_
      refine m_invVi A (c_X3_trailIsBetter G _ N (up2 (up2 (up2 (up2 M 18 0 (tU M N)) 18 1 (tD M N)) 16 7 ((M 16 7) + 1)) 16 8 ((M 16 8) + 1)) hN (fun k hk => hI17 k hk) (fun k hk => hI19 k hk) (show I32 (M 16 4) by omega) (ord_bd htb.1 (hbk.2.2 h58).2 (hbk.2.2 h58).1 ⟨Int.le_of_lt htb.2.1, htb.2.2⟩)) (by decide) mi_X3_trailIsBetter mv_X3_trailIsBetter cs_X3_77 cf3 dX3_weigh_63 rfl (by decide) rfl rfl (Nat.le_of_ble_eq_true rfl) (fun z63 M63 h63 => ?_)
      obtain ⟨e63, hc63⟩ := h63
      have e63 := e63.symm
      subst e63
      have hc63 : (z63 = 1 ∧ BX (tU M N) (tD M N) M N) ∨ (z63 = 0 ∧ ¬ BX (tU M N) (tD M N) M N) := hc63
      have hb1 : z63 ≠ 0 → BX (tU M N) (tD M N) M N := fun q => hc63.elim (fun w => w.2) (fun w => absurd w.1 q)
      have hb0 : z63 = 0 → ¬ BX (tU M N) (tD M N) M N := fun q => hc63.elim (fun w => by omega) (fun w => w.2)
      refine a_if_eq (tgt := 101) A dX3_weigh_66 (by decide) (by omega) (fun h66 => ?_) (fun h66 => ?_)
      · exact m_return A T0 dX3_weigh_101 (by first | (show _ = wgM M N; rw [wgM, cif_t (show tD M N < tU M N by omega), wgT, cif_t (Or.inl (by omega))]; rfl) | (show _ = wgM M N; rw [wgM, cif_t (show tD M N < tU M N by omega), wgT, cif_t (Or.inr (hb1 h66))]; rfl) | (show _ = wgM M N; rw [wgM, cif_t (show tD M N < tU M N by omega), wgT, cif_f (fun q => q.elim h58 (hb0 h66))]; rfl) | (show _ = wgM M N; rw [wgM, cif_f (show ¬ tD M N < tU M N by omega), cif_f (show ¬ M 16 6 ≠ 0 by omega), wgT, cif_t (Or.inl (by omega))]; rfl) | (show _ = wgM M N; rw [wgM, cif_f (show ¬ tD M N < tU M N by omega), cif_f (show ¬ M 16 6 ≠ 0 by omega), wgT, cif_t (Or.inr (hb1 h66))]; rfl) | (show _ = wgM M N; rw [wgM, cif_f (show ¬ tD M N < tU M N by omega), cif_f (show ¬ M 16 6 ≠ 0 by omega), wgT, cif_f (fun q => q.elim h58 (hb0 h66))]; rfl))
      · refine a_aload_n (z := 16) A dX3_weigh_69 rfl ?_
        refine gf_X3_9 (r := 17) A dX3_weigh_70 rfl (by decide) rfl ?_
        refine a_iconst A dX3_weigh_73 ?_
        refine a_aload_n (z := 16) A dX3_weigh_74 rfl ?_
        refine gf_X3_22 (r := 19) A dX3_weigh_75 rfl (by decide) rfl ?_
        refine a_iconst A dX3_weigh_78 ?_
        refine a_iload_n (z := (N : Int)) A dX3_weigh_79 rfl ?_
        refine a_copy (m := (N : Int)) A cj_X3_81 j_cp1 j_cp2 j_sys dX3_weigh_80 (by decide) (Nat.le_of_ble_eq_true rfl) rfl (by decide) rfl (by decide) (by omega) ?_
        have hf83 : FC M (cp2 (up2 (up2 (up2 (up2 M 18 0 (tU M N)) 18 1 (tD M N)) 16 7 ((M 16 7) + 1)) 16 8 ((M 16 8) + 1)) 17 19 N) := ((((((FC.rf M).up (by omega) _ _).up (by omega) _ _).up (by omega) _ _).up (by omega) _ _).cp N)
        have he83 : ∀ k, k < N → (cp2 (up2 (up2 (up2 (up2 M 18 0 (tU M N)) 18 1 (tD M N)) 16 7 ((M 16 7) + 1)) 16 8 ((M 16 8) + 1)) 17 19 N) 19 k = M 17 k := fun k hk => if_pos hk
        have hr83 : RW (cp2 (up2 (up2 (up2 (up2 M 18 0 (tU M N)) 18 1 (tD M N)) 16 7 ((M 16 7) + 1)) 16 8 ((M 16 8) + 1)) 17 19 N) 19 N := fun k hk => by rw [he83 k hk]; exact hr k hk
        refine a_aload_n (z := 1) A dX3_weigh_83 rfl ?_
        refine a_aload_n (z := 16) A dX3_weigh_84 rfl ?_
        refine gf_X3_22 (r := 19) A dX3_weigh_85 rfl (by decide) rfl ?_
        refine a_iload_n (z := (N : Int)) A dX3_weigh_88 rfl ?_
        refine a_aload_n (z := 16) A dX3_weigh_89 rfl ?_
        refine gf_X3_25 (r := 20) A dX3_weigh_90 rfl (by decide) rfl ?_
        refine m_invVv A (c_X1_multiplyShares G _ 19 N 20 (cp2 (up2 (up2 (up2 (up2 M 18 0 (tU M N)) 18 1 (tD M N)) 16 7 ((M 16 7) + 1)) 16 8 ((M 16 8) + 1)) 17 19 N) rfl (by decide) rfl (by decide) hN.2 (hf83.cw hW) hr83) (by decide) mi_X1_multiplyShares mv_X1_multiplyShares cs_X3_69 cf1 dX3_weigh_93 rfl (by decide) rfl rfl (Nat.le_of_ble_eq_true rfl) (fun M93 h93 => ?_)
        have hcg := cU_cg (fun c hc => hf83 c (by omega)) hW hr he83
        rw [hcg.1, hcg.2] at h93
        have h93 := h93.symm
        subst h93
        refine a_aload_n (z := 16) A dX3_weigh_96 rfl ?_
        refine a_iload_n (z := (N : Int)) A dX3_weigh_97 rfl ?_
        refine pf_X3_28 A dX3_weigh_98 rfl (by decide) ?_
        exact m_return A T0 dX3_weigh_101 (by first | (show _ = wgM M N; rw [wgM, cif_t (show tD M N < tU M N by omega), wgT, cif_t (Or.inl (by omega))]; rfl) | (show _ = wgM M N; rw [wgM, cif_t (show tD M N < tU M N by omega), wgT, cif_t (Or.inr (hb1 h66))]; rfl) | (show _ = wgM M N; rw [wgM, cif_t (show tD M N < tU M N by omega), wgT, cif_f (fun q => q.elim h58 (hb0 h66))]; rfl) | (show _ = wgM M N; rw [wgM, cif_f (show ¬ tD M N < tU M N by omega), cif_f (show ¬ M 16 6 ≠ 0 by omega), wgT, cif_t (Or.inl (by omega))]; rfl) | (show _ = wgM M N; rw [wgM, cif_f (show ¬ tD M N < tU M N by omega), cif_f (show ¬ M 16 6 ≠ 0 by omega), wgT, cif_t (Or.inr (hb1 h66))]; rfl) | (show _ = wgM M N; rw [wgM, cif_f (show ¬ tD M N < tU M N by omega), cif_f (show ¬ M 16 6 ≠ 0 by omega), wgT, cif_f (fun q => q.elim h58 (hb0 h66))]; rfl))
