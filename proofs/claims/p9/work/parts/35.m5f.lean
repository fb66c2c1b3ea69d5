/-- the row at 105 comes before the best one at 106, place by place -/
def LX (M : MM) (N : Nat) : Prop := ∃ k, k < N ∧ (∀ j, j < k → M 105 j = M 106 j) ∧ M 105 k < M 106 k
def BT (M : MM) (N : Nat) : Prop := M 84 27 = 0 ∨ M 84 28 * prodZ (fun k => M 91 (M 105 k).toNat) N < prodZ (fun k => M 90 (M 105 k).toNat) N * M 84 29 ∨ (prodZ (fun k => M 90 (M 105 k).toNat) N * M 84 29 = M 84 28 * prodZ (fun k => M 91 (M 105 k).toNat) N ∧ ((N : Int) < M 84 27 ∨ ((N : Int) = M 84 27 ∧ LX M N)))
def tkM (M : MM) (N : Nat) : MM := cp2 (up2 (up2 (up2 M 84 27 N) 84 28 (prodZ (fun k => M 90 (M 105 k).toNat) N)) 84 29 (prodZ (fun k => M 91 (M 105 k).toNat) N)) 105 106 N
theorem cp2_0 (M : MM) (a b : Nat) : cp2 M a b 0 = M := by
  funext c j
  unfold cp2
  split
  · simp
  · rfl
theorem cp2_succ (M : MM) {a b i : Nat} (h : a ≠ b) : up2 (cp2 M a b i) b i (M a i) = cp2 M a b (i + 1) := by
  funext c j
  by_cases hc : c = b
  · subst hc
    simp only [up2, cp2, if_true]
    by_cases hj : j = i
    · subst hj
      rw [if_pos rfl, if_pos (by omega)]
    · rw [if_neg hj]
      by_cases h2 : j < i
      · rw [if_pos h2, if_pos (by omega)]
      · rw [if_neg h2, if_neg (by omega)]
  · simp [up2, cp2, hc]
theorem prodZ_bd {f : Nat → Int} {n : Nat} (hn : n ≤ 5) (h : ∀ k, k < n → 1 ≤ f k ∧ f k ≤ 9) : 1 ≤ prodZ f n ∧ prodZ f n ≤ 59049 := by
  have key : ∀ m, m ≤ n → 1 ≤ prodZ f m ∧ prodZ f m ≤ 9 ^ m := by
    intro m
    induction m with
    | zero => intro _; simp [prodZ]
    | succ m ih =>
      intro hm
      have h1 := ih (by omega)
      have h2 := h m (by omega)
      have h3 := mul_bd (a := prodZ f m) (b := f m) (A := 9 ^ m) (B := 9) (by omega) (by omega)
      have h4 := Int.mul_le_mul h1.1 h2.1 (by omega) (by omega)
      simp only [prodZ]
      rw [Int.pow_succ]
      omega
  have h1 := key n (Nat.le_refl _)
  have h2 : (9 : Int) ^ n ≤ 59049 := by
    match n, hn with
    | 0, _ => decide
    | 1, _ => decide
    | 2, _ => decide
    | 3, _ => decide
    | 4, _ => decide
    | 5, _ => decide
  omega
set_option maxRecDepth 100000 in
set_option maxHeartbeats 4000000 in
theorem tk_cp5 {G : GG} {E : EE} {P : MM → Prop} (A : AmM G E cX5_takes 8 yX5_takes.cls 2) (T0 : RT E G yX5_takes 108 0 0 none (fun r rf' M' => rf' = rF ∧ r = none ∧ P M')) (N : Nat) (M : MM) (a b : Int) (z : Int) (hN : N ≤ 5) (hp : P (cp2 M 105 106 N)) : ∀ (n : Nat) (i : Nat), N - i < n → i ≤ N → AM G E 8 175 [.ref 84, vi (N : Int), vl a, jk, vl b, jk, vi z, vi (i : Int)] [] (cp2 M 105 106 i) := by
  intro n
  induction n with
  | zero => intro i hn hi; exfalso; omega
  | succ n ih =>
    intro i hn hi
    refine a_iload (z := (i : Int)) A dX5_takes_175 rfl ?_
    refine a_iload_n (z := (N : Int)) A dX5_takes_177 rfl ?_
    refine a_icmp_ge (tgt := 201) A dX5_takes_178 (by decide) (by omega) (by omega) (fun h178 => ?_) (fun h178 => ?_)
    · exact m_return A T0 dX5_takes_201 (by rw [show N = i by omega] at hp; exact hp)
    · refine a_aload_n (z := 84) A dX5_takes_181 rfl ?_
      refine gf_X5_74 (r := 106) A dX5_takes_182 rfl (by decide) rfl ?_
      refine a_iload (z := (i : Int)) A dX5_takes_185 rfl ?_
      refine a_aload_n (z := 84) A dX5_takes_187 rfl ?_
      refine gf_X5_71 (r := 105) A dX5_takes_188 rfl (by decide) rfl ?_
      refine a_iload (z := (i : Int)) A dX5_takes_191 rfl ?_
      refine a_iaload (i := (i : Int)) (x := M 105 i) A dX5_takes_193 rfl (by decide) (by decide) (by omega) rfl ?_
      refine a_iastore (i := (i : Int)) (j := i) A dX5_takes_194 rfl (by decide) (by decide) (by omega) rfl ?_
      refine a_iinc (z := (i : Int)) (lv' := [.ref 84, vi (N : Int), vl a, jk, vl b, jk, vi z, vi ((i : Int) + 1)]) A dX5_takes_195 rfl (by decide) rfl ?_
      refine a_goto (tgt := 175) A dX5_takes_198 (by decide) ?_
      rw [cp2_succ M (by decide)]
      exact ih (i + 1) (by omega) (by omega)
set_option maxRecDepth 100000 in
set_option maxHeartbeats 4000000 in
theorem tk_tail5 {G : GG} {E : EE} {P : MM → Prop} (A : AmM G E cX5_takes 8 yX5_takes.cls 2) (T0 : RT E G yX5_takes 108 0 0 none (fun r rf' M' => rf' = rF ∧ r = none ∧ P M')) (N : Nat) (M : MM) (hN : N ≤ 5) (hp1 : BT M N → P (tkM M N)) (hp0 : ¬ BT M N → P M) (z : Int) (w : Value) (hz : (z = 1 ∧ BT M N) ∨ (z = 0 ∧ ¬ BT M N)) : AM G E 8 151 [.ref 84, vi (N : Int), vl (prodZ (fun k => M 90 (M 105 k).toNat) N), jk, vl (prodZ (fun k => M 91 (M 105 k).toNat) N), jk, vi z, w] [] M := by
  refine a_iload (z := z) A dX5_takes_151 rfl ?_
  refine a_if_eq (tgt := 201) A dX5_takes_153 (by decide) (by omega) (fun h153 => ?_) (fun h153 => ?_)
  · exact m_return A T0 dX5_takes_201 (by rcases hz with hz | hz <;> first | exact hp0 hz.2 | omega)
  · refine a_aload_n (z := 84) A dX5_takes_156 rfl ?_
    refine a_iload_n (z := (N : Int)) A dX5_takes_157 rfl ?_
    refine pf_X5_151 A dX5_takes_158 rfl (by decide) ?_
    refine a_aload_n (z := 84) A dX5_takes_161 rfl ?_
    refine a_lload_n (z := (prodZ (fun k => M 90 (M 105 k).toNat) N)) A dX5_takes_162 rfl ?_
    refine pf_X5_157 A dX5_takes_163 rfl (by decide) ?_
    refine a_aload_n (z := 84) A dX5_takes_166 rfl ?_
    refine a_lload (z := (prodZ (fun k => M 91 (M 105 k).toNat) N)) A dX5_takes_167 rfl ?_
    refine pf_X5_154 A dX5_takes_169 rfl (by decide) ?_
    refine a_iconst A dX5_takes_172 ?_
    refine a_istore (lv' := [.ref 84, vi (N : Int), vl (prodZ (fun k => M 90 (M 105 k).toNat) N), jk, vl (prodZ (fun k => M 91 (M 105 k).toNat) N), jk, vi z, vi 0]) A dX5_takes_173 (by decide) rfl ?_
    rcases hz with hz | hz
    · have := tk_cp5 A T0 N (up2 (up2 (up2 M 84 27 N) 84 28 (prodZ (fun k => M 90 (M 105 k).toNat) N)) 84 29 (prodZ (fun k => M 91 (M 105 k).toNat) N)) (prodZ (fun k => M 90 (M 105 k).toNat) N) (prodZ (fun k => M 91 (M 105 k).toNat) N) z hN (hp1 hz.2) (N + 1) 0 (by omega) (by omega)
      rw [cp2_0] at this
      exact this
    · exact absurd hz.1 h153
set_option maxRecDepth 100000 in
set_option maxHeartbeats 4000000 in
theorem tk_lx5 {G : GG} {E : EE}  (A : AmM G E cX5_takes 8 yX5_takes.cls 2)  (N : Nat) (z6 : Int) (M : MM) (hN : 1 ≤ N ∧ N ≤ 5) (hr : ∀ k, k < N → 0 ≤ M 105 k ∧ M 105 k < 40) (hp9 : ∀ k, k < N → 1 ≤ M 90 (M 105 k).toNat ∧ M 90 (M 105 k).toNat ≤ 9) (hq9 : ∀ k, k < N → 1 ≤ M 91 (M 105 k).toNat ∧ M 91 (M 105 k).toNat ≤ 9) (hbm : 0 ≤ M 84 27 ∧ M 84 27 ≤ 5) (hbe : ∀ k : Nat, (k : Int) < M 84 27 → I32 (M 106 k)) (hbu : 0 ≤ M 84 28 ∧ M 84 28 ≤ 59049) (hbd : 0 ≤ M 84 29 ∧ M 84 29 ≤ 59049) (hk : ∀ (z : Int) (w : Value), (z = 1 ∧ LX M N) ∨ (z = 0 ∧ ¬ LX M N) → AM G E 8 151 [.ref 84, vi (N : Int), vl (prodZ (fun k => M 90 (M 105 k).toNat) N), jk, vl (prodZ (fun k => M 91 (M 105 k).toNat) N), jk, vi z, w] [] M) (hn2 : (N : Int) = M 84 27) : ∀ (n : Nat) (i : Nat), N - i < n → i ≤ N → (∀ j, j < i → M 105 j = M 106 j) → AM G E 8 92 [.ref 84, vi (N : Int), vl (prodZ (fun k => M 90 (M 105 k).toNat) N), jk, vl (prodZ (fun k => M 91 (M 105 k).toNat) N), jk, vi z6, vi (i : Int)] [] M := by
  intro n
  induction n with
  | zero => intro i hn hi hq; exfalso; omega
  | succ n ih =>
    intro i hn hi hq
    have hr0 : i < N → 0 ≤ M 105 i ∧ M 105 i < 40 := hr i
    have hb0 : i < N → I32 (M 106 i) := fun q => hbe i (by omega)
    refine a_iload (z := (i : Int)) A dX5_takes_92 rfl ?_
    refine a_iload_n (z := (N : Int)) A dX5_takes_94 rfl ?_
    refine a_icmp_ge (tgt := 121) A dX5_takes_95 (by decide) (by omega) (by omega) (fun h95 => ?_) (fun h95 => ?_)
    · refine a_iload (z := (i : Int)) A dX5_takes_121 rfl ?_
      refine a_iload_n (z := (N : Int)) A dX5_takes_123 rfl ?_
      refine a_icmp_ge (tgt := 148) A dX5_takes_124 (by decide) (by omega) (by omega) (fun h124 => ?_) (fun h124 => ?_)
      · refine a_iconst A dX5_takes_148 ?_
        refine a_istore (lv' := [.ref 84, vi (N : Int), vl (prodZ (fun k => M 90 (M 105 k).toNat) N), jk, vl (prodZ (fun k => M 91 (M 105 k).toNat) N), jk, vi 0, vi (i : Int)]) A dX5_takes_149 (by decide) rfl ?_
        exact hk 0 _ (Or.inr ⟨rfl, fun q => by
          obtain ⟨k, q1, q2, q3⟩ := q
          rcases Nat.lt_or_ge k i with c | c
          · have := hq k c; omega
          · rcases Nat.lt_or_ge i k with c2 | c2
            · have := q2 i c2; omega
            · have e : k = i := by omega
              subst e; omega⟩)
      · refine a_aload_n (z := 84) A dX5_takes_127 rfl ?_
        refine gf_X5_71 (r := 105) A dX5_takes_128 rfl (by decide) rfl ?_
        refine a_iload (z := (i : Int)) A dX5_takes_131 rfl ?_
        refine a_iaload (i := (i : Int)) (x := M 105 i) A dX5_takes_133 rfl (by decide) (by decide) (by omega) rfl ?_
        refine a_aload_n (z := 84) A dX5_takes_134 rfl ?_
        refine gf_X5_74 (r := 106) A dX5_takes_135 rfl (by decide) rfl ?_
        refine a_iload (z := (i : Int)) A dX5_takes_138 rfl ?_
        refine a_iaload (i := (i : Int)) (x := M 106 i) A dX5_takes_140 rfl (by decide) (by decide) (by omega) rfl ?_
        refine a_icmp_ge (tgt := 148) A dX5_takes_141 (by decide) (by omega) (by omega) (fun h141 => ?_) (fun h141 => ?_)
        · refine a_iconst A dX5_takes_148 ?_
          refine a_istore (lv' := [.ref 84, vi (N : Int), vl (prodZ (fun k => M 90 (M 105 k).toNat) N), jk, vl (prodZ (fun k => M 91 (M 105 k).toNat) N), jk, vi 0, vi (i : Int)]) A dX5_takes_149 (by decide) rfl ?_
          exact hk 0 _ (Or.inr ⟨rfl, fun q => by
            obtain ⟨k, q1, q2, q3⟩ := q
            rcases Nat.lt_or_ge k i with c | c
            · have := hq k c; omega
            · rcases Nat.lt_or_ge i k with c2 | c2
              · have := q2 i c2; omega
              · have e : k = i := by omega
                subst e; omega⟩)
        · refine a_iconst A dX5_takes_144 ?_
          refine a_goto (tgt := 149) A dX5_takes_145 (by decide) ?_
          refine a_istore (lv' := [.ref 84, vi (N : Int), vl (prodZ (fun k => M 90 (M 105 k).toNat) N), jk, vl (prodZ (fun k => M 91 (M 105 k).toNat) N), jk, vi 1, vi (i : Int)]) A dX5_takes_149 (by decide) rfl ?_
          exact hk 1 _ (Or.inl ⟨rfl, i, by omega, hq, by omega⟩)
    · refine a_aload_n (z := 84) A dX5_takes_98 rfl ?_
      refine gf_X5_71 (r := 105) A dX5_takes_99 rfl (by decide) rfl ?_
      refine a_iload (z := (i : Int)) A dX5_takes_102 rfl ?_
      refine a_iaload (i := (i : Int)) (x := M 105 i) A dX5_takes_104 rfl (by decide) (by decide) (by omega) rfl ?_
      refine a_aload_n (z := 84) A dX5_takes_105 rfl ?_
      refine gf_X5_74 (r := 106) A dX5_takes_106 rfl (by decide) rfl ?_
      refine a_iload (z := (i : Int)) A dX5_takes_109 rfl ?_
      refine a_iaload (i := (i : Int)) (x := M 106 i) A dX5_takes_111 rfl (by decide) (by decide) (by omega) rfl ?_
      refine a_icmp_ne (tgt := 121) A dX5_takes_112 (by decide) (by omega) (by omega) (fun h112 => ?_) (fun h112 => ?_)
      · refine a_iload (z := (i : Int)) A dX5_takes_121 rfl ?_
        refine a_iload_n (z := (N : Int)) A dX5_takes_123 rfl ?_
        refine a_icmp_ge (tgt := 148) A dX5_takes_124 (by decide) (by omega) (by omega) (fun h124 => ?_) (fun h124 => ?_)
        · refine a_iconst A dX5_takes_148 ?_
          refine a_istore (lv' := [.ref 84, vi (N : Int), vl (prodZ (fun k => M 90 (M 105 k).toNat) N), jk, vl (prodZ (fun k => M 91 (M 105 k).toNat) N), jk, vi 0, vi (i : Int)]) A dX5_takes_149 (by decide) rfl ?_
          exact hk 0 _ (Or.inr ⟨rfl, fun q => by
            obtain ⟨k, q1, q2, q3⟩ := q
            rcases Nat.lt_or_ge k i with c | c
            · have := hq k c; omega
            · rcases Nat.lt_or_ge i k with c2 | c2
              · have := q2 i c2; omega
              · have e : k = i := by omega
                subst e; omega⟩)
        · refine a_aload_n (z := 84) A dX5_takes_127 rfl ?_
          refine gf_X5_71 (r := 105) A dX5_takes_128 rfl (by decide) rfl ?_
          refine a_iload (z := (i : Int)) A dX5_takes_131 rfl ?_
          refine a_iaload (i := (i : Int)) (x := M 105 i) A dX5_takes_133 rfl (by decide) (by decide) (by omega) rfl ?_
          refine a_aload_n (z := 84) A dX5_takes_134 rfl ?_
          refine gf_X5_74 (r := 106) A dX5_takes_135 rfl (by decide) rfl ?_
          refine a_iload (z := (i : Int)) A dX5_takes_138 rfl ?_
          refine a_iaload (i := (i : Int)) (x := M 106 i) A dX5_takes_140 rfl (by decide) (by decide) (by omega) rfl ?_
          refine a_icmp_ge (tgt := 148) A dX5_takes_141 (by decide) (by omega) (by omega) (fun h141 => ?_) (fun h141 => ?_)
          · refine a_iconst A dX5_takes_148 ?_
            refine a_istore (lv' := [.ref 84, vi (N : Int), vl (prodZ (fun k => M 90 (M 105 k).toNat) N), jk, vl (prodZ (fun k => M 91 (M 105 k).toNat) N), jk, vi 0, vi (i : Int)]) A dX5_takes_149 (by decide) rfl ?_
            exact hk 0 _ (Or.inr ⟨rfl, fun q => by
              obtain ⟨k, q1, q2, q3⟩ := q
              rcases Nat.lt_or_ge k i with c | c
              · have := hq k c; omega
              · rcases Nat.lt_or_ge i k with c2 | c2
                · have := q2 i c2; omega
                · have e : k = i := by omega
                  subst e; omega⟩)
          · refine a_iconst A dX5_takes_144 ?_
            refine a_goto (tgt := 149) A dX5_takes_145 (by decide) ?_
            refine a_istore (lv' := [.ref 84, vi (N : Int), vl (prodZ (fun k => M 90 (M 105 k).toNat) N), jk, vl (prodZ (fun k => M 91 (M 105 k).toNat) N), jk, vi 1, vi (i : Int)]) A dX5_takes_149 (by decide) rfl ?_
            exact hk 1 _ (Or.inl ⟨rfl, i, by omega, hq, by omega⟩)
      · refine a_iinc (z := (i : Int)) (lv' := [.ref 84, vi (N : Int), vl (prodZ (fun k => M 90 (M 105 k).toNat) N), jk, vl (prodZ (fun k => M 91 (M 105 k).toNat) N), jk, vi z6, vi ((i : Int) + 1)]) A dX5_takes_115 rfl (by decide) rfl ?_
        refine a_goto (tgt := 92) A dX5_takes_118 (by decide) ?_
        exact ih (i + 1) (by omega) (by omega) (lt_s hq h112)
set_option maxRecDepth 100000 in
set_option maxHeartbeats 4000000 in
theorem c_X5_takes (G : GG) (l : Launch) (N : Nat) (M : MM) (hN : 1 ≤ N ∧ N ≤ 5) (hr : ∀ k, k < N → 0 ≤ M 105 k ∧ M 105 k < 40) (hp9 : ∀ k, k < N → 1 ≤ M 90 (M 105 k).toNat ∧ M 90 (M 105 k).toNat ≤ 9) (hq9 : ∀ k, k < N → 1 ≤ M 91 (M 105 k).toNat ∧ M 91 (M 105 k).toNat ≤ 9) (hbm : 0 ≤ M 84 27 ∧ M 84 27 ≤ 5) (hbe : ∀ k : Nat, (k : Int) < M 84 27 → I32 (M 106 k)) (hbu : 0 ≤ M 84 28 ∧ M 84 28 ≤ 59049) (hbd : 0 ≤ M 84 29 ∧ M 84 29 ≤ 59049) : CMv G l yX5_takes cX5_takes 8 none 2 [.ref 84, vi (N : Int)] M (fun M' => (BT M N ∧ M' = tkM M N) ∨ (¬ BT M N ∧ M' = M)) := by
  refine CT.intro (by decide) (Nat.le_of_ble_eq_true rfl) (fun E hE A T0 => ?_)
  subst hE
  have hpa := prodZ_bd (f := fun k => M 90 (M 105 k).toNat) hN.2 hp9
  have hpb := prodZ_bd (f := fun k => M 91 (M 105 k).toNat) hN.2 hq9
  have hm1 := mul_bd (a := (prodZ (fun k => M 90 (M 105 k).toNat) N)) (b := M 84 29) (A := 59049) (B := 59049) (by omega) (by omega)
  have hm2 := mul_bd (a := M 84 28) (b := (prodZ (fun k => M 91 (M 105 k).toNat) N)) (A := 59049) (B := 59049) (by omega) (by omega)
  refine a_aload_n (z := 84) A dX5_takes_0 rfl ?_
  refine a_iload_n (z := (N : Int)) A dX5_takes_1 rfl ?_
  refine m_invVl A (c_X5_productUp G _ N M hN.2 hr (fun k hk => by have := hp9 k hk; omega)) (by decide) mi_X5_productUp mv_X5_productUp cs_X5_144 cf5 dX5_takes_2 rfl (by decide) rfl rfl (Nat.le_of_ble_eq_true rfl) (fun z2 M2 h2 => ?_)
  obtain ⟨e2, rfl⟩ := h2
  have e2 := e2.symm
  subst e2
  refine a_lstore_n (lv' := [.ref 84, vi (N : Int), vl (prodZ (fun k => M 90 (M 105 k).toNat) N), jk, jk, jk, jk, jk]) A dX5_takes_5 (by decide) rfl ?_
  refine a_aload_n (z := 84) A dX5_takes_6 rfl ?_
  refine a_iload_n (z := (N : Int)) A dX5_takes_7 rfl ?_
  refine m_invVl A (c_X5_productDown G _ N M hN.2 hr (fun k hk => by have := hq9 k hk; omega)) (by decide) mi_X5_productDown mv_X5_productDown cs_X5_148 cf5 dX5_takes_8 rfl (by decide) rfl rfl (Nat.le_of_ble_eq_true rfl) (fun z8 M8 h8 => ?_)
  obtain ⟨e8, rfl⟩ := h8
  have e8 := e8.symm
  subst e8
  refine a_lstore (lv' := [.ref 84, vi (N : Int), vl (prodZ (fun k => M 90 (M 105 k).toNat) N), jk, vl (prodZ (fun k => M 91 (M 105 k).toNat) N), jk, jk, jk]) A dX5_takes_11 (by decide) rfl ?_
  refine a_aload_n (z := 84) A dX5_takes_13 rfl ?_
  refine gf_X5_151 (x := M 84 27) A dX5_takes_14 rfl (by decide) rfl ?_
  refine a_if_eq (tgt := 37) A dX5_takes_17 (by decide) (by omega) (fun h17 => ?_) (fun h17 => ?_)
  · refine a_iconst A dX5_takes_37 ?_
    refine a_goto (tgt := 42) A dX5_takes_38 (by decide) ?_
    refine a_istore (lv' := [.ref 84, vi (N : Int), vl (prodZ (fun k => M 90 (M 105 k).toNat) N), jk, vl (prodZ (fun k => M 91 (M 105 k).toNat) N), jk, vi 1, jk]) A dX5_takes_42 (by decide) rfl ?_
    refine a_iload (z := 1) A dX5_takes_44 rfl ?_
    refine a_if_ne (tgt := 151) A dX5_takes_46 (by decide) (by omega) (fun h46 => ?_) (fun h46 => ?_)
    · refine tk_tail5 A T0 N M hN.2 (fun q => Or.inl ⟨q, rfl⟩) (fun q => Or.inr ⟨q, rfl⟩) 1 _ ?_
      unfold BT
      omega
    · refine a_lload_n (z := (prodZ (fun k => M 90 (M 105 k).toNat) N)) A dX5_takes_49 rfl ?_
      refine a_aload_n (z := 84) A dX5_takes_50 rfl ?_
      refine gf_X5_154 (x := M 84 29) A dX5_takes_51 rfl (by decide) rfl ?_
      refine a_lmul (x := (prodZ (fun k => M 90 (M 105 k).toNat) N)) (y := (M 84 29)) A dX5_takes_54 ?_
      refine a_aload_n (z := 84) A dX5_takes_55 rfl ?_
      refine gf_X5_157 (x := M 84 28) A dX5_takes_56 rfl (by decide) rfl ?_
      refine a_lload (z := (prodZ (fun k => M 91 (M 105 k).toNat) N)) A dX5_takes_59 rfl ?_
      refine a_lmul (x := (M 84 28)) (y := (prodZ (fun k => M 91 (M 105 k).toNat) N)) A dX5_takes_61 ?_
      refine a_lcmp_ne (tgt := 151) A dX5_takes_62 dX5_takes_63 (by decide) (by omega) (by omega) (fun h62 => ?_) (fun h62 => ?_)
      · refine tk_tail5 A T0 N M hN.2 (fun q => Or.inl ⟨q, rfl⟩) (fun q => Or.inr ⟨q, rfl⟩) 1 _ ?_
        unfold BT
        omega
      · refine a_iload_n (z := (N : Int)) A dX5_takes_66 rfl ?_
        refine a_aload_n (z := 84) A dX5_takes_67 rfl ?_
        refine gf_X5_151 (x := M 84 27) A dX5_takes_68 rfl (by decide) rfl ?_
        refine a_icmp_ge (tgt := 78) A dX5_takes_71 (by decide) (by omega) (by omega) (fun h71 => ?_) (fun h71 => ?_)
        · refine a_iconst A dX5_takes_78 ?_
          refine a_istore (lv' := [.ref 84, vi (N : Int), vl (prodZ (fun k => M 90 (M 105 k).toNat) N), jk, vl (prodZ (fun k => M 91 (M 105 k).toNat) N), jk, vi 0, jk]) A dX5_takes_79 (by decide) rfl ?_
          refine a_iload_n (z := (N : Int)) A dX5_takes_81 rfl ?_
          refine a_aload_n (z := 84) A dX5_takes_82 rfl ?_
          refine gf_X5_151 (x := M 84 27) A dX5_takes_83 rfl (by decide) rfl ?_
          refine a_icmp_ne (tgt := 151) A dX5_takes_86 (by decide) (by omega) (by omega) (fun h86 => ?_) (fun h86 => ?_)
          · refine tk_tail5 A T0 N M hN.2 (fun q => Or.inl ⟨q, rfl⟩) (fun q => Or.inr ⟨q, rfl⟩) 0 _ ?_
            unfold BT
            omega
          · refine a_iconst A dX5_takes_89 ?_
            refine a_istore (lv' := [.ref 84, vi (N : Int), vl (prodZ (fun k => M 90 (M 105 k).toNat) N), jk, vl (prodZ (fun k => M 91 (M 105 k).toNat) N), jk, vi 0, vi 0]) A dX5_takes_90 (by decide) rfl ?_
            refine tk_lx5 A N _ M hN hr hp9 hq9 hbm hbe hbu hbd (fun z w hz => tk_tail5 A T0 N M hN.2 (fun q => Or.inl ⟨q, rfl⟩) (fun q => Or.inr ⟨q, rfl⟩) z w ?_) (by omega) (N + 1) 0 (by omega) (by omega) (fun j hj => by omega)
            unfold BT
            rcases hz with ⟨q1, q2⟩ | ⟨q1, q2⟩
            · exact Or.inl ⟨q1, Or.inr (Or.inr ⟨by omega, Or.inr ⟨by omega, q2⟩⟩)⟩
            · refine Or.inr ⟨q1, fun q => ?_⟩
              rcases q with q | q | ⟨q3, q | q⟩
              · omega
              · omega
              · omega
              · exact q2 q.2
        · refine a_iconst A dX5_takes_74 ?_
          refine a_goto (tgt := 79) A dX5_takes_75 (by decide) ?_
          refine a_istore (lv' := [.ref 84, vi (N : Int), vl (prodZ (fun k => M 90 (M 105 k).toNat) N), jk, vl (prodZ (fun k => M 91 (M 105 k).toNat) N), jk, vi 1, jk]) A dX5_takes_79 (by decide) rfl ?_
          refine a_iload_n (z := (N : Int)) A dX5_takes_81 rfl ?_
          refine a_aload_n (z := 84) A dX5_takes_82 rfl ?_
          refine gf_X5_151 (x := M 84 27) A dX5_takes_83 rfl (by decide) rfl ?_
          refine a_icmp_ne (tgt := 151) A dX5_takes_86 (by decide) (by omega) (by omega) (fun h86 => ?_) (fun h86 => ?_)
          · refine tk_tail5 A T0 N M hN.2 (fun q => Or.inl ⟨q, rfl⟩) (fun q => Or.inr ⟨q, rfl⟩) 1 _ ?_
            unfold BT
            omega
          · refine a_iconst A dX5_takes_89 ?_
            refine a_istore (lv' := [.ref 84, vi (N : Int), vl (prodZ (fun k => M 90 (M 105 k).toNat) N), jk, vl (prodZ (fun k => M 91 (M 105 k).toNat) N), jk, vi 1, vi 0]) A dX5_takes_90 (by decide) rfl ?_
            refine tk_lx5 A N _ M hN hr hp9 hq9 hbm hbe hbu hbd (fun z w hz => tk_tail5 A T0 N M hN.2 (fun q => Or.inl ⟨q, rfl⟩) (fun q => Or.inr ⟨q, rfl⟩) z w ?_) (by omega) (N + 1) 0 (by omega) (by omega) (fun j hj => by omega)
            unfold BT
            rcases hz with ⟨q1, q2⟩ | ⟨q1, q2⟩
            · exact Or.inl ⟨q1, Or.inr (Or.inr ⟨by omega, Or.inr ⟨by omega, q2⟩⟩)⟩
            · refine Or.inr ⟨q1, fun q => ?_⟩
              rcases q with q | q | ⟨q3, q | q⟩
              · omega
              · omega
              · omega
              · exact q2 q.2
  · refine a_lload_n (z := (prodZ (fun k => M 90 (M 105 k).toNat) N)) A dX5_takes_20 rfl ?_
    refine a_aload_n (z := 84) A dX5_takes_21 rfl ?_
    refine gf_X5_154 (x := M 84 29) A dX5_takes_22 rfl (by decide) rfl ?_
    refine a_lmul (x := (prodZ (fun k => M 90 (M 105 k).toNat) N)) (y := (M 84 29)) A dX5_takes_25 ?_
    refine a_aload_n (z := 84) A dX5_takes_26 rfl ?_
    refine gf_X5_157 (x := M 84 28) A dX5_takes_27 rfl (by decide) rfl ?_
    refine a_lload (z := (prodZ (fun k => M 91 (M 105 k).toNat) N)) A dX5_takes_30 rfl ?_
    refine a_lmul (x := (M 84 28)) (y := (prodZ (fun k => M 91 (M 105 k).toNat) N)) A dX5_takes_32 ?_
    refine a_lcmp_le (tgt := 41) A dX5_takes_33 dX5_takes_34 (by decide) (by omega) (by omega) (fun h33 => ?_) (fun h33 => ?_)
    · refine a_iconst A dX5_takes_41 ?_
      refine a_istore (lv' := [.ref 84, vi (N : Int), vl (prodZ (fun k => M 90 (M 105 k).toNat) N), jk, vl (prodZ (fun k => M 91 (M 105 k).toNat) N), jk, vi 0, jk]) A dX5_takes_42 (by decide) rfl ?_
      refine a_iload (z := 0) A dX5_takes_44 rfl ?_
      refine a_if_ne (tgt := 151) A dX5_takes_46 (by decide) (by omega) (fun h46 => ?_) (fun h46 => ?_)
      · refine tk_tail5 A T0 N M hN.2 (fun q => Or.inl ⟨q, rfl⟩) (fun q => Or.inr ⟨q, rfl⟩) 0 _ ?_
        unfold BT
        omega
      · refine a_lload_n (z := (prodZ (fun k => M 90 (M 105 k).toNat) N)) A dX5_takes_49 rfl ?_
        refine a_aload_n (z := 84) A dX5_takes_50 rfl ?_
        refine gf_X5_154 (x := M 84 29) A dX5_takes_51 rfl (by decide) rfl ?_
        refine a_lmul (x := (prodZ (fun k => M 90 (M 105 k).toNat) N)) (y := (M 84 29)) A dX5_takes_54 ?_
        refine a_aload_n (z := 84) A dX5_takes_55 rfl ?_
        refine gf_X5_157 (x := M 84 28) A dX5_takes_56 rfl (by decide) rfl ?_
        refine a_lload (z := (prodZ (fun k => M 91 (M 105 k).toNat) N)) A dX5_takes_59 rfl ?_
        refine a_lmul (x := (M 84 28)) (y := (prodZ (fun k => M 91 (M 105 k).toNat) N)) A dX5_takes_61 ?_
        refine a_lcmp_ne (tgt := 151) A dX5_takes_62 dX5_takes_63 (by decide) (by omega) (by omega) (fun h62 => ?_) (fun h62 => ?_)
        · refine tk_tail5 A T0 N M hN.2 (fun q => Or.inl ⟨q, rfl⟩) (fun q => Or.inr ⟨q, rfl⟩) 0 _ ?_
          unfold BT
          omega
        · refine a_iload_n (z := (N : Int)) A dX5_takes_66 rfl ?_
          refine a_aload_n (z := 84) A dX5_takes_67 rfl ?_
          refine gf_X5_151 (x := M 84 27) A dX5_takes_68 rfl (by decide) rfl ?_
          refine a_icmp_ge (tgt := 78) A dX5_takes_71 (by decide) (by omega) (by omega) (fun h71 => ?_) (fun h71 => ?_)
          · refine a_iconst A dX5_takes_78 ?_
            refine a_istore (lv' := [.ref 84, vi (N : Int), vl (prodZ (fun k => M 90 (M 105 k).toNat) N), jk, vl (prodZ (fun k => M 91 (M 105 k).toNat) N), jk, vi 0, jk]) A dX5_takes_79 (by decide) rfl ?_
            refine a_iload_n (z := (N : Int)) A dX5_takes_81 rfl ?_
            refine a_aload_n (z := 84) A dX5_takes_82 rfl ?_
            refine gf_X5_151 (x := M 84 27) A dX5_takes_83 rfl (by decide) rfl ?_
            refine a_icmp_ne (tgt := 151) A dX5_takes_86 (by decide) (by omega) (by omega) (fun h86 => ?_) (fun h86 => ?_)
            · refine tk_tail5 A T0 N M hN.2 (fun q => Or.inl ⟨q, rfl⟩) (fun q => Or.inr ⟨q, rfl⟩) 0 _ ?_
              unfold BT
              omega
            · refine a_iconst A dX5_takes_89 ?_
              refine a_istore (lv' := [.ref 84, vi (N : Int), vl (prodZ (fun k => M 90 (M 105 k).toNat) N), jk, vl (prodZ (fun k => M 91 (M 105 k).toNat) N), jk, vi 0, vi 0]) A dX5_takes_90 (by decide) rfl ?_
              refine tk_lx5 A N _ M hN hr hp9 hq9 hbm hbe hbu hbd (fun z w hz => tk_tail5 A T0 N M hN.2 (fun q => Or.inl ⟨q, rfl⟩) (fun q => Or.inr ⟨q, rfl⟩) z w ?_) (by omega) (N + 1) 0 (by omega) (by omega) (fun j hj => by omega)
              unfold BT
              rcases hz with ⟨q1, q2⟩ | ⟨q1, q2⟩
              · exact Or.inl ⟨q1, Or.inr (Or.inr ⟨by omega, Or.inr ⟨by omega, q2⟩⟩)⟩
              · refine Or.inr ⟨q1, fun q => ?_⟩
                rcases q with q | q | ⟨q3, q | q⟩
                · omega
                · omega
                · omega
                · exact q2 q.2
          · refine a_iconst A dX5_takes_74 ?_
            refine a_goto (tgt := 79) A dX5_takes_75 (by decide) ?_
            refine a_istore (lv' := [.ref 84, vi (N : Int), vl (prodZ (fun k => M 90 (M 105 k).toNat) N), jk, vl (prodZ (fun k => M 91 (M 105 k).toNat) N), jk, vi 1, jk]) A dX5_takes_79 (by decide) rfl ?_
            refine a_iload_n (z := (N : Int)) A dX5_takes_81 rfl ?_
            refine a_aload_n (z := 84) A dX5_takes_82 rfl ?_
            refine gf_X5_151 (x := M 84 27) A dX5_takes_83 rfl (by decide) rfl ?_
            refine a_icmp_ne (tgt := 151) A dX5_takes_86 (by decide) (by omega) (by omega) (fun h86 => ?_) (fun h86 => ?_)
            · refine tk_tail5 A T0 N M hN.2 (fun q => Or.inl ⟨q, rfl⟩) (fun q => Or.inr ⟨q, rfl⟩) 1 _ ?_
              unfold BT
              omega
            · refine a_iconst A dX5_takes_89 ?_
              refine a_istore (lv' := [.ref 84, vi (N : Int), vl (prodZ (fun k => M 90 (M 105 k).toNat) N), jk, vl (prodZ (fun k => M 91 (M 105 k).toNat) N), jk, vi 1, vi 0]) A dX5_takes_90 (by decide) rfl ?_
              refine tk_lx5 A N _ M hN hr hp9 hq9 hbm hbe hbu hbd (fun z w hz => tk_tail5 A T0 N M hN.2 (fun q => Or.inl ⟨q, rfl⟩) (fun q => Or.inr ⟨q, rfl⟩) z w ?_) (by omega) (N + 1) 0 (by omega) (by omega) (fun j hj => by omega)
              unfold BT
              rcases hz with ⟨q1, q2⟩ | ⟨q1, q2⟩
              · exact Or.inl ⟨q1, Or.inr (Or.inr ⟨by omega, Or.inr ⟨by omega, q2⟩⟩)⟩
              · refine Or.inr ⟨q1, fun q => ?_⟩
                rcases q with q | q | ⟨q3, q | q⟩
                · omega
                · omega
                · omega
                · exact q2 q.2
    · refine a_iconst A dX5_takes_37 ?_
      refine a_goto (tgt := 42) A dX5_takes_38 (by decide) ?_
      refine a_istore (lv' := [.ref 84, vi (N : Int), vl (prodZ (fun k => M 90 (M 105 k).toNat) N), jk, vl (prodZ (fun k => M 91 (M 105 k).toNat) N), jk, vi 1, jk]) A dX5_takes_42 (by decide) rfl ?_
      refine a_iload (z := 1) A dX5_takes_44 rfl ?_
      refine a_if_ne (tgt := 151) A dX5_takes_46 (by decide) (by omega) (fun h46 => ?_) (fun h46 => ?_)
      · refine tk_tail5 A T0 N M hN.2 (fun q => Or.inl ⟨q, rfl⟩) (fun q => Or.inr ⟨q, rfl⟩) 1 _ ?_
        unfold BT
        omega
      · refine a_lload_n (z := (prodZ (fun k => M 90 (M 105 k).toNat) N)) A dX5_takes_49 rfl ?_
        refine a_aload_n (z := 84) A dX5_takes_50 rfl ?_
        refine gf_X5_154 (x := M 84 29) A dX5_takes_51 rfl (by decide) rfl ?_
        refine a_lmul (x := (prodZ (fun k => M 90 (M 105 k).toNat) N)) (y := (M 84 29)) A dX5_takes_54 ?_
        refine a_aload_n (z := 84) A dX5_takes_55 rfl ?_
        refine gf_X5_157 (x := M 84 28) A dX5_takes_56 rfl (by decide) rfl ?_
        refine a_lload (z := (prodZ (fun k => M 91 (M 105 k).toNat) N)) A dX5_takes_59 rfl ?_
        refine a_lmul (x := (M 84 28)) (y := (prodZ (fun k => M 91 (M 105 k).toNat) N)) A dX5_takes_61 ?_
        refine a_lcmp_ne (tgt := 151) A dX5_takes_62 dX5_takes_63 (by decide) (by omega) (by omega) (fun h62 => ?_) (fun h62 => ?_)
        · refine tk_tail5 A T0 N M hN.2 (fun q => Or.inl ⟨q, rfl⟩) (fun q => Or.inr ⟨q, rfl⟩) 1 _ ?_
          unfold BT
          omega
        · refine a_iload_n (z := (N : Int)) A dX5_takes_66 rfl ?_
          refine a_aload_n (z := 84) A dX5_takes_67 rfl ?_
          refine gf_X5_151 (x := M 84 27) A dX5_takes_68 rfl (by decide) rfl ?_
          refine a_icmp_ge (tgt := 78) A dX5_takes_71 (by decide) (by omega) (by omega) (fun h71 => ?_) (fun h71 => ?_)
          · refine a_iconst A dX5_takes_78 ?_
            refine a_istore (lv' := [.ref 84, vi (N : Int), vl (prodZ (fun k => M 90 (M 105 k).toNat) N), jk, vl (prodZ (fun k => M 91 (M 105 k).toNat) N), jk, vi 0, jk]) A dX5_takes_79 (by decide) rfl ?_
            refine a_iload_n (z := (N : Int)) A dX5_takes_81 rfl ?_
            refine a_aload_n (z := 84) A dX5_takes_82 rfl ?_
            refine gf_X5_151 (x := M 84 27) A dX5_takes_83 rfl (by decide) rfl ?_
            refine a_icmp_ne (tgt := 151) A dX5_takes_86 (by decide) (by omega) (by omega) (fun h86 => ?_) (fun h86 => ?_)
            · refine tk_tail5 A T0 N M hN.2 (fun q => Or.inl ⟨q, rfl⟩) (fun q => Or.inr ⟨q, rfl⟩) 0 _ ?_
              unfold BT
              omega
            · refine a_iconst A dX5_takes_89 ?_
              refine a_istore (lv' := [.ref 84, vi (N : Int), vl (prodZ (fun k => M 90 (M 105 k).toNat) N), jk, vl (prodZ (fun k => M 91 (M 105 k).toNat) N), jk, vi 0, vi 0]) A dX5_takes_90 (by decide) rfl ?_
              refine tk_lx5 A N _ M hN hr hp9 hq9 hbm hbe hbu hbd (fun z w hz => tk_tail5 A T0 N M hN.2 (fun q => Or.inl ⟨q, rfl⟩) (fun q => Or.inr ⟨q, rfl⟩) z w ?_) (by omega) (N + 1) 0 (by omega) (by omega) (fun j hj => by omega)
              unfold BT
              rcases hz with ⟨q1, q2⟩ | ⟨q1, q2⟩
              · exact Or.inl ⟨q1, Or.inr (Or.inr ⟨by omega, Or.inr ⟨by omega, q2⟩⟩)⟩
              · refine Or.inr ⟨q1, fun q => ?_⟩
                rcases q with q | q | ⟨q3, q | q⟩
                · omega
                · omega
                · omega
                · exact q2 q.2
          · refine a_iconst A dX5_takes_74 ?_
            refine a_goto (tgt := 79) A dX5_takes_75 (by decide) ?_
            refine a_istore (lv' := [.ref 84, vi (N : Int), vl (prodZ (fun k => M 90 (M 105 k).toNat) N), jk, vl (prodZ (fun k => M 91 (M 105 k).toNat) N), jk, vi 1, jk]) A dX5_takes_79 (by decide) rfl ?_
            refine a_iload_n (z := (N : Int)) A dX5_takes_81 rfl ?_
            refine a_aload_n (z := 84) A dX5_takes_82 rfl ?_
            refine gf_X5_151 (x := M 84 27) A dX5_takes_83 rfl (by decide) rfl ?_
            refine a_icmp_ne (tgt := 151) A dX5_takes_86 (by decide) (by omega) (by omega) (fun h86 => ?_) (fun h86 => ?_)
            · refine tk_tail5 A T0 N M hN.2 (fun q => Or.inl ⟨q, rfl⟩) (fun q => Or.inr ⟨q, rfl⟩) 1 _ ?_
              unfold BT
              omega
            · refine a_iconst A dX5_takes_89 ?_
              refine a_istore (lv' := [.ref 84, vi (N : Int), vl (prodZ (fun k => M 90 (M 105 k).toNat) N), jk, vl (prodZ (fun k => M 91 (M 105 k).toNat) N), jk, vi 1, vi 0]) A dX5_takes_90 (by decide) rfl ?_
              refine tk_lx5 A N _ M hN hr hp9 hq9 hbm hbe hbu hbd (fun z w hz => tk_tail5 A T0 N M hN.2 (fun q => Or.inl ⟨q, rfl⟩) (fun q => Or.inr ⟨q, rfl⟩) z w ?_) (by omega) (N + 1) 0 (by omega) (by omega) (fun j hj => by omega)
              unfold BT
              rcases hz with ⟨q1, q2⟩ | ⟨q1, q2⟩
              · exact Or.inl ⟨q1, Or.inr (Or.inr ⟨by omega, Or.inr ⟨by omega, q2⟩⟩)⟩
              · refine Or.inr ⟨q1, fun q => ?_⟩
                rcases q with q | q | ⟨q3, q | q⟩
                · omega
                · omega
                · omega
                · exact q2 q.2
