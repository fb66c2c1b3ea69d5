/-! both searches go the same way -/
theorem zq_pigb : ((List.range 4).all fun a => (List.range 4).all fun b => (List.range 4).all fun c => (List.range 4).all fun d => (List.range 4).all fun e => (a == b || a == c || a == d || a == e || b == c || b == d || b == e || c == d || c == e || d == e)) = true := by decide +kernel
theorem zq_pig {a b c d e : Nat} (ha : a < 4) (hb : b < 4) (hc : c < 4) (hd : d < 4) (he : e < 4) : a = b ∨ a = c ∨ a = d ∨ a = e ∨ b = c ∨ b = d ∨ b = e ∨ c = d ∨ c = e ∨ d = e := by
  have h1 := List.all_eq_true.mp zq_pigb a (List.mem_range.mpr ha)
  have h2 := List.all_eq_true.mp h1 b (List.mem_range.mpr hb)
  have h3 := List.all_eq_true.mp h2 c (List.mem_range.mpr hc)
  have h4 := List.all_eq_true.mp h3 d (List.mem_range.mpr hd)
  have h5 := List.all_eq_true.mp h4 e (List.mem_range.mpr he)
  simp only [Bool.or_eq_true, beq_iff_eq] at h5
  omega
def zpu (τ : Nat → Int) (n i : Nat) : Nat → Int := fun k => if k = n then (i : Int) else τ k
theorem zpu_n (τ : Nat → Int) (n i : Nat) : zpu τ n i n = (i : Int) := if_pos rfl
theorem zpu_o (τ : Nat → Int) {n i k : Nat} (h : k ≠ n) : zpu τ n i k = τ k := if_neg h
theorem zq_bor : ∀ p, p < 32 → ∀ t, t < 5 → ∀ u, u < 5 → (((p ||| 2 ^ u) &&& 2 ^ t) ≠ 0 ↔ ((p &&& 2 ^ t) ≠ 0 ∨ t = u)) := by decide +kernel
theorem zq_b1 : ∀ v, v < 5 → ∀ t, t < 5 → ((2 ^ v &&& 2 ^ t) ≠ 0 ↔ t = v) := by decide +kernel
theorem zq_b2 : ∀ v, v < 5 → ∀ t, t < 5 → (((2 ^ (v + 1) - 1) &&& 2 ^ t) ≠ 0 ↔ t ≤ v) ∧ 2 ^ (v + 1) - 1 < 32 := by decide +kernel
def zPs (fr : Nat → Int) (b g v : Int) (τ : Nat → Int) (n ps : Nat) : Prop := ps < 32 ∧ ∀ t : Int, 0 ≤ t → t < 5 → ((ps &&& zqb t) ≠ 0 ↔ ((∃ k, k < n ∧ fr (τ k).toNat = t) ∨ t = v ∨ (g = 1 ∧ t ≤ b)))
def zDi (fr : Nat → Int) (v : Int) (τ : Nat → Int) (n : Nat) : Prop := (∀ k, k < n → fr (τ k).toNat ≠ v) ∧ ∀ j k, j < k → k < n → fr (τ j).toNat ≠ fr (τ k).toNat
def zv (b : Int) (tt : Nat → Int) (τ : Nat → Int) (n : Nat) : Int := if n = 0 then b else tt (τ (n - 1)).toNat
def zLb (fr tt pp qq : Nat → Int) (L : Nat) : Prop := ∀ i, i < L → (0 ≤ fr i ∧ fr i < 4) ∧ (0 < tt i ∧ tt i < 5) ∧ fr i ≠ tt i ∧ (1 ≤ pp i ∧ pp i ≤ 9) ∧ (1 ≤ qq i ∧ qq i ≤ 9)
section ZDF
variable {fr tt pp qq : Nat → Int} {L : Nat} {e g b : Int}
theorem zq_n4 (hb : zLb fr tt pp qq L) {v : Int} {τ : Nat → Int} (hτ : ∀ k, k < 4 → 0 ≤ τ k ∧ τ k < L) (hd : zDi fr v τ 4) : ∀ i, i < L → fr i ≠ v := by
  intro i hi hv
  have r0 := (hb (τ 0).toNat (by have := hτ 0 (by decide); omega)).1
  have r1 := (hb (τ 1).toNat (by have := hτ 1 (by decide); omega)).1
  have r2 := (hb (τ 2).toNat (by have := hτ 2 (by decide); omega)).1
  have r3 := (hb (τ 3).toNat (by have := hτ 3 (by decide); omega)).1
  have r4 := (hb i hi).1
  have q0 := hd.1 0 (by decide)
  have q1 := hd.1 1 (by decide)
  have q2 := hd.1 2 (by decide)
  have q3 := hd.1 3 (by decide)
  have d01 := hd.2 0 1 (by decide) (by decide)
  have d02 := hd.2 0 2 (by decide) (by decide)
  have d03 := hd.2 0 3 (by decide) (by decide)
  have d12 := hd.2 1 2 (by decide) (by decide)
  have d13 := hd.2 1 3 (by decide) (by decide)
  have d23 := hd.2 2 3 (by decide) (by decide)
  have p := zq_pig (a := (fr (τ 0).toNat).toNat) (b := (fr (τ 1).toNat).toNat) (c := (fr (τ 2).toNat).toNat) (d := (fr (τ 3).toNat).toNat) (e := (fr i).toNat) (by omega) (by omega) (by omega) (by omega) (by omega)
  rcases p with p | p | p | p | p | p | p | p | p | p <;> omega
theorem zRl.upy {τ : Nat → Int} {n : Nat} {X Y : MM} (h : zRl fr tt pp qq L e g τ n X Y) {m : Nat} (hm : n ≤ m) (x : Int) : zRl fr tt pp qq L e g τ n X (up2 Y 105 m x) := by
  obtain ⟨h1, h2, h3, h4, h5⟩ := h
  exact ⟨h1.to (fun _ _ => rfl) (fun c c1 c2 => up2_ne _ _ _ _ (by omega)), h2, fun k hk => ⟨(h3 k hk).1, by rw [up2_in, if_neg (by omega)]; exact (h3 k hk).2⟩, h4, h5⟩
theorem zRl.upx {τ : Nat → Int} {n : Nat} {X Y : MM} (h : zRl fr tt pp qq L e g τ n X Y) {m : Nat} (hm : n ≤ m) (x : Int) : zRl fr tt pp qq L e g τ n (up2 X 17 m x) Y := by
  obtain ⟨h1, h2, h3, h4, h5⟩ := h
  exact ⟨h1.to (fun c hc => up2_ne _ _ _ _ (by omega)) (fun _ _ _ => rfl), h2, fun k hk => ⟨by rw [up2_in, if_neg (by omega)]; exact (h3 k hk).1, (h3 k hk).2⟩, h4, h5⟩
theorem zRl.push {τ : Nat → Int} {n : Nat} {X Y : MM} (h : zRl fr tt pp qq L e g τ n X Y) (i : Nat) : zRl fr tt pp qq L e g (zpu τ n i) (n + 1) (up2 X 17 n i) (up2 Y 105 n i) := by
  obtain ⟨h1, h2, h3, h4, h5⟩ := h
  refine ⟨h1.to (fun c hc => up2_ne _ _ _ _ (by omega)) (fun c c1 c2 => up2_ne _ _ _ _ (by omega)), h2, fun k hk => ?_, h4, h5⟩
  rw [up2_in, up2_in]
  by_cases c : k = n
  · subst c
    rw [if_pos rfl, if_pos rfl, zpu_n]
    exact ⟨rfl, rfl⟩
  · rw [if_neg c, if_neg c, zpu_o τ c]
    exact h3 k (by omega)
theorem zRl.pop {τ : Nat → Int} {n i : Nat} {X Y : MM} (h : zRl fr tt pp qq L e g (zpu τ n i) (n + 1) X Y) : zRl fr tt pp qq L e g τ n X Y := by
  obtain ⟨h1, h2, h3, h4, h5⟩ := h
  refine ⟨h1, h2, fun k hk => ?_, h4, h5⟩
  have q := h3 k (by omega)
  rw [zpu_o τ (by omega)] at q
  exact q
theorem zq_at {τ : Nat → Int} {n i : Nat} {X Y : MM} (h : zRl fr tt pp qq L e g τ n X Y) (hτ : ∀ k, k < n → 0 ≤ τ k ∧ τ k < L) (hi : i < L) : up2 Y 105 n (i : Int) 87 (up2 Y 105 n (i : Int) 105 n).toNat = fr i ∧ up2 Y 105 n (i : Int) 88 (up2 Y 105 n (i : Int) 105 n).toNat = tt i ∧ HR (up2 Y 105 n (i : Int)) n b = zv b tt τ n ∧ ∀ t, ON (up2 Y 105 n (i : Int)) (n + 1) t ↔ ((∃ k, k < n ∧ fr (τ k).toNat = t) ∨ fr i = t) := by
  obtain ⟨⟨-, -, s3, -⟩, -, h3, -, -⟩ := h
  have e1 : (up2 Y 105 n (i : Int) 105 n).toNat = i := by rw [up2_self]; omega
  refine ⟨?_, ?_, ?_, fun t => ?_⟩
  · rw [e1, up2_ne _ _ _ _ (by decide)]; exact (s3 i hi).1
  · rw [e1, up2_ne _ _ _ _ (by decide)]; exact (s3 i hi).2.1
  · unfold HR zv
    by_cases c : n = 0
    · rw [if_pos c, if_pos c]
    · rw [if_neg c, if_neg c, up2_in, if_neg (by omega), up2_ne _ _ _ _ (by decide), (h3 (n - 1) (by omega)).2]
      have := hτ (n - 1) (by omega)
      exact (s3 _ (by omega)).2.1
  · have ek : ∀ k, k < n → up2 Y 105 n (i : Int) 87 (up2 Y 105 n (i : Int) 105 k).toNat = fr (τ k).toNat := fun k hk => by
      rw [up2_in, if_neg (by omega), up2_ne _ _ _ _ (by decide), (h3 k hk).2]
      have := hτ k hk
      exact (s3 _ (by omega)).1
    constructor
    · rintro ⟨k, hk, hq⟩
      by_cases c : k = n
      · subst c
        rw [e1, up2_ne _ _ _ _ (by decide), (s3 i hi).1] at hq
        exact Or.inr hq
      · rw [ek k (by omega)] at hq
        exact Or.inl ⟨k, by omega, hq⟩
    · rintro (⟨k, hk, hq⟩ | hq)
      · exact ⟨k, by omega, by rw [ek k hk]; exact hq⟩
      · exact ⟨n, by omega, by rw [e1, up2_ne _ _ _ _ (by decide), (s3 i hi).1]; exact hq⟩
theorem zq_itr4 {τ : Nat → Int} {X : MM} (g' : Nat → MM → MM) (hτ : ∀ k, k < 4 → 0 ≤ τ k ∧ τ k < L) (hno : ∀ i, i < L → fr i ≠ zv b tt τ 4) : ∀ (r i : Nat) (Y : MM), i + r = L → zRl fr tt pp qq L e g τ 4 X Y → zRl fr tt pp qq L e g τ 4 X (itr g' b e g 4 r i Y) := by
  intro r
  induction r with
  | zero => intro i Y _ h; exact h.upy (Nat.le_refl _) _
  | succ r ih =>
    intro i Y hi h
    have q := zq_at (b := b) h hτ (i := i) (by omega)
    have e1 : gb g' b e g 4 (up2 Y 105 4 (i : Int)) = up2 Y 105 4 (i : Int) := by
      unfold gb
      rw [cif_t (by rw [q.1, q.2.2.1]; exact hno i (by omega))]
    show zRl fr tt pp qq L e g τ 4 X (itr g' b e g 4 r (i + 1) (gb g' b e g 4 (up2 Y 105 4 (i : Int))))
    rw [e1]
    exact ih (i + 1) _ (by omega) (h.upy (Nat.le_refl _) _)
theorem zq_dfs (hb : zLb fr tt pp qq L) (hg : g = 0 ∨ g = 1) : ∀ (f n ps : Nat) (τ : Nat → Int) (X Y : MM), f + n = 4 → zRl fr tt pp qq L e g τ n X Y → (∀ k, k < n → 0 ≤ τ k ∧ τ k < L) → (0 ≤ zv b tt τ n ∧ zv b tt τ n < 5) → zPs fr b g (zv b tt τ n) τ n ps → zDi fr (zv b tt τ n) τ n → zRl fr tt pp qq L e g τ n (zqk f (zv b tt τ n) n ps X) (gor b e g L (f + 1) n Y) := by
  intro f
  induction f with
  | zero =>
    intro n ps τ X Y hn h hτ hv hps hd
    have e4 : n = 4 := by omega
    subst e4
    exact zq_itr4 _ hτ (zq_n4 hb hτ hd) L 0 Y (by omega) h
  | succ f ihf =>
    intro n ps τ X Y hn h hτ hv hps hd
    have hX1 : (X 1 1).toNat = L := by have := h.1.2.1.1; omega
    show zRl fr tt pp qq L e g τ n (zqi (fun t p X => zqk f t (n + 1) p X) (zv b tt τ n) n ps (X 1 1).toNat 0 X) (itr (gor b e g L (f + 1)) b e g n L 0 Y)
    rw [hX1]
    have loop : ∀ (r i : Nat) (X Y : MM), i + r = L → zRl fr tt pp qq L e g τ n X Y → zRl fr tt pp qq L e g τ n (zqi (fun t p X => zqk f t (n + 1) p X) (zv b tt τ n) n ps r i X) (itr (gor b e g L (f + 1)) b e g n r i Y) := by
      intro r
      induction r with
      | zero => intro i X Y _ h; exact h.upy (Nat.le_refl _) _
      | succ r ih =>
        intro i X Y hi h
        have hiL : i < L := by omega
        have q := zq_at (b := b) h hτ (i := i) hiL
        obtain ⟨x0, x1, -, -⟩ := h.1.2.1.2 i hiL
        have x5 := h.2.1.1
        have hl := hb i hiL
        show zRl fr tt pp qq L e g τ n (zqi (fun t p X => zqk f t (n + 1) p X) (zv b tt τ n) n ps r (i + 1) (zqw (fun t p X => zqk f t (n + 1) p X) (zv b tt τ n) n ps i X)) (itr (gor b e g L (f + 1)) b e g n r (i + 1) (gb (gor b e g L (f + 1)) b e g n (up2 Y 105 n (i : Int))))
        refine ih (i + 1) _ _ (by omega) ?_
        unfold zqw gb
        rw [x0, x1, x5, q.1, q.2.1, q.2.2.1]
        by_cases c1 : fr i ≠ zv b tt τ n
        · rw [cif_t c1, cif_t c1]
          exact h.upy (Nat.le_refl _) _
        rw [cif_f c1, cif_f c1]
        have efr : fr i = zv b tt τ n := Classical.not_not.mp c1
        have hτ2 : ∀ k, k < n + 1 → 0 ≤ zpu τ n i k ∧ zpu τ n i k < L := fun k hk => by
          by_cases c : k = n
          · subst c; rw [zpu_n]; omega
          · rw [zpu_o τ c]; exact hτ k (by omega)
        by_cases c2 : tt i = e
        · rw [cif_t c2, cif_t c2]
          refine zRl.pop (zq_wgh (h.push i) hg hτ2 ?_ ?_)
          · exact (prodZ_bd (by omega) (fun k hk => (hb _ (by have := hτ2 k hk; omega)).2.2.2.1)).1
          · exact (prodZ_bd (by omega) (fun k hk => (hb _ (by have := hτ2 k hk; omega)).2.2.2.2)).1
        rw [cif_f c2, cif_f c2]
        have hbit := hps.2 (tt i) (by omega) (by omega)
        have hon := q.2.2.2 (tt i)
        have key : (ps &&& zqb (tt i)) = 0 ↔ (¬ ON (up2 Y 105 n (i : Int)) (n + 1) (tt i) ∧ (g = 0 ∨ b < tt i) ∧ n < 4) := by
          have k1 : (ps &&& zqb (tt i)) = 0 ↔ ¬ ((∃ k, k < n ∧ fr (τ k).toNat = tt i) ∨ tt i = zv b tt τ n ∨ (g = 1 ∧ tt i ≤ b)) := by
            rw [← hbit]
            exact ⟨fun q h => h q, fun q => Classical.not_not.mp q⟩
          rw [k1, hon]
          constructor
          · intro w
            refine ⟨fun r => w (r.elim Or.inl (fun r2 => Or.inr (Or.inl (r2.symm.trans efr)))), ?_, by omega⟩
            rcases hg with rfl | rfl
            · exact Or.inl rfl
            · refine Or.inr ?_
              have : ¬ tt i ≤ b := fun r => w (Or.inr (Or.inr ⟨rfl, r⟩))
              omega
          · rintro ⟨w1, w2, -⟩ (r | r | ⟨r1, r2⟩)
            · exact w1 (Or.inl r)
            · exact w1 (Or.inr (efr.trans r.symm))
            · omega
        by_cases c3 : (ps &&& zqb (tt i)) = 0
        · rw [cif_t c3, cif_t (key.mp c3)]
          have hv2 : zv b tt (zpu τ n i) (n + 1) = tt i := by
            unfold zv
            rw [if_neg (by omega), show n + 1 - 1 = n by omega, zpu_n]
            rfl
          have hnb : ¬ ((∃ k, k < n ∧ fr (τ k).toNat = tt i) ∨ tt i = zv b tt τ n ∨ (g = 1 ∧ tt i ≤ b)) := fun r => (hbit.mpr r) c3
          have hτn : ∀ k, k < n → zpu τ n i k = τ k := fun k hk => zpu_o τ (by omega)
          have hτe : zpu τ n i n = (i : Int) := zpu_n τ n i
          have hrec := ihf (n + 1) (ps ||| zqb (tt i)) (zpu τ n i) (up2 X 17 n i) (up2 (up2 Y 105 n (i : Int)) 105 (n + 1) (-1)) (by omega) ((h.push i).upy (Nat.le_refl _) _) hτ2 (by rw [hv2]; omega) ?_ ?_
          · rw [hv2] at hrec
            exact hrec.pop
          · rw [hv2]
            refine ⟨(zq_bt_lt hps.1 (by omega)).2, fun t t0 t5 => ?_⟩
            have hb2 := zq_bor ps hps.1 t.toNat (by omega) (tt i).toNat (by omega)
            have hb3 : ((ps ||| zqb (tt i)) &&& zqb t) ≠ 0 ↔ ((ps &&& zqb t) ≠ 0 ∨ t.toNat = (tt i).toNat) := hb2
            rw [hb3, hps.2 t t0 t5]
            constructor
            · rintro ((⟨k, hk, hq⟩ | r | r) | r)
              · exact Or.inl ⟨k, by omega, by rw [hτn k hk]; exact hq⟩
              · exact Or.inl ⟨n, by omega, by rw [hτe]; exact efr.trans r.symm⟩
              · exact Or.inr (Or.inr r)
              · exact Or.inr (Or.inl (by omega))
            · rintro (⟨k, hk, hq⟩ | r | r)
              · by_cases c : k = n
                · subst c
                  rw [hτe] at hq
                  exact Or.inl (Or.inr (Or.inl (hq.symm.trans efr)))
                · rw [hτn k (by omega)] at hq
                  exact Or.inl (Or.inl ⟨k, by omega, hq⟩)
              · exact Or.inr (by omega)
              · exact Or.inl (Or.inr (Or.inr r))
          · rw [hv2]
            refine ⟨fun k hk hq => ?_, fun j k hjk hk hq => ?_⟩
            · by_cases c : k = n
              · subst c
                rw [hτe] at hq
                exact hl.2.2.1 hq
              · rw [hτn k (by omega)] at hq
                exact hnb (Or.inl ⟨k, by omega, hq⟩)
            · by_cases c : k = n
              · subst c
                rw [hτe, hτn j (by omega)] at hq
                exact hd.1 j (by omega) (hq.trans efr)
              · rw [hτn j (by omega), hτn k (by omega)] at hq
                exact hd.2 j k hjk (by omega) hq
        · rw [cif_f c3, cif_f (fun w => c3 (key.mpr w))]
          exact (h.upx (Nat.le_refl _) _).upy (Nat.le_refl _) _
    exact loop L 0 X Y (by omega) h
end ZDF
