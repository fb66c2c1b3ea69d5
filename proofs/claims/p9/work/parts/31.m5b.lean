set_option maxRecDepth 100000 in
set_option maxHeartbeats 4000000 in
theorem gcd_loop5 {G : GG} {E : EE} {M : MM} {g : Int} (A : AmM G E cX5_gcd 10 yX5_gcd.cls 1) (T0 : RT E G yX5_gcd 108 0 0 (some .long) (fun r rf' M' => rf' = rF ∧ ∃ z, r = some (vl z) ∧ ((fun z M' => M' = M ∧ z = g)) z M')) (a b : Int) : ∀ (n x y : Nat) (w : Value), y < n → x < 9223372036854775808 → y < 9223372036854775808 → g = ((Nat.gcd x y : Nat) : Int) → AM G E 10 17 [vl a, jk, vl b, jk, vl (x : Int), jk, vl (y : Int), jk, w, jk] [] M := by
  intro n
  induction n with
  | zero => intro x y w h; exact absurd h (Nat.not_lt_zero _)
  | succ n ih =>
    intro x y w hn hx hy hg
    refine a_lload (z := (y : Int)) A dX5_gcd_17 rfl ?_
    refine a_lconst0 A dX5_gcd_19 ?_
    refine a_lcmp_eq (tgt := 42) A dX5_gcd_20 dX5_gcd_21 (by decide) (by omega) (by omega) (fun h20 => ?_) (fun h20 => ?_)
    · refine a_lload (z := (x : Int)) A dX5_gcd_42 rfl ?_
      exact m_lreturn A T0 dX5_gcd_44 (by exact ⟨rfl, by rw [hg, show y = 0 by omega, Nat.gcd_zero_right]⟩)
    · refine a_lload (z := (x : Int)) A dX5_gcd_24 rfl ?_
      refine a_lload (z := (y : Int)) A dX5_gcd_26 rfl ?_
      refine a_lrem A dX5_gcd_28 (by omega) (by omega) (by omega) ?_
      refine a_lstore (lv' := [vl a, jk, vl b, jk, vl (x : Int), jk, vl (y : Int), jk, vl ((x : Int).tmod (y : Int)), jk]) A dX5_gcd_29 (by decide) rfl ?_
      refine a_lload (z := (y : Int)) A dX5_gcd_31 rfl ?_
      refine a_lstore (lv' := [vl a, jk, vl b, jk, vl (y : Int), jk, vl (y : Int), jk, vl ((x : Int).tmod (y : Int)), jk]) A dX5_gcd_33 (by decide) rfl ?_
      refine a_lload (z := ((x : Int).tmod (y : Int))) A dX5_gcd_35 rfl ?_
      refine a_lstore (lv' := [vl a, jk, vl b, jk, vl (y : Int), jk, vl ((x : Int).tmod (y : Int)), jk, vl ((x : Int).tmod (y : Int)), jk]) A dX5_gcd_37 (by decide) rfl ?_
      refine a_goto (tgt := 17) A dX5_gcd_39 (by decide) ?_
      exact ih y (x % y) _ (by have := Nat.mod_lt x (show 0 < y by omega); omega) hy (by have := Nat.mod_lt x (show 0 < y by omega); omega) (by rw [hg, Nat.gcd_comm x y, Nat.gcd_rec y x, Nat.gcd_comm])
set_option maxRecDepth 100000 in
set_option maxHeartbeats 4000000 in
theorem c_X5_gcd (G : GG) (l : Launch) (a b : Int) (M : MM) (ha : -9223372036854775808 < a ∧ a < 9223372036854775808) (hb : 0 ≤ b ∧ b < 9223372036854775808) : CMl G l yX5_gcd cX5_gcd 10 (some .long) 1 [vl a, vl b] M (fun z M' => M' = M ∧ z = (Int.gcd a b : Int)) := by
  refine CT.intro (by decide) (Nat.le_of_ble_eq_true rfl) (fun E hE A T0 => ?_)
  subst hE
  refine a_lload_n (z := a) A dX5_gcd_0 rfl ?_
  refine a_lconst0 A dX5_gcd_1 ?_
  refine a_lcmp_ge (tgt := 11) A dX5_gcd_2 dX5_gcd_3 (by decide) (by omega) (by omega) (fun h2 => ?_) (fun h2 => ?_)
  · refine a_lload_n (z := a) A dX5_gcd_11 rfl ?_
    refine a_lstore (lv' := [vl a, jk, vl b, jk, vl a, jk, jk, jk, jk, jk]) A dX5_gcd_12 (by decide) rfl ?_
    refine a_lload_n (z := b) A dX5_gcd_14 rfl ?_
    refine a_lstore (lv' := [vl a, jk, vl b, jk, vl a, jk, vl b, jk, jk, jk]) A dX5_gcd_15 (by decide) rfl ?_
    obtain ⟨b', hb'⟩ : ∃ b' : Nat, b = (b' : Int) := ⟨b.toNat, by omega⟩
    subst hb'
    obtain ⟨a', ea⟩ : ∃ a' : Nat, a = (a' : Int) := ⟨a.toNat, by omega⟩
    subst ea
    exact gcd_loop5 A T0 _ _ (b' + 1) a' b' jk (by omega) (by omega) (by omega) rfl
  · refine a_lload_n (z := a) A dX5_gcd_6 rfl ?_
    refine a_lneg A dX5_gcd_7 ?_
    refine a_goto (tgt := 12) A dX5_gcd_8 (by decide) ?_
    refine a_lstore (lv' := [vl a, jk, vl b, jk, vl (-a), jk, jk, jk, jk, jk]) A dX5_gcd_12 (by decide) rfl ?_
    refine a_lload_n (z := b) A dX5_gcd_14 rfl ?_
    refine a_lstore (lv' := [vl a, jk, vl b, jk, vl (-a), jk, vl b, jk, jk, jk]) A dX5_gcd_15 (by decide) rfl ?_
    obtain ⟨b', hb'⟩ : ∃ b' : Nat, b = (b' : Int) := ⟨b.toNat, by omega⟩
    subst hb'
    rw [show -a = ((a.natAbs : Nat) : Int) by omega]
    exact gcd_loop5 A T0 _ _ (b' + 1) a.natAbs b' jk (by omega) (by omega) (by omega) rfl
