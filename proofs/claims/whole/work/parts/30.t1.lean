set_option maxRecDepth 100000 in
set_option maxHeartbeats 4000000 in
theorem c_X5_in (G : GG) (l : Launch) (v lo hi : Int) (M : MM) (hv : I32 v) (hlo : I32 lo) (hhi : I32 hi) : CMi G l yX5_in cX5_in 3 (some .boolean) 1 [vi v, vi lo, vi hi] M (fun z M' => M' = M ∧ z = if lo ≤ v ∧ v ≤ hi then 1 else 0) := by
  refine CT.intro (by decide) (Nat.le_of_ble_eq_true rfl) (fun E hE A T0 => ?_)
  subst hE
  refine a_iload_n A dX5_in_0 rfl ?_
  refine a_iload_n A dX5_in_1 rfl ?_
  refine a_icmp_lt (tgt := 14) A dX5_in_2 (by decide) (by assumption) (by assumption) (fun h2 => ?_) (fun h2 => ?_)
  · refine a_iconst A dX5_in_14 ?_
    exact m_zreturn A T0 dX5_in_15 (by first | exact Or.inl rfl | exact Or.inr rfl | omega) (by refine ⟨rfl, ?_⟩; split <;> omega)
  · refine a_iload_n A dX5_in_5 rfl ?_
    refine a_iload_n A dX5_in_6 rfl ?_
    refine a_icmp_gt (tgt := 14) A dX5_in_7 (by decide) (by assumption) (by assumption) (fun h7 => ?_) (fun h7 => ?_)
    · refine a_iconst A dX5_in_14 ?_
      exact m_zreturn A T0 dX5_in_15 (by first | exact Or.inl rfl | exact Or.inr rfl | omega) (by refine ⟨rfl, ?_⟩; split <;> omega)
    · refine a_iconst A dX5_in_10 ?_
      refine a_goto (tgt := 15) A dX5_in_11 (by decide) ?_
      exact m_zreturn A T0 dX5_in_15 (by first | exact Or.inl rfl | exact Or.inr rfl | omega) (by refine ⟨rfl, ?_⟩; split <;> omega)
