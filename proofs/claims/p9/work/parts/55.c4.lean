set_option maxRecDepth 100000 in
set_option maxHeartbeats 4000000 in
theorem c_X4_posts (G : GG) (l : Launch) (n : Int) (M : MM) (hn : I32 n) : CMi G l yX4_posts cX4_posts 2 (some .boolean) 2 [.ref 0, vi n] M (fun z M' => (z = 0 ∧ (n < 2 ∨ 5 < n) ∧ M' = M) ∨ (z = 1 ∧ (2 ≤ n ∧ n ≤ 5) ∧ M' = up2 (up2 (up2 M 1 0 n) 1 1 0) 1 4 0)) := by
  refine CT.intro (by decide) (Nat.le_of_ble_eq_true rfl) (fun E hE A T0 => ?_)
  subst hE
  refine a_iload_n (z := n) A dX4_posts_0 rfl ?_
  refine a_iconst A dX4_posts_1 ?_
  refine a_iconst A dX4_posts_2 ?_
  refine m_invSi A (c_X4_within G _ n 2 5 M (by omega) (by omega) (by omega)) (by decide) mi_X4_within ms_X4_within cs_X4_51 dX4_posts_3 rfl rfl (Nat.le_of_ble_eq_true rfl) (fun z3 M3 h3 => ?_)
  obtain ⟨e3, hc3⟩ := h3
  have e3 := e3.symm
  subst e3
  refine a_if_ne (tgt := 11) A dX4_posts_6 (by decide) (by omega) (fun h6 => ?_) (fun h6 => ?_)
  · refine a_aload_n (z := 0) A dX4_posts_11 rfl ?_
    refine gf_X4_12 (r := 1) A dX4_posts_12 rfl (by decide) rfl ?_
    refine a_iload_n (z := n) A dX4_posts_15 rfl ?_
    refine pf_X4_55 A dX4_posts_16 rfl (by decide) ?_
    refine a_aload_n (z := 0) A dX4_posts_19 rfl ?_
    refine gf_X4_12 (r := 1) A dX4_posts_20 rfl (by decide) rfl ?_
    refine a_iconst A dX4_posts_23 ?_
    refine pf_X4_59 A dX4_posts_24 rfl (by decide) ?_
    refine a_aload_n (z := 0) A dX4_posts_27 rfl ?_
    refine gf_X4_12 (r := 1) A dX4_posts_28 rfl (by decide) rfl ?_
    refine m_invVv A (c_X1_dropRow G _ (up2 (up2 M 1 0 n) 1 1 0)) (by decide) mi_X1_dropRow mv_X1_dropRow cs_X4_62 cf1 dX4_posts_31 rfl (by decide) rfl rfl (Nat.le_of_ble_eq_true rfl) (fun M31 h31 => ?_)
    have h31 := h31.symm
    subst h31
    refine a_iconst A dX4_posts_34 ?_
    exact m_zreturn A T0 dX4_posts_35 (by first | exact Or.inl rfl | exact Or.inr rfl | omega) (by first | exact Or.inl ⟨rfl, by omega, rfl⟩ | exact Or.inr ⟨rfl, by omega, rfl⟩)
  · refine a_iconst A dX4_posts_9 ?_
    exact m_zreturn A T0 dX4_posts_10 (by first | exact Or.inl rfl | exact Or.inr rfl | omega) (by first | exact Or.inl ⟨rfl, by omega, rfl⟩ | exact Or.inr ⟨rfl, by omega, rfl⟩)
set_option maxRecDepth 100000 in
set_option maxHeartbeats 4000000 in
theorem c_X4_room (G : GG) (l : Launch) (k r : Int) (M : MM) (hk : I32 k) (hr : I32 r) (hL : 0 ≤ M 1 1 ∧ M 1 1 ≤ 10) : CMi G l yX4_room cX4_room 3 (some .boolean) 3 [.ref 0, vi k, vi r] M (fun z M' => (z = 0 ∧ ¬ ((0 ≤ k ∧ k < M 1 1) ∧ 0 ≤ r ∧ r ≤ 100) ∧ M' = M) ∨ (z = 1 ∧ ((0 ≤ k ∧ k < M 1 1) ∧ 0 ≤ r ∧ r ≤ 100) ∧ M' = up2 M (3 + k.toNat) 2 r)) := by
  refine CT.intro (by decide) (Nat.le_of_ble_eq_true rfl) (fun E hE A T0 => ?_)
  subst hE
  refine a_aload_n (z := 0) A dX4_room_0 rfl ?_
  refine gf_X4_12 (r := 1) A dX4_room_1 rfl (by decide) rfl ?_
  refine a_iload_n (z := k) A dX4_room_4 rfl ?_
  refine m_invVi A (c_X1_hasLane G _ k M (by omega) hL) (by decide) mi_X1_hasLane mv_X1_hasLane cs_X4_80 cf1 dX4_room_5 rfl (by decide) rfl rfl (Nat.le_of_ble_eq_true rfl) (fun z5 M5 h5 => ?_)
  obtain ⟨e5, hc5⟩ := h5
  have e5 := e5.symm
  subst e5
  refine a_if_eq (tgt := 18) A dX4_room_8 (by decide) (by omega) (fun h8 => ?_) (fun h8 => ?_)
  · refine a_iconst A dX4_room_18 ?_
    exact m_zreturn A T0 dX4_room_19 (by first | exact Or.inl rfl | exact Or.inr rfl | omega) (by first | exact Or.inl ⟨rfl, by omega, rfl⟩ | exact Or.inr ⟨rfl, by omega, rfl⟩)
  · refine a_iload_n (z := r) A dX4_room_11 rfl ?_
    refine m_invSi A (c_X4_isRoom G _ r M (by omega)) (by decide) mi_X4_isRoom ms_X4_isRoom cs_X4_69 dX4_room_12 rfl rfl (Nat.le_of_ble_eq_true rfl) (fun z12 M12 h12 => ?_)
    obtain ⟨e12, hc12⟩ := h12
    have e12 := e12.symm
    subst e12
    refine a_if_ne (tgt := 20) A dX4_room_15 (by decide) (by omega) (fun h15 => ?_) (fun h15 => ?_)
    · refine a_aload_n (z := 0) A dX4_room_20 rfl ?_
      refine gf_X4_12 (r := 1) A dX4_room_21 rfl (by decide) rfl ?_
      refine gf_X4_76 (r := 2) A dX4_room_24 rfl (by decide) rfl ?_
      refine a_iload_n (z := k) A dX4_room_27 rfl ?_
      refine a_aaload (i := k) (r := (3 + k.toNat)) A dX4_room_28 rfl (Or.inr rfl) (by decide) (by decide) (by omega) (rf2 (by omega)) ?_
      refine a_iconst A dX4_room_29 ?_
      refine a_iload_n (z := r) A dX4_room_30 rfl ?_
      refine a_iastore (i := 2) (j := 2) A dX4_room_31 (ly3 (by omega)) (by omega) (by decide) (by omega) rfl ?_
      refine a_iconst A dX4_room_32 ?_
      exact m_zreturn A T0 dX4_room_33 (by first | exact Or.inl rfl | exact Or.inr rfl | omega) (by first | exact Or.inl ⟨rfl, by omega, rfl⟩ | exact Or.inr ⟨rfl, by omega, rfl⟩)
    · refine a_iconst A dX4_room_18 ?_
      exact m_zreturn A T0 dX4_room_19 (by first | exact Or.inl rfl | exact Or.inr rfl | omega) (by first | exact Or.inl ⟨rfl, by omega, rfl⟩ | exact Or.inr ⟨rfl, by omega, rfl⟩)
set_option maxRecDepth 100000 in
set_option maxHeartbeats 4000000 in
theorem c_X4_share (G : GG) (l : Launch) (k p q d : Int) (M : MM) (hk : I32 k) (hp : I32 p) (hq : I32 q) (hd : I32 d) (hL : 0 ≤ M 1 1 ∧ M 1 1 ≤ 10) : CMi G l yX4_share cX4_share 5 (some .boolean) 3 [.ref 0, vi k, vi p, vi q, vi d] M (fun z M' => (z = 0 ∧ ¬ ((0 ≤ k ∧ k < M 1 1) ∧ (1 ≤ p ∧ p ≤ 9 ∧ 1 ≤ q ∧ q ≤ 9) ∧ 0 ≤ d ∧ d ≤ 8) ∧ M' = M) ∨ (z = 1 ∧ ((0 ≤ k ∧ k < M 1 1) ∧ (1 ≤ p ∧ p ≤ 9 ∧ 1 ≤ q ∧ q ≤ 9) ∧ 0 ≤ d ∧ d ≤ 8) ∧ M' = up2 (up2 (up2 M (3 + k.toNat) 3 p) (3 + k.toNat) 4 q) (3 + k.toNat) 5 d)) := by
  refine CT.intro (by decide) (Nat.le_of_ble_eq_true rfl) (fun E hE A T0 => ?_)
  subst hE
  refine a_aload_n (z := 0) A dX4_share_0 rfl ?_
  refine gf_X4_12 (r := 1) A dX4_share_1 rfl (by decide) rfl ?_
  refine a_iload_n (z := k) A dX4_share_4 rfl ?_
  refine m_invVi A (c_X1_hasLane G _ k M (by omega) hL) (by decide) mi_X1_hasLane mv_X1_hasLane cs_X4_80 cf1 dX4_share_5 rfl (by decide) rfl rfl (Nat.le_of_ble_eq_true rfl) (fun z5 M5 h5 => ?_)
  obtain ⟨e5, hc5⟩ := h5
  have e5 := e5.symm
  subst e5
  refine a_if_eq (tgt := 30) A dX4_share_8 (by decide) (by omega) (fun h8 => ?_) (fun h8 => ?_)
  · refine a_iconst A dX4_share_30 ?_
    exact m_zreturn A T0 dX4_share_31 (by first | exact Or.inl rfl | exact Or.inr rfl | omega) (by first | exact Or.inl ⟨rfl, by omega, rfl⟩ | exact Or.inr ⟨rfl, by omega, rfl⟩)
  · refine a_iload_n (z := p) A dX4_share_11 rfl ?_
    refine a_iload_n (z := q) A dX4_share_12 rfl ?_
    refine m_invSi A (c_X4_isShare G _ p q M (by omega) (by omega)) (by decide) mi_X4_isShare ms_X4_isShare cs_X4_73 dX4_share_13 rfl rfl (Nat.le_of_ble_eq_true rfl) (fun z13 M13 h13 => ?_)
    obtain ⟨e13, hc13⟩ := h13
    have e13 := e13.symm
    subst e13
    refine a_if_eq (tgt := 30) A dX4_share_16 (by decide) (by omega) (fun h16 => ?_) (fun h16 => ?_)
    · refine a_iconst A dX4_share_30 ?_
      exact m_zreturn A T0 dX4_share_31 (by first | exact Or.inl rfl | exact Or.inr rfl | omega) (by first | exact Or.inl ⟨rfl, by omega, rfl⟩ | exact Or.inr ⟨rfl, by omega, rfl⟩)
    · refine a_iload (z := d) A dX4_share_19 rfl ?_
      refine a_iconst A dX4_share_21 ?_
      refine a_bipush A dX4_share_22 (by decide) ?_
      refine m_invSi A (c_X4_within G _ d 0 8 M (by omega) (by omega) (by omega)) (by decide) mi_X4_within ms_X4_within cs_X4_51 dX4_share_24 rfl rfl (Nat.le_of_ble_eq_true rfl) (fun z24 M24 h24 => ?_)
      obtain ⟨e24, hc24⟩ := h24
      have e24 := e24.symm
      subst e24
      refine a_if_ne (tgt := 32) A dX4_share_27 (by decide) (by omega) (fun h27 => ?_) (fun h27 => ?_)
      · refine a_aload_n (z := 0) A dX4_share_32 rfl ?_
        refine gf_X4_12 (r := 1) A dX4_share_33 rfl (by decide) rfl ?_
        refine gf_X4_76 (r := 2) A dX4_share_36 rfl (by decide) rfl ?_
        refine a_iload_n (z := k) A dX4_share_39 rfl ?_
        refine a_aaload (i := k) (r := (3 + k.toNat)) A dX4_share_40 rfl (Or.inr rfl) (by decide) (by decide) (by omega) (rf2 (by omega)) ?_
        refine a_iconst A dX4_share_41 ?_
        refine a_iload_n (z := p) A dX4_share_42 rfl ?_
        refine a_iastore (i := 3) (j := 3) A dX4_share_43 (ly3 (by omega)) (by omega) (by decide) (by omega) rfl ?_
        refine a_aload_n (z := 0) A dX4_share_44 rfl ?_
        refine gf_X4_12 (r := 1) A dX4_share_45 rfl (by decide) rfl ?_
        refine gf_X4_76 (r := 2) A dX4_share_48 rfl (by decide) rfl ?_
        refine a_iload_n (z := k) A dX4_share_51 rfl ?_
        refine a_aaload (i := k) (r := (3 + k.toNat)) A dX4_share_52 rfl (Or.inr rfl) (by decide) (by decide) (by omega) (rf2 (by omega)) ?_
        refine a_iconst A dX4_share_53 ?_
        refine a_iload_n (z := q) A dX4_share_54 rfl ?_
        refine a_iastore (i := 4) (j := 4) A dX4_share_55 (ly3 (by omega)) (by omega) (by decide) (by omega) rfl ?_
        refine a_aload_n (z := 0) A dX4_share_56 rfl ?_
        refine gf_X4_12 (r := 1) A dX4_share_57 rfl (by decide) rfl ?_
        refine gf_X4_76 (r := 2) A dX4_share_60 rfl (by decide) rfl ?_
        refine a_iload_n (z := k) A dX4_share_63 rfl ?_
        refine a_aaload (i := k) (r := (3 + k.toNat)) A dX4_share_64 rfl (Or.inr rfl) (by decide) (by decide) (by omega) (rf2 (by omega)) ?_
        refine a_iconst A dX4_share_65 ?_
        refine a_iload (z := d) A dX4_share_66 rfl ?_
        refine a_iastore (i := 5) (j := 5) A dX4_share_68 (ly3 (by omega)) (by omega) (by decide) (by omega) rfl ?_
        refine a_iconst A dX4_share_69 ?_
        exact m_zreturn A T0 dX4_share_70 (by first | exact Or.inl rfl | exact Or.inr rfl | omega) (by first | exact Or.inl ⟨rfl, by omega, rfl⟩ | exact Or.inr ⟨rfl, by omega, rfl⟩)
      · refine a_iconst A dX4_share_30 ?_
        exact m_zreturn A T0 dX4_share_31 (by first | exact Or.inl rfl | exact Or.inr rfl | omega) (by first | exact Or.inl ⟨rfl, by omega, rfl⟩ | exact Or.inr ⟨rfl, by omega, rfl⟩)
set_option maxRecDepth 100000 in
set_option maxHeartbeats 4000000 in
theorem c_X4_tell (G : GG) (l : Launch) (k w : Int) (M : MM) (hk : I32 k) (hw : I32 w) (hL : 0 ≤ M 1 1 ∧ M 1 1 ≤ 10) : CMi G l yX4_tell cX4_tell 3 (some .int) 3 [.ref 0, vi k, vi w] M (fun z M' => M' = M ∧ ((z = -1 ∧ ¬ ((0 ≤ k ∧ k < M 1 1) ∧ 0 ≤ w ∧ w ≤ 7)) ∨ (((0 ≤ k ∧ k < M 1 1) ∧ 0 ≤ w ∧ w ≤ 7) ∧ z = M (3 + k.toNat) w.toNat))) := by
  refine CT.intro (by decide) (Nat.le_of_ble_eq_true rfl) (fun E hE A T0 => ?_)
  subst hE
  refine a_aload_n (z := 0) A dX4_tell_0 rfl ?_
  refine gf_X4_12 (r := 1) A dX4_tell_1 rfl (by decide) rfl ?_
  refine a_iload_n (z := k) A dX4_tell_4 rfl ?_
  refine m_invVi A (c_X1_hasLane G _ k M (by omega) hL) (by decide) mi_X1_hasLane mv_X1_hasLane cs_X4_80 cf1 dX4_tell_5 rfl (by decide) rfl rfl (Nat.le_of_ble_eq_true rfl) (fun z5 M5 h5 => ?_)
  obtain ⟨e5, hc5⟩ := h5
  have e5 := e5.symm
  subst e5
  refine a_if_eq (tgt := 21) A dX4_tell_8 (by decide) (by omega) (fun h8 => ?_) (fun h8 => ?_)
  · refine a_iconst A dX4_tell_21 ?_
    exact m_ireturn A T0 dX4_tell_22 (by first | exact ⟨rfl, Or.inl ⟨rfl, by omega⟩⟩ | exact ⟨rfl, Or.inr ⟨by omega, rfl⟩⟩)
  · refine a_iload_n (z := w) A dX4_tell_11 rfl ?_
    refine a_iconst A dX4_tell_12 ?_
    refine a_bipush A dX4_tell_13 (by decide) ?_
    refine m_invSi A (c_X4_within G _ w 0 7 M (by omega) (by omega) (by omega)) (by decide) mi_X4_within ms_X4_within cs_X4_51 dX4_tell_15 rfl rfl (Nat.le_of_ble_eq_true rfl) (fun z15 M15 h15 => ?_)
    obtain ⟨e15, hc15⟩ := h15
    have e15 := e15.symm
    subst e15
    refine a_if_ne (tgt := 23) A dX4_tell_18 (by decide) (by omega) (fun h18 => ?_) (fun h18 => ?_)
    · refine a_aload_n (z := 0) A dX4_tell_23 rfl ?_
      refine gf_X4_12 (r := 1) A dX4_tell_24 rfl (by decide) rfl ?_
      refine gf_X4_76 (r := 2) A dX4_tell_27 rfl (by decide) rfl ?_
      refine a_iload_n (z := k) A dX4_tell_30 rfl ?_
      refine a_aaload (i := k) (r := (3 + k.toNat)) A dX4_tell_31 rfl (Or.inr rfl) (by decide) (by decide) (by omega) (rf2 (by omega)) ?_
      refine a_iload_n (z := w) A dX4_tell_32 rfl ?_
      refine a_iaload (i := w) (x := M (3 + k.toNat) w.toNat) A dX4_tell_33 (ly3 (by omega)) (by omega) (by decide) (by omega) rfl ?_
      exact m_ireturn A T0 dX4_tell_34 (by first | exact ⟨rfl, Or.inl ⟨rfl, by omega⟩⟩ | exact ⟨rfl, Or.inr ⟨by omega, rfl⟩⟩)
    · refine a_iconst A dX4_tell_21 ?_
      exact m_ireturn A T0 dX4_tell_22 (by first | exact ⟨rfl, Or.inl ⟨rfl, by omega⟩⟩ | exact ⟨rfl, Or.inr ⟨by omega, rfl⟩⟩)
set_option maxRecDepth 100000 in
set_option maxHeartbeats 4000000 in
theorem c_X4_lane (G : GG) (l : Launch) (f t r p q : Int) (M : MM) (hf : I32 f) (ht : I32 t) (hr : I32 r) (hp : I32 p) (hq : I32 q) (hL : 0 ≤ M 1 1 ∧ M 1 1 ≤ 10) (hP : 2 ≤ M 1 0 ∧ M 1 0 ≤ 5) : CMi G l yX4_lane cX4_lane 8 (some .int) 4 [.ref 0, vi f, vi t, vi r, vi p, vi q] M (fun z M' => (z = -1 ∧ ¬ (M 1 1 < 10 ∧ ((0 ≤ f ∧ f < M 1 0 - 1) ∧ (0 < t ∧ t < M 1 0) ∧ f ≠ t) ∧ (0 ≤ r ∧ r ≤ 100) ∧ 1 ≤ p ∧ p ≤ 9 ∧ 1 ≤ q ∧ q ≤ 9) ∧ M' = M) ∨ ((M 1 1 < 10 ∧ ((0 ≤ f ∧ f < M 1 0 - 1) ∧ (0 < t ∧ t < M 1 0) ∧ f ≠ t) ∧ (0 ≤ r ∧ r ≤ 100) ∧ 1 ≤ p ∧ p ≤ 9 ∧ 1 ≤ q ∧ q ≤ 9) ∧ z = M 1 1 ∧ M' = up2 (up2 (up2 (up2 (up2 (up2 (up2 (up2 (up2 M (3 + (M 1 1).toNat) 0 f) (3 + (M 1 1).toNat) 1 t) (3 + (M 1 1).toNat) 2 r) (3 + (M 1 1).toNat) 3 p) (3 + (M 1 1).toNat) 4 q) (3 + (M 1 1).toNat) 5 0) (3 + (M 1 1).toNat) 6 0) (3 + (M 1 1).toNat) 7 1) 1 1 (M 1 1 + 1))) := by
  refine CT.intro (by decide) (Nat.le_of_ble_eq_true rfl) (fun E hE A T0 => ?_)
  subst hE
  refine a_aload_n (z := 0) A dX4_lane_0 rfl ?_
  refine gf_X4_12 (r := 1) A dX4_lane_1 rfl (by decide) rfl ?_
  refine gf_X4_59 (x := M 1 1) A dX4_lane_4 rfl (by decide) rfl ?_
  refine a_bipush A dX4_lane_7 (by decide) ?_
  refine a_icmp_ge (tgt := 24) A dX4_lane_9 (by decide) (by omega) (by omega) (fun h9 => ?_) (fun h9 => ?_)
  · refine a_iconst A dX4_lane_24 ?_
    exact m_ireturn A T0 dX4_lane_25 (by first | exact Or.inl ⟨rfl, by omega, rfl⟩ | exact Or.inr ⟨by omega, rfl, rfl⟩)
  · refine a_aload_n (z := 0) A dX4_lane_12 rfl ?_
    refine gf_X4_12 (r := 1) A dX4_lane_13 rfl (by decide) rfl ?_
    refine a_iload_n (z := f) A dX4_lane_16 rfl ?_
    refine a_iload_n (z := t) A dX4_lane_17 rfl ?_
    refine m_invVi A (c_X1_canLead G _ f t M (by omega) (by omega) hP) (by decide) mi_X1_canLead mv_X1_canLead cs_X4_65 cf1 dX4_lane_18 rfl (by decide) rfl rfl (Nat.le_of_ble_eq_true rfl) (fun z18 M18 h18 => ?_)
    obtain ⟨e18, hc18⟩ := h18
    have e18 := e18.symm
    subst e18
    refine a_if_ne (tgt := 26) A dX4_lane_21 (by decide) (by omega) (fun h21 => ?_) (fun h21 => ?_)
    · refine a_iload_n (z := r) A dX4_lane_26 rfl ?_
      refine m_invSi A (c_X4_isRoom G _ r M (by omega)) (by decide) mi_X4_isRoom ms_X4_isRoom cs_X4_69 dX4_lane_27 rfl rfl (Nat.le_of_ble_eq_true rfl) (fun z27 M27 h27 => ?_)
      obtain ⟨e27, hc27⟩ := h27
      have e27 := e27.symm
      subst e27
      refine a_if_eq (tgt := 43) A dX4_lane_30 (by decide) (by omega) (fun h30 => ?_) (fun h30 => ?_)
      · refine a_iconst A dX4_lane_43 ?_
        exact m_ireturn A T0 dX4_lane_44 (by first | exact Or.inl ⟨rfl, by omega, rfl⟩ | exact Or.inr ⟨by omega, rfl, rfl⟩)
      · refine a_iload (z := p) A dX4_lane_33 rfl ?_
        refine a_iload (z := q) A dX4_lane_35 rfl ?_
        refine m_invSi A (c_X4_isShare G _ p q M (by omega) (by omega)) (by decide) mi_X4_isShare ms_X4_isShare cs_X4_73 dX4_lane_37 rfl rfl (Nat.le_of_ble_eq_true rfl) (fun z37 M37 h37 => ?_)
        obtain ⟨e37, hc37⟩ := h37
        have e37 := e37.symm
        subst e37
        refine a_if_ne (tgt := 45) A dX4_lane_40 (by decide) (by omega) (fun h40 => ?_) (fun h40 => ?_)
        · refine a_aload_n (z := 0) A dX4_lane_45 rfl ?_
          refine gf_X4_12 (r := 1) A dX4_lane_46 rfl (by decide) rfl ?_
          refine gf_X4_59 (x := M 1 1) A dX4_lane_49 rfl (by decide) rfl ?_
          refine a_istore (lv' := [.ref 0, vi f, vi t, vi r, vi p, vi q, vi (M 1 1), jk]) A dX4_lane_52 (by decide) rfl ?_
          refine a_aload_n (z := 0) A dX4_lane_54 rfl ?_
          refine gf_X4_12 (r := 1) A dX4_lane_55 rfl (by decide) rfl ?_
          refine gf_X4_76 (r := 2) A dX4_lane_58 rfl (by decide) rfl ?_
          refine a_iload (z := (M 1 1)) A dX4_lane_61 rfl ?_
          refine a_aaload (i := (M 1 1)) (r := (3 + (M 1 1).toNat)) A dX4_lane_63 rfl (Or.inr rfl) (by decide) (by decide) (by omega) (rf2 (by omega)) ?_
          refine a_astore (lv' := [.ref 0, vi f, vi t, vi r, vi p, vi q, vi (M 1 1), .ref (3 + (M 1 1).toNat)]) A dX4_lane_64 (by decide) rfl ?_
          refine a_aload (z := (3 + (M 1 1).toNat)) A dX4_lane_66 rfl ?_
          refine a_iconst A dX4_lane_68 ?_
          refine a_iload_n (z := f) A dX4_lane_69 rfl ?_
          refine a_iastore (i := 0) (j := 0) A dX4_lane_70 (ly3 (by omega)) (by omega) (by decide) (by omega) rfl ?_
          refine a_aload (z := (3 + (M 1 1).toNat)) A dX4_lane_71 rfl ?_
          refine a_iconst A dX4_lane_73 ?_
          refine a_iload_n (z := t) A dX4_lane_74 rfl ?_
          refine a_iastore (i := 1) (j := 1) A dX4_lane_75 (ly3 (by omega)) (by omega) (by decide) (by omega) rfl ?_
          refine a_aload (z := (3 + (M 1 1).toNat)) A dX4_lane_76 rfl ?_
          refine a_iconst A dX4_lane_78 ?_
          refine a_iload_n (z := r) A dX4_lane_79 rfl ?_
          refine a_iastore (i := 2) (j := 2) A dX4_lane_80 (ly3 (by omega)) (by omega) (by decide) (by omega) rfl ?_
          refine a_aload (z := (3 + (M 1 1).toNat)) A dX4_lane_81 rfl ?_
          refine a_iconst A dX4_lane_83 ?_
          refine a_iload (z := p) A dX4_lane_84 rfl ?_
          refine a_iastore (i := 3) (j := 3) A dX4_lane_86 (ly3 (by omega)) (by omega) (by decide) (by omega) rfl ?_
          refine a_aload (z := (3 + (M 1 1).toNat)) A dX4_lane_87 rfl ?_
          refine a_iconst A dX4_lane_89 ?_
          refine a_iload (z := q) A dX4_lane_90 rfl ?_
          refine a_iastore (i := 4) (j := 4) A dX4_lane_92 (ly3 (by omega)) (by omega) (by decide) (by omega) rfl ?_
          refine a_aload (z := (3 + (M 1 1).toNat)) A dX4_lane_93 rfl ?_
          refine a_iconst A dX4_lane_95 ?_
          refine a_iconst A dX4_lane_96 ?_
          refine a_iastore (i := 5) (j := 5) A dX4_lane_97 (ly3 (by omega)) (by omega) (by decide) (by omega) rfl ?_
          refine a_aload (z := (3 + (M 1 1).toNat)) A dX4_lane_98 rfl ?_
          refine a_bipush A dX4_lane_100 (by decide) ?_
          refine a_iconst A dX4_lane_102 ?_
          refine a_iastore (i := 6) (j := 6) A dX4_lane_103 (ly3 (by omega)) (by omega) (by decide) (by omega) rfl ?_
          refine a_aload (z := (3 + (M 1 1).toNat)) A dX4_lane_104 rfl ?_
          refine a_bipush A dX4_lane_106 (by decide) ?_
          refine a_iconst A dX4_lane_108 ?_
          refine a_iastore (i := 7) (j := 7) A dX4_lane_109 (ly3 (by omega)) (by omega) (by decide) (by omega) rfl ?_
          refine a_aload_n (z := 0) A dX4_lane_110 rfl ?_
          refine gf_X4_12 (r := 1) A dX4_lane_111 rfl (by decide) rfl ?_
          refine a_iload (z := (M 1 1)) A dX4_lane_114 rfl ?_
          refine a_iconst A dX4_lane_116 ?_
          refine a_iadd (x := (M 1 1)) (y := 1) A dX4_lane_117 ?_
          refine pf_X4_59 A dX4_lane_118 rfl (by decide) ?_
          refine a_iload (z := (M 1 1)) A dX4_lane_121 rfl ?_
          exact m_ireturn A T0 dX4_lane_123 (by first | exact Or.inl ⟨rfl, by omega, rfl⟩ | exact Or.inr ⟨by omega, rfl, rfl⟩)
        · refine a_iconst A dX4_lane_43 ?_
          exact m_ireturn A T0 dX4_lane_44 (by first | exact Or.inl ⟨rfl, by omega, rfl⟩ | exact Or.inr ⟨by omega, rfl, rfl⟩)
    · refine a_iconst A dX4_lane_24 ?_
      exact m_ireturn A T0 dX4_lane_25 (by first | exact Or.inl ⟨rfl, by omega, rfl⟩ | exact Or.inr ⟨by omega, rfl, rfl⟩)
set_option maxRecDepth 100000 in
set_option maxHeartbeats 4000000 in
theorem c_X4_row (G : GG) (l : Launch) (k : Int) (M : MM) (hk : I32 k) (hh : 0 ≤ M 1 4 ∧ M 1 4 ≤ 4) : CMi G l yX4_row cX4_row 2 (some .int) 2 [.ref 0, vi k] M (fun z M' => M' = M ∧ ((z = -1 ∧ ¬ (0 ≤ k ∧ k < M 1 4)) ∨ ((0 ≤ k ∧ k < M 1 4) ∧ z = M 13 k.toNat))) := by
  refine CT.intro (by decide) (Nat.le_of_ble_eq_true rfl) (fun E hE A T0 => ?_)
  subst hE
  refine a_iload_n (z := k) A dX4_row_0 rfl ?_
  refine a_iconst A dX4_row_1 ?_
  refine a_aload_n (z := 0) A dX4_row_2 rfl ?_
  refine gf_X4_12 (r := 1) A dX4_row_3 rfl (by decide) rfl ?_
  refine gf_X4_120 (x := M 1 4) A dX4_row_6 rfl (by decide) rfl ?_
  refine a_iconst A dX4_row_9 ?_
  refine a_isub (x := (M 1 4)) (y := 1) A dX4_row_10 ?_
  refine m_invSi A (c_X4_within G _ k 0 ((M 1 4) - 1) M (by omega) (by omega) (by omega)) (by decide) mi_X4_within ms_X4_within cs_X4_51 dX4_row_11 rfl rfl (Nat.le_of_ble_eq_true rfl) (fun z11 M11 h11 => ?_)
  obtain ⟨e11, hc11⟩ := h11
  have e11 := e11.symm
  subst e11
  refine a_if_eq (tgt := 29) A dX4_row_14 (by decide) (by omega) (fun h14 => ?_) (fun h14 => ?_)
  · refine a_iconst A dX4_row_29 ?_
    exact m_ireturn A T0 dX4_row_30 (by first | exact ⟨rfl, Or.inl ⟨rfl, by omega⟩⟩ | exact ⟨rfl, Or.inr ⟨by omega, rfl⟩⟩)
  · refine a_aload_n (z := 0) A dX4_row_17 rfl ?_
    refine gf_X4_12 (r := 1) A dX4_row_18 rfl (by decide) rfl ?_
    refine gf_X4_123 (r := 13) A dX4_row_21 rfl (by decide) rfl ?_
    refine a_iload_n (z := k) A dX4_row_24 rfl ?_
    refine a_iaload (i := k) (x := M 13 k.toNat) A dX4_row_25 rfl (by decide) (by decide) (by omega) rfl ?_
    refine a_goto (tgt := 30) A dX4_row_26 (by decide) ?_
    exact m_ireturn A T0 dX4_row_30 (by first | exact ⟨rfl, Or.inl ⟨rfl, by omega⟩⟩ | exact ⟨rfl, Or.inr ⟨by omega, rfl⟩⟩)
set_option maxRecDepth 100000 in
set_option maxHeartbeats 4000000 in
theorem c_X4_takeBestRow (G : GG) (l : Launch) (M : MM) (h4 : I32 (M 16 4)) : CMi G l yX4_takeBestRow cX4_takeBestRow 1 (some .int) 2 [.ref 0] M (fun z M' => (M 16 4 = 0 ∧ z = -1 ∧ M' = M) ∨ (M 16 4 ≠ 0 ∧ z = M 16 4 ∧ M' = up2 (cp2 M 19 13 4) 1 4 (M 16 4))) := by
  refine CT.intro (by decide) (Nat.le_of_ble_eq_true rfl) (fun E hE A T0 => ?_)
  subst hE
  refine a_aload_n (z := 0) A dX4_takeBestRow_0 rfl ?_
  refine gf_X4_27 (r := 16) A dX4_takeBestRow_1 rfl (by decide) rfl ?_
  refine gf_X4_153 (x := M 16 4) A dX4_takeBestRow_4 rfl (by decide) rfl ?_
  refine a_if_ne (tgt := 12) A dX4_takeBestRow_7 (by decide) (by omega) (fun h7 => ?_) (fun h7 => ?_)
  · refine a_aload_n (z := 0) A dX4_takeBestRow_12 rfl ?_
    refine gf_X4_12 (r := 1) A dX4_takeBestRow_13 rfl (by decide) rfl ?_
    refine a_aload_n (z := 0) A dX4_takeBestRow_16 rfl ?_
    refine gf_X4_27 (r := 16) A dX4_takeBestRow_17 rfl (by decide) rfl ?_
    refine gf_X4_156 (r := 19) A dX4_takeBestRow_20 rfl (by decide) rfl ?_
    refine a_aload_n (z := 0) A dX4_takeBestRow_23 rfl ?_
    refine gf_X4_27 (r := 16) A dX4_takeBestRow_24 rfl (by decide) rfl ?_
    refine gf_X4_153 (x := M 16 4) A dX4_takeBestRow_27 rfl (by decide) rfl ?_
    refine m_invVv A (c_X1_takeRow G _ 1 19 (M 16 4) M nb1 rfl (by decide)) (by decide) mi_X1_takeRow mv_X1_takeRow cs_X4_159 cf1 dX4_takeBestRow_30 rfl (by decide) rfl rfl (Nat.le_of_ble_eq_true rfl) (fun M30 h30 => ?_)
    have h30 := h30.symm
    subst h30
    refine a_aload_n (z := 0) A dX4_takeBestRow_33 rfl ?_
    refine gf_X4_27 (r := 16) A dX4_takeBestRow_34 rfl (by decide) rfl ?_
    refine gf_X4_153 (x := M 16 4) A dX4_takeBestRow_37 rfl (by decide) rfl ?_
    exact m_ireturn A T0 dX4_takeBestRow_40 (by first | exact Or.inl ⟨h7, rfl, rfl⟩ | exact Or.inr ⟨h7, rfl, rfl⟩)
  · refine a_iconst A dX4_takeBestRow_10 ?_
    exact m_ireturn A T0 dX4_takeBestRow_11 (by first | exact Or.inl ⟨h7, rfl, rfl⟩ | exact Or.inr ⟨h7, rfl, rfl⟩)
theorem zq_rf14 {j : Nat} (h : j < 3) : rF 14 j = some (45 + 13 * j) := if_pos h
theorem zq_nb {j : Nat} (h : j < 3) : NB (45 + 13 * j) := by unfold NB; omega
set_option maxRecDepth 100000 in
set_option maxHeartbeats 4000000 in
theorem c_X4_image (G : GG) (l : Launch) (k : Int) (M : MM) (hk : I32 k) (hL : 0 ≤ M 1 1 ∧ M 1 1 ≤ 10) : CMi G l yX4_image cX4_image 2 (some .boolean) 3 [.ref 0, vi k] M (fun z M' => (z = 0 ∧ ¬ (0 ≤ k ∧ k ≤ 2) ∧ M' = M) ∨ (z = 1 ∧ (0 ≤ k ∧ k ≤ 2) ∧ M' = up2 (tkN M (45 + 13 * k.toNat) 1) 15 k.toNat 1)) := by
  refine CT.intro (by decide) (Nat.le_of_ble_eq_true rfl) (fun E hE A T0 => ?_)
  subst hE
  refine a_iload_n (z := k) A dX4_image_0 rfl ?_
  refine a_iconst A dX4_image_1 ?_
  refine a_iconst A dX4_image_2 ?_
  refine m_invSi A (c_X4_within G _ k 0 2 M (by omega) (by omega) (by omega)) (by decide) mi_X4_within ms_X4_within cs_X4_51 dX4_image_3 rfl rfl (Nat.le_of_ble_eq_true rfl) (fun z3 M3 h3 => ?_)
  obtain ⟨e3, hc3⟩ := h3
  have e3 := e3.symm
  subst e3
  refine a_if_ne (tgt := 11) A dX4_image_6 (by decide) (by omega) (fun h6 => ?_) (fun h6 => ?_)
  · refine a_aload_n (z := 0) A dX4_image_11 rfl ?_
    refine gf_X4_16 (r := 14) A dX4_image_12 rfl (by decide) rfl ?_
    refine a_iload_n (z := k) A dX4_image_15 rfl ?_
    refine a_aaload (i := k) (r := (45 + 13 * k.toNat)) A dX4_image_16 rfl (Or.inl rfl) (by decide) (by decide) (by omega) (zq_rf14 (by omega)) ?_
    refine a_aload_n (z := 0) A dX4_image_17 rfl ?_
    refine gf_X4_12 (r := 1) A dX4_image_18 rfl (by decide) rfl ?_
    refine m_invVv A (c_X1_take G _ (45 + 13 * k.toNat) 1 M (zq_nb (by omega)) nb1 (by omega) hL) (by decide) mi_X1_take mv_X1_take cs_X4_150 cf1 dX4_image_21 (zq_nb (show k.toNat < 3 by omega)).l0 (by omega) rfl rfl (Nat.le_of_ble_eq_true rfl) (fun M21 h21 => ?_)
    have h21 := h21.symm
    subst h21
    refine a_aload_n (z := 0) A dX4_image_24 rfl ?_
    refine gf_X4_20 (r := 15) A dX4_image_25 rfl (by decide) rfl ?_
    refine a_iload_n (z := k) A dX4_image_28 rfl ?_
    refine a_iconst A dX4_image_29 ?_
    refine a_bastore (i := k) (j := k.toNat) A dX4_image_30 rfl (by decide) (by decide) (by omega) rfl (Or.inr rfl) ?_
    refine a_iconst A dX4_image_31 ?_
    exact m_zreturn A T0 dX4_image_32 (by first | exact Or.inl rfl | exact Or.inr rfl | omega) (by first | exact Or.inl ⟨rfl, by omega, rfl⟩ | exact Or.inr ⟨rfl, by omega, rfl⟩)
  · refine a_iconst A dX4_image_9 ?_
    exact m_zreturn A T0 dX4_image_10 (by first | exact Or.inl rfl | exact Or.inr rfl | omega) (by first | exact Or.inl ⟨rfl, by omega, rfl⟩ | exact Or.inr ⟨rfl, by omega, rfl⟩)
set_option maxRecDepth 100000 in
set_option maxHeartbeats 4000000 in
theorem c_X4_again (G : GG) (l : Launch) (k : Int) (M : MM) (hk : I32 k) (h15 : ∀ j, j < 3 → M 15 j = 0 ∨ M 15 j = 1) (hS : ∀ j, j < 3 → M 15 j ≠ 0 → 0 ≤ M (45 + 13 * j) 1 ∧ M (45 + 13 * j) 1 ≤ 10) : CMi G l yX4_again cX4_again 2 (some .boolean) 3 [.ref 0, vi k] M (fun z M' => (z = 0 ∧ ¬ ((0 ≤ k ∧ k ≤ 2) ∧ M 15 k.toNat ≠ 0) ∧ M' = M) ∨ (z = 1 ∧ ((0 ≤ k ∧ k ≤ 2) ∧ M 15 k.toNat ≠ 0) ∧ M' = tkN M 1 (45 + 13 * k.toNat))) := by
  refine CT.intro (by decide) (Nat.le_of_ble_eq_true rfl) (fun E hE A T0 => ?_)
  subst hE
  have h15k : 0 ≤ k ∧ k ≤ 2 → M 15 k.toNat = 0 ∨ M 15 k.toNat = 1 := fun q => h15 k.toNat (by omega)
  refine a_iload_n (z := k) A dX4_again_0 rfl ?_
  refine a_iconst A dX4_again_1 ?_
  refine a_iconst A dX4_again_2 ?_
  refine m_invSi A (c_X4_within G _ k 0 2 M (by omega) (by omega) (by omega)) (by decide) mi_X4_within ms_X4_within cs_X4_51 dX4_again_3 rfl rfl (Nat.le_of_ble_eq_true rfl) (fun z3 M3 h3 => ?_)
  obtain ⟨e3, hc3⟩ := h3
  have e3 := e3.symm
  subst e3
  refine a_if_eq (tgt := 18) A dX4_again_6 (by decide) (by omega) (fun h6 => ?_) (fun h6 => ?_)
  · refine a_iconst A dX4_again_18 ?_
    exact m_zreturn A T0 dX4_again_19 (by first | exact Or.inl rfl | exact Or.inr rfl | omega) (by first | exact Or.inl ⟨rfl, by omega, rfl⟩ | exact Or.inr ⟨rfl, by omega, rfl⟩)
  · refine a_aload_n (z := 0) A dX4_again_9 rfl ?_
    refine gf_X4_20 (r := 15) A dX4_again_10 rfl (by decide) rfl ?_
    refine a_iload_n (z := k) A dX4_again_13 rfl ?_
    refine a_baload (i := k) (x := M 15 k.toNat) A dX4_again_14 rfl (by decide) (by decide) (by omega) rfl ?_
    refine a_if_ne (tgt := 20) A dX4_again_15 (by decide) (by omega) (fun h15 => ?_) (fun h15 => ?_)
    · refine a_aload_n (z := 0) A dX4_again_20 rfl ?_
      refine gf_X4_12 (r := 1) A dX4_again_21 rfl (by decide) rfl ?_
      refine a_aload_n (z := 0) A dX4_again_24 rfl ?_
      refine gf_X4_16 (r := 14) A dX4_again_25 rfl (by decide) rfl ?_
      refine a_iload_n (z := k) A dX4_again_28 rfl ?_
      refine a_aaload (i := k) (r := (45 + 13 * k.toNat)) A dX4_again_29 rfl (Or.inl rfl) (by decide) (by decide) (by omega) (zq_rf14 (by omega)) ?_
      refine m_invVv A (c_X1_take G _ 1 (45 + 13 * k.toNat) M nb1 (zq_nb (by omega)) (by omega) (hS k.toNat (by omega) (by omega))) (by decide) mi_X1_take mv_X1_take cs_X4_150 cf1 dX4_again_30 rfl (by decide) rfl rfl (Nat.le_of_ble_eq_true rfl) (fun M30 h30 => ?_)
      have h30 := h30.symm
      subst h30
      refine a_iconst A dX4_again_33 ?_
      exact m_zreturn A T0 dX4_again_34 (by first | exact Or.inl rfl | exact Or.inr rfl | omega) (by first | exact Or.inl ⟨rfl, by omega, rfl⟩ | exact Or.inr ⟨rfl, by omega, rfl⟩)
    · refine a_iconst A dX4_again_18 ?_
      exact m_zreturn A T0 dX4_again_19 (by first | exact Or.inl rfl | exact Or.inr rfl | omega) (by first | exact Or.inl ⟨rfl, by omega, rfl⟩ | exact Or.inr ⟨rfl, by omega, rfl⟩)
