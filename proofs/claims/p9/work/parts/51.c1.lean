/-! the class's net: cell b, its row of lanes b + 1, its lanes b + 2 .. b + 11, its row at hand b + 12 -/
def NB (b : Nat) : Prop := b = 1 ∨ b = 45 ∨ b = 58 ∨ b = 71
theorem NB.l0 {b : Nat} (h : NB b) : ly b = (1, 0) := by rcases h with rfl | rfl | rfl | rfl <;> rfl
theorem NB.l1 {b : Nat} (h : NB b) : ly (b + 1) = (10, 10) := by rcases h with rfl | rfl | rfl | rfl <;> rfl
theorem NB.lh {b : Nat} (h : NB b) : ly (b + 12) = (6, 4) := by rcases h with rfl | rfl | rfl | rfl <;> rfl
theorem ly_rows : ∀ i, i < 10 → ly (1 + 2 + i) = (6, 8) ∧ ly (45 + 2 + i) = (6, 8) ∧ ly (58 + 2 + i) = (6, 8) ∧ ly (71 + 2 + i) = (6, 8) := by decide
theorem NB.lr {b i : Nat} (h : NB b) (hi : i < 10) : ly (b + 2 + i) = (6, 8) := by
  have q := ly_rows i hi
  rcases h with rfl | rfl | rfl | rfl
  · exact q.1
  · exact q.2.1
  · exact q.2.2.1
  · exact q.2.2.2
theorem NB.r2 {b : Nat} (h : NB b) : rF b 2 = some (b + 1) := by rcases h with rfl | rfl | rfl | rfl <;> rfl
theorem NB.r3 {b : Nat} (h : NB b) : rF b 3 = some (b + 12) := by rcases h with rfl | rfl | rfl | rfl <;> rfl
theorem NB.ra {b i : Nat} (h : NB b) (hi : i < 10) : rF (b + 1) i = some (b + 2 + i) := by
  rcases h with rfl | rfl | rfl | rfl
  · exact if_pos hi
  · exact if_pos hi
  · exact if_pos hi
  · exact if_pos hi
theorem NB.lt {b : Nat} (h : NB b) : b + 12 < 108 := by unfold NB at h; omega
theorem NB.far {b e : Nat} (hb : NB b) (he : NB e) (h : b ≠ e) : b + 13 ≤ e ∨ e + 13 ≤ b := by unfold NB at hb he; omega
theorem nb1 : NB 1 := Or.inl rfl
theorem ly3 {i : Nat} (h : i < 10) : ly (3 + i) = (6, 8) := nb1.lr h
theorem rf2 {i : Nat} (h : i < 10) : rF 2 i = some (3 + i) := nb1.ra h
/-- s lanes of net e come to net b -/
def tnK (M : MM) (b e s : Nat) : MM := fun c => if b + 2 ≤ c ∧ c < b + 2 + s then (fun j => if j < 8 then M (e + (c - b)) j else M c j) else M c
theorem tnK_0 (M : MM) (b e : Nat) : tnK M b e 0 = M := by funext c; unfold tnK; rw [if_neg (by omega)]
theorem tnK_ne (M : MM) {b e s c : Nat} (h : c < b + 2 ∨ b + 2 + s ≤ c) : tnK M b e s c = M c := by unfold tnK; rw [if_neg (by omega)]
theorem tnK_in (M : MM) {b e s i : Nat} (h : i < s) {j : Nat} (hj : j < 8) : tnK M b e s (b + 2 + i) j = M (e + 2 + i) j := by unfold tnK; rw [if_pos (by omega)]; show (if j < 8 then _ else _) = _; rw [if_pos hj, show e + (b + 2 + i - b) = e + 2 + i by omega]
theorem tnK_succ (M : MM) {b e i : Nat} (hb : NB b) (he : NB e) (hne : b ≠ e) (hi : i < 10) : cp2 (tnK M b e i) (e + 2 + i) (b + 2 + i) 8 = tnK M b e (i + 1) := by
  have hf := hb.far he hne
  funext c
  unfold cp2
  by_cases h : c = b + 2 + i
  · subst h
    rw [if_pos rfl]
    funext j
    have e1 : tnK M b e i (e + 2 + i) = M (e + 2 + i) := tnK_ne M (by omega)
    have e2 : tnK M b e i (b + 2 + i) = M (b + 2 + i) := tnK_ne M (by omega)
    show (if j < 8 then tnK M b e i (e + 2 + i) j else tnK M b e i (b + 2 + i) j) = _
    rw [e1, e2]
    have e3 : tnK M b e (i + 1) (b + 2 + i) = fun j => if j < 8 then M (e + (b + 2 + i - b)) j else M (b + 2 + i) j := if_pos (by omega)
    rw [e3, show e + (b + 2 + i - b) = e + 2 + i by omega]
  · rw [if_neg h]
    unfold tnK
    by_cases h2 : b + 2 ≤ c ∧ c < b + 2 + i
    · rw [if_pos h2, if_pos (by omega)]
    · rw [if_neg h2, if_neg (by omega)]
/-- net b becomes as net e -/
def tkN (M : MM) (b e : Nat) : MM := up2 (cp2 (tnK (up2 (up2 M b 0 (M e 0)) b 1 (M e 1)) b e (M e 1).toNat) (e + 12) (b + 12) 4) b 4 (M e 4)
/-- a lane of the net that is -/
def CL (M : MM) (i : Nat) : Prop := 0 ≤ M (3 + i) 0 ∧ M (3 + i) 0 < M 1 0 - 1 ∧ 0 < M (3 + i) 1 ∧ M (3 + i) 1 < M 1 0 ∧ M (3 + i) 0 ≠ M (3 + i) 1 ∧ 0 ≤ M (3 + i) 2 ∧ M (3 + i) 2 ≤ 100 ∧ 1 ≤ M (3 + i) 3 ∧ M (3 + i) 3 ≤ 9 ∧ 1 ≤ M (3 + i) 4 ∧ M (3 + i) 4 ≤ 9 ∧ 0 ≤ M (3 + i) 5 ∧ M (3 + i) 5 ≤ 8 ∧ 0 ≤ M (3 + i) 6 ∧ M (3 + i) 6 ≤ 1000 ∧ 1 ≤ M (3 + i) 7 ∧ M (3 + i) 7 ≤ 9
def CW (M : MM) : Prop := (2 ≤ M 1 0 ∧ M 1 0 ≤ 5) ∧ (0 ≤ M 1 1 ∧ M 1 1 ≤ 10) ∧ ∀ i : Nat, (i : Int) < M 1 1 → CL M i
def balF (M : MM) (v : Int) : Nat → Int := fun k => (if M (3 + k) 1 = v then M (3 + k) 6 * (2520 : Int).tdiv (M (3 + k) 7) * M (3 + k) 3 * (2520 : Int).tdiv (M (3 + k) 4) else 0) - (if M (3 + k) 0 = v then M (3 + k) 6 * (2520 : Int).tdiv (M (3 + k) 7) * 2520 else 0)
theorem parts_bd {q : Int} (h : 1 ≤ q ∧ q ≤ 9) : 1 ≤ (2520 : Int).tdiv q ∧ (2520 : Int).tdiv q ≤ 2520 := by
  have : q = 1 ∨ q = 2 ∨ q = 3 ∨ q = 4 ∨ q = 5 ∨ q = 6 ∨ q = 7 ∨ q = 8 ∨ q = 9 := by omega
  rcases this with rfl | rfl | rfl | rfl | rfl | rfl | rfl | rfl | rfl <;> decide
set_option maxRecDepth 100000 in
set_option maxHeartbeats 4000000 in
theorem c_X1_takeRow (G : GG) (l : Launch) (b r : Nat) (n : Int) (M : MM) (hb : NB b) (hlr : ly r = (6, 4)) (hr : r < 108) : CMv G l yX1_takeRow cX1_takeRow 3 none 1 [.ref b, .ref r, vi n] M (fun M' => M' = up2 (cp2 M r (b + 12) 4) b 4 n) := by
  refine CT.intro (by decide) (Nat.le_of_ble_eq_true rfl) (fun E hE A T0 => ?_)
  subst hE
  have hbl := hb.lt
  refine a_aload_n (z := r) A dX1_takeRow_0 rfl ?_
  refine a_iconst A dX1_takeRow_1 ?_
  refine a_aload_n (z := b) A dX1_takeRow_2 rfl ?_
  refine gf_X1_23 (r := (b + 12)) A dX1_takeRow_3 hb.l0 (by omega) hb.r3 ?_
  refine a_iconst A dX1_takeRow_6 ?_
  refine a_iconst A dX1_takeRow_7 ?_
  refine a_copy (m := 4) A cj_X1_30 j_cp1 j_cp2 j_sys dX1_takeRow_8 (by decide) (Nat.le_of_ble_eq_true rfl) hlr hr hb.lh (by omega) (by omega) ?_
  refine a_aload_n (z := b) A dX1_takeRow_11 rfl ?_
  refine a_iload_n (z := n) A dX1_takeRow_12 rfl ?_
  refine pf_X1_27 A dX1_takeRow_13 hb.l0 (by omega) ?_
  exact m_return A T0 dX1_takeRow_16 (by rfl)
set_option maxRecDepth 100000 in
set_option maxHeartbeats 4000000 in
theorem c_X1_dropRow (G : GG) (l : Launch) (M : MM)  : CMv G l yX1_dropRow cX1_dropRow 1 none 1 [.ref 1] M (fun M' => M' = up2 M 1 4 0) := by
  refine CT.intro (by decide) (Nat.le_of_ble_eq_true rfl) (fun E hE A T0 => ?_)
  subst hE
  refine a_aload_n (z := 1) A dX1_dropRow_0 rfl ?_
  refine a_iconst A dX1_dropRow_1 ?_
  refine pf_X1_27 A dX1_dropRow_2 rfl (by decide) ?_
  exact m_return A T0 dX1_dropRow_5 (by rfl)
set_option maxRecDepth 100000 in
set_option maxHeartbeats 4000000 in
theorem c_X1_lastPost (G : GG) (l : Launch) (M : MM)  : CMi G l yX1_lastPost cX1_lastPost 1 (some .int) 1 [.ref 1] M (fun z M' => M' = M ∧ z = M 1 0 - 1) := by
  refine CT.intro (by decide) (Nat.le_of_ble_eq_true rfl) (fun E hE A T0 => ?_)
  subst hE
  refine a_aload_n (z := 1) A dX1_lastPost_0 rfl ?_
  refine gf_X1_9 (x := M 1 0) A dX1_lastPost_1 rfl (by decide) rfl ?_
  refine a_iconst A dX1_lastPost_4 ?_
  refine a_isub (x := (M 1 0)) (y := 1) A dX1_lastPost_5 ?_
  exact m_ireturn A T0 dX1_lastPost_6 (by exact ⟨rfl, rfl⟩)
set_option maxRecDepth 100000 in
set_option maxHeartbeats 4000000 in
theorem c_X1_hasPost (G : GG) (l : Launch) (v : Int) (M : MM) (hv : I32 v) (hP : 2 ≤ M 1 0 ∧ M 1 0 ≤ 5) : CMi G l yX1_hasPost cX1_hasPost 2 (some .boolean) 2 [.ref 1, vi v] M (fun z M' => M' = M ∧ ((z = 1 ∧ 0 ≤ v ∧ v < M 1 0) ∨ (z = 0 ∧ (v < 0 ∨ M 1 0 ≤ v)))) := by
  refine CT.intro (by decide) (Nat.le_of_ble_eq_true rfl) (fun E hE A T0 => ?_)
  subst hE
  refine a_iload_n (z := v) A dX1_hasPost_0 rfl ?_
  refine a_iconst A dX1_hasPost_1 ?_
  refine a_aload_n (z := 1) A dX1_hasPost_2 rfl ?_
  refine m_invVi A (c_X1_lastPost G _ M) (by decide) mi_X1_lastPost mv_X1_lastPost cs_X1_40 cf1 dX1_hasPost_3 rfl (by decide) rfl rfl (Nat.le_of_ble_eq_true rfl) (fun z3 M3 h3 => ?_)
  obtain ⟨e3, rfl⟩ := h3
  have e3 := e3.symm
  subst e3
  refine m_invSi A (c_X4_within G _ v 0 (M 1 0 - 1) M (by omega) (by omega) (by omega)) (by decide) mi_X4_within ms_X4_within cs_X1_44 dX1_hasPost_6 rfl rfl (Nat.le_of_ble_eq_true rfl) (fun z6 M6 h6 => ?_)
  obtain ⟨e6, hc6⟩ := h6
  have e6 := e6.symm
  subst e6
  exact m_zreturn A T0 dX1_hasPost_9 (by first | exact Or.inl rfl | exact Or.inr rfl | omega) (by exact ⟨rfl, by omega⟩)
set_option maxRecDepth 100000 in
set_option maxHeartbeats 4000000 in
theorem c_X1_hasLane (G : GG) (l : Launch) (v : Int) (M : MM) (hv : I32 v) (hL : 0 ≤ M 1 1 ∧ M 1 1 ≤ 10) : CMi G l yX1_hasLane cX1_hasLane 2 (some .boolean) 2 [.ref 1, vi v] M (fun z M' => M' = M ∧ ((z = 1 ∧ 0 ≤ v ∧ v < M 1 1) ∨ (z = 0 ∧ (v < 0 ∨ M 1 1 ≤ v)))) := by
  refine CT.intro (by decide) (Nat.le_of_ble_eq_true rfl) (fun E hE A T0 => ?_)
  subst hE
  refine a_iload_n (z := v) A dX1_hasLane_0 rfl ?_
  refine a_iconst A dX1_hasLane_1 ?_
  refine a_aload_n (z := 1) A dX1_hasLane_2 rfl ?_
  refine gf_X1_15 (x := M 1 1) A dX1_hasLane_3 rfl (by decide) rfl ?_
  refine a_iconst A dX1_hasLane_6 ?_
  refine a_isub (x := (M 1 1)) (y := 1) A dX1_hasLane_7 ?_
  refine m_invSi A (c_X4_within G _ v 0 ((M 1 1) - 1) M (by omega) (by omega) (by omega)) (by decide) mi_X4_within ms_X4_within cs_X1_44 dX1_hasLane_8 rfl rfl (Nat.le_of_ble_eq_true rfl) (fun z8 M8 h8 => ?_)
  obtain ⟨e8, hc8⟩ := h8
  have e8 := e8.symm
  subst e8
  exact m_zreturn A T0 dX1_hasLane_11 (by first | exact Or.inl rfl | exact Or.inr rfl | omega) (by exact ⟨rfl, by omega⟩)
set_option maxRecDepth 100000 in
set_option maxHeartbeats 4000000 in
theorem c_X1_canLead (G : GG) (l : Launch) (f t : Int) (M : MM) (hf : I32 f) (ht : I32 t) (hP : 2 ≤ M 1 0 ∧ M 1 0 ≤ 5) : CMi G l yX1_canLead cX1_canLead 3 (some .boolean) 3 [.ref 1, vi f, vi t] M (fun z M' => M' = M ∧ ((z = 1 ∧ (0 ≤ f ∧ f < M 1 0 - 1) ∧ (0 < t ∧ t < M 1 0) ∧ f ≠ t) ∨ (z = 0 ∧ ¬ ((0 ≤ f ∧ f < M 1 0 - 1) ∧ (0 < t ∧ t < M 1 0) ∧ f ≠ t)))) := by
  refine CT.intro (by decide) (Nat.le_of_ble_eq_true rfl) (fun E hE A T0 => ?_)
  subst hE
  refine a_aload_n (z := 1) A dX1_canLead_0 rfl ?_
  refine a_iload_n (z := f) A dX1_canLead_1 rfl ?_
  refine m_invVi A (c_X1_hasPost G _ f M (by omega) hP) (by decide) mi_X1_hasPost mv_X1_hasPost cs_X1_48 cf1 dX1_canLead_2 rfl (by decide) rfl rfl (Nat.le_of_ble_eq_true rfl) (fun z2 M2 h2 => ?_)
  obtain ⟨e2, hc2⟩ := h2
  have e2 := e2.symm
  subst e2
  refine a_if_eq (tgt := 37) A dX1_canLead_5 (by decide) (by omega) (fun h5 => ?_) (fun h5 => ?_)
  · refine a_iconst A dX1_canLead_37 ?_
    exact m_zreturn A T0 dX1_canLead_38 (by first | exact Or.inl rfl | exact Or.inr rfl | omega) (by exact ⟨rfl, by omega⟩)
  · refine a_aload_n (z := 1) A dX1_canLead_8 rfl ?_
    refine a_iload_n (z := t) A dX1_canLead_9 rfl ?_
    refine m_invVi A (c_X1_hasPost G _ t M (by omega) hP) (by decide) mi_X1_hasPost mv_X1_hasPost cs_X1_48 cf1 dX1_canLead_10 rfl (by decide) rfl rfl (Nat.le_of_ble_eq_true rfl) (fun z10 M10 h10 => ?_)
    obtain ⟨e10, hc10⟩ := h10
    have e10 := e10.symm
    subst e10
    refine a_if_eq (tgt := 37) A dX1_canLead_13 (by decide) (by omega) (fun h13 => ?_) (fun h13 => ?_)
    · refine a_iconst A dX1_canLead_37 ?_
      exact m_zreturn A T0 dX1_canLead_38 (by first | exact Or.inl rfl | exact Or.inr rfl | omega) (by exact ⟨rfl, by omega⟩)
    · refine a_iload_n (z := f) A dX1_canLead_16 rfl ?_
      refine a_iload_n (z := t) A dX1_canLead_17 rfl ?_
      refine a_icmp_eq (tgt := 37) A dX1_canLead_18 (by decide) (by omega) (by omega) (fun h18 => ?_) (fun h18 => ?_)
      · refine a_iconst A dX1_canLead_37 ?_
        exact m_zreturn A T0 dX1_canLead_38 (by first | exact Or.inl rfl | exact Or.inr rfl | omega) (by exact ⟨rfl, by omega⟩)
      · refine a_iload_n (z := t) A dX1_canLead_21 rfl ?_
        refine a_if_eq (tgt := 37) A dX1_canLead_22 (by decide) (by omega) (fun h22 => ?_) (fun h22 => ?_)
        · refine a_iconst A dX1_canLead_37 ?_
          exact m_zreturn A T0 dX1_canLead_38 (by first | exact Or.inl rfl | exact Or.inr rfl | omega) (by exact ⟨rfl, by omega⟩)
        · refine a_iload_n (z := f) A dX1_canLead_25 rfl ?_
          refine a_aload_n (z := 1) A dX1_canLead_26 rfl ?_
          refine m_invVi A (c_X1_lastPost G _ M) (by decide) mi_X1_lastPost mv_X1_lastPost cs_X1_40 cf1 dX1_canLead_27 rfl (by decide) rfl rfl (Nat.le_of_ble_eq_true rfl) (fun z27 M27 h27 => ?_)
          obtain ⟨e27, rfl⟩ := h27
          have e27 := e27.symm
          subst e27
          refine a_icmp_eq (tgt := 37) A dX1_canLead_30 (by decide) (by omega) (by omega) (fun h30 => ?_) (fun h30 => ?_)
          · refine a_iconst A dX1_canLead_37 ?_
            exact m_zreturn A T0 dX1_canLead_38 (by first | exact Or.inl rfl | exact Or.inr rfl | omega) (by exact ⟨rfl, by omega⟩)
          · refine a_iconst A dX1_canLead_33 ?_
            refine a_goto (tgt := 38) A dX1_canLead_34 (by decide) ?_
            exact m_zreturn A T0 dX1_canLead_38 (by first | exact Or.inl rfl | exact Or.inr rfl | omega) (by exact ⟨rfl, by omega⟩)
set_option maxRecDepth 100000 in
set_option maxHeartbeats 4000000 in
theorem take_loop1 {G : GG} {E : EE} {P : MM → Prop} (A : AmM G E cX1_take 3 yX1_take.cls 2) (T0 : RT E G yX1_take 108 0 0 none (fun r rf' M' => rf' = rF ∧ r = none ∧ P M')) (b e : Nat) (M : MM) (hb : NB b) (he : NB e) (hne : b ≠ e) (hs : 0 ≤ M b 1 ∧ M b 1 ≤ 10) (hp : P (up2 (cp2 (tnK M b e (M b 1).toNat) (e + 12) (b + 12) 4) b 4 (M e 4))) : ∀ (n : Nat) (i : Nat), (M b 1).toNat - i < n → (i : Int) ≤ M b 1 → AM G E 3 18 [.ref b, .ref e, vi (i : Int)] [] (tnK M b e i) := by
  intro n
  induction n with
  | zero => intro i hn hi; exfalso; omega
  | succ n ih =>
    intro i hn hi
    have hbl := hb.lt
    have hel := he.lt
    have hfar := hb.far he hne
    refine a_iload_n (z := (i : Int)) A dX1_take_18 rfl ?_
    refine a_aload_n (z := b) A dX1_take_19 rfl ?_
    refine gf_X1_15 (x := M b 1) A dX1_take_20 hb.l0 (by omega) (by rw [tnK_ne M (by omega)]) ?_
    refine a_icmp_ge (tgt := 51) A dX1_take_23 (by decide) (by omega) (by omega) (fun h23 => ?_) (fun h23 => ?_)
    · refine a_aload_n (z := b) A dX1_take_51 rfl ?_
      refine a_aload_n (z := e) A dX1_take_52 rfl ?_
      refine gf_X1_23 (r := (e + 12)) A dX1_take_53 he.l0 (by omega) he.r3 ?_
      refine a_aload_n (z := e) A dX1_take_56 rfl ?_
      refine gf_X1_27 (x := M e 4) A dX1_take_57 he.l0 (by omega) (by rw [tnK_ne M (by omega)]) ?_
      refine m_invVv A (c_X1_takeRow G _ b (e + 12) (M e 4) (tnK M b e i) hb he.lh (by omega)) (by decide) mi_X1_takeRow mv_X1_takeRow cs_X1_36 cf1 dX1_take_60 hb.l0 (by omega) rfl rfl (Nat.le_of_ble_eq_true rfl) (fun M60 h60 => ?_)
      have h60 := h60.symm
      subst h60
      exact m_return A T0 dX1_take_63 (by rw [show (M b 1).toNat = i by omega] at hp; exact hp)
    · refine a_aload_n (z := e) A dX1_take_26 rfl ?_
      refine gf_X1_20 (r := (e + 1)) A dX1_take_27 he.l0 (by omega) he.r2 ?_
      refine a_iload_n (z := (i : Int)) A dX1_take_30 rfl ?_
      refine a_aaload (i := (i : Int)) (r := (e + 2 + i)) A dX1_take_31 he.l1 (Or.inr rfl) (by omega) (by decide) (by omega) (he.ra (by omega)) ?_
      refine a_iconst A dX1_take_32 ?_
      refine a_aload_n (z := b) A dX1_take_33 rfl ?_
      refine gf_X1_20 (r := (b + 1)) A dX1_take_34 hb.l0 (by omega) hb.r2 ?_
      refine a_iload_n (z := (i : Int)) A dX1_take_37 rfl ?_
      refine a_aaload (i := (i : Int)) (r := (b + 2 + i)) A dX1_take_38 hb.l1 (Or.inr rfl) (by omega) (by decide) (by omega) (hb.ra (by omega)) ?_
      refine a_iconst A dX1_take_39 ?_
      refine a_bipush A dX1_take_40 (by decide) ?_
      refine a_copy (m := 8) A cj_X1_30 j_cp1 j_cp2 j_sys dX1_take_42 (by decide) (Nat.le_of_ble_eq_true rfl) (he.lr (by omega)) (by omega) (hb.lr (by omega)) (by omega) (by omega) ?_
      refine a_iinc (z := (i : Int)) (lv' := [.ref b, .ref e, vi ((i : Int) + 1)]) A dX1_take_45 rfl (by decide) rfl ?_
      refine a_goto (tgt := 18) A dX1_take_48 (by decide) ?_
      have hq := tnK_succ M (i := i) hb he hne (by omega)
      rw [show Int.toNat 8 = 8 from rfl, hq]
      exact ih (i + 1) (by omega) (by omega)
set_option maxRecDepth 100000 in
set_option maxHeartbeats 4000000 in
theorem c_X1_take (G : GG) (l : Launch) (b e : Nat) (M : MM) (hb : NB b) (he : NB e) (hne : b ≠ e) (hs : 0 ≤ M e 1 ∧ M e 1 ≤ 10) : CMv G l yX1_take cX1_take 3 none 2 [.ref b, .ref e] M (fun M' => M' = tkN M b e) := by
  refine CT.intro (by decide) (Nat.le_of_ble_eq_true rfl) (fun E hE A T0 => ?_)
  subst hE
  have hbl := hb.lt
  have hel := he.lt
  refine a_aload_n (z := b) A dX1_take_0 rfl ?_
  refine a_aload_n (z := e) A dX1_take_1 rfl ?_
  refine gf_X1_9 (x := M e 0) A dX1_take_2 he.l0 (by omega) rfl ?_
  refine pf_X1_9 A dX1_take_5 hb.l0 (by omega) ?_
  refine a_aload_n (z := b) A dX1_take_8 rfl ?_
  refine a_aload_n (z := e) A dX1_take_9 rfl ?_
  refine gf_X1_15 (x := M e 1) A dX1_take_10 he.l0 (by omega) (by rw [up2_ne _ _ _ _ (Ne.symm hne)]) ?_
  refine pf_X1_15 A dX1_take_13 hb.l0 (by omega) ?_
  refine a_iconst A dX1_take_16 ?_
  refine a_istore_n (lv' := [.ref b, .ref e, vi 0]) A dX1_take_17 (by decide) rfl ?_
  have e1 : (up2 (up2 M b 0 (M e 0)) b 1 (M e 1)) b 1 = M e 1 := up2_self _ _ _ _
  have e4 : (up2 (up2 M b 0 (M e 0)) b 1 (M e 1)) e 4 = M e 4 := by rw [up2_ne _ _ _ _ (Ne.symm hne), up2_ne _ _ _ _ (Ne.symm hne)]
  have hk := take_loop1 A T0 b e (up2 (up2 M b 0 (M e 0)) b 1 (M e 1)) hb he hne (by rw [e1]; exact hs) (by rw [e1, e4]; rfl) ((M e 1).toNat + 1) 0 (by rw [e1]; omega) (by rw [e1]; omega)
  rw [tnK_0] at hk
  exact hk
set_option maxRecDepth 100000 in
set_option maxHeartbeats 4000000 in
theorem bal_loop1 {G : GG} {E : EE} {P : Int → MM → Prop} (A : AmM G E cX1_balance 8 yX1_balance.cls 2) (T0 : RT E G yX1_balance 108 0 0 (some .long) (fun r rf' M' => rf' = rF ∧ ∃ z, r = some (vl z) ∧ P z M')) (v : Int) (M : MM) (hv : I32 v) (hW : CW M) (hp : P (sumZ (balF M v) (M 1 1).toNat) M) : ∀ (n : Nat) (i : Nat) (w1 w2 : Value), (M 1 1).toNat - i < n → (i : Int) ≤ M 1 1 → AM G E 8 5 [.ref 1, vi v, vl (sumZ (balF M v) i), jk, vi (i : Int), w1, w2, jk] [] M := by
  intro n
  induction n with
  | zero => intro i w1 w2 hn hi; exfalso; omega
  | succ n ih =>
    intro i w1 w2 hn hi
    have hL := hW.2.1
    have hP := hW.1
    have hl0 : (i : Int) < M 1 1 → CL M i := hW.2.2 i
    unfold CL at hl0
    have hp7 : (i : Int) < M 1 1 → _ := fun q => parts_bd (q := M (3 + i) 7) (by omega)
    have hp4 : (i : Int) < M 1 1 → _ := fun q => parts_bd (q := M (3 + i) 4) (by omega)
    refine a_iload (z := (i : Int)) A dX1_balance_5 rfl ?_
    refine a_aload_n (z := 1) A dX1_balance_7 rfl ?_
    refine gf_X1_15 (x := M 1 1) A dX1_balance_8 rfl (by decide) rfl ?_
    refine a_icmp_ge (tgt := 92) A dX1_balance_11 (by decide) (by omega) (by omega) (fun h11 => ?_) (fun h11 => ?_)
    · refine a_lload_n (z := (sumZ (balF M v) i)) A dX1_balance_92 rfl ?_
      exact m_lreturn A T0 dX1_balance_93 (by rw [show (M 1 1).toNat = i by omega] at hp; exact hp)
    · refine a_aload_n (z := 1) A dX1_balance_14 rfl ?_
      refine gf_X1_20 (r := 2) A dX1_balance_15 rfl (by decide) rfl ?_
      refine a_iload (z := (i : Int)) A dX1_balance_18 rfl ?_
      refine a_aaload (i := (i : Int)) (r := (3 + i)) A dX1_balance_20 rfl (Or.inr rfl) (by decide) (by decide) (by omega) (rf2 (by omega)) ?_
      refine a_astore (lv' := [.ref 1, vi v, vl (sumZ (balF M v) i), jk, vi (i : Int), .ref (3 + i), w2, jk]) A dX1_balance_21 (by decide) rfl ?_
      refine a_aload (z := (3 + i)) A dX1_balance_23 rfl ?_
      refine a_bipush A dX1_balance_25 (by decide) ?_
      refine a_iaload (i := 6) (x := M (3 + i) 6) A dX1_balance_27 (ly3 (by omega)) (by omega) (by decide) (by omega) rfl ?_
      refine a_i2l A dX1_balance_28 (by omega) ?_
      refine a_aload (z := (3 + i)) A dX1_balance_29 rfl ?_
      refine a_bipush A dX1_balance_31 (by decide) ?_
      refine a_iaload (i := 7) (x := M (3 + i) 7) A dX1_balance_33 (ly3 (by omega)) (by omega) (by decide) (by omega) rfl ?_
      refine m_invSi A (c_X4_partsOfOne G _ (M (3 + i) 7) M (by omega)) (by decide) mi_X4_partsOfOne ms_X4_partsOfOne cs_X1_52 dX1_balance_34 rfl rfl (Nat.le_of_ble_eq_true rfl) (fun z34 M34 h34 => ?_)
      obtain ⟨e34, rfl⟩ := h34
      have e34 := e34.symm
      subst e34
      refine a_i2l A dX1_balance_37 (by omega) ?_
      refine a_lmul (x := (M (3 + i) 6)) (y := ((2520 : Int).tdiv (M (3 + i) 7))) A dX1_balance_38 ?_
      refine a_lstore (lv' := [.ref 1, vi v, vl (sumZ (balF M v) i), jk, vi (i : Int), .ref (3 + i), vl ((M (3 + i) 6) * ((2520 : Int).tdiv (M (3 + i) 7))), jk]) A dX1_balance_39 (by decide) rfl ?_
      refine a_aload (z := (3 + i)) A dX1_balance_41 rfl ?_
      refine a_iconst A dX1_balance_43 ?_
      refine a_iaload (i := 1) (x := M (3 + i) 1) A dX1_balance_44 (ly3 (by omega)) (by omega) (by decide) (by omega) rfl ?_
      refine a_iload_n (z := v) A dX1_balance_45 rfl ?_
      refine a_icmp_ne (tgt := 69) A dX1_balance_46 (by decide) (by omega) (by omega) (fun h46 => ?_) (fun h46 => ?_)
      · refine a_aload (z := (3 + i)) A dX1_balance_69 rfl ?_
        refine a_iconst A dX1_balance_71 ?_
        refine a_iaload (i := 0) (x := M (3 + i) 0) A dX1_balance_72 (ly3 (by omega)) (by omega) (by decide) (by omega) rfl ?_
        refine a_iload_n (z := v) A dX1_balance_73 rfl ?_
        refine a_icmp_ne (tgt := 86) A dX1_balance_74 (by decide) (by omega) (by omega) (fun h74 => ?_) (fun h74 => ?_)
        · refine a_iinc (z := (i : Int)) (lv' := [.ref 1, vi v, vl (sumZ (balF M v) i), jk, vi ((i : Int) + 1), .ref (3 + i), vl ((M (3 + i) 6) * ((2520 : Int).tdiv (M (3 + i) 7))), jk]) A dX1_balance_86 rfl (by decide) rfl ?_
          refine a_goto (tgt := 5) A dX1_balance_89 (by decide) ?_
          rw [show (sumZ (balF M v) i) = sumZ (balF M v) (i + 1) by simp only [sumZ, balF, h46, h74, if_true, if_false, eq_self, ne_eq, not_true_eq_false, not_false_eq_true]; omega]
          exact ih (i + 1) _ _ (by omega) (by omega)
        · refine a_lload_n (z := (sumZ (balF M v) i)) A dX1_balance_77 rfl ?_
          refine a_lload (z := ((M (3 + i) 6) * ((2520 : Int).tdiv (M (3 + i) 7)))) A dX1_balance_78 rfl ?_
          refine a_ldc2 A lk_X1_56 dX1_balance_80 ?_
          refine a_lmul (x := ((M (3 + i) 6) * ((2520 : Int).tdiv (M (3 + i) 7)))) (y := 2520) A dX1_balance_83 ?_
          refine a_lsub (x := (sumZ (balF M v) i)) (y := (((M (3 + i) 6) * ((2520 : Int).tdiv (M (3 + i) 7))) * 2520)) A dX1_balance_84 ?_
          refine a_lstore_n (lv' := [.ref 1, vi v, vl ((sumZ (balF M v) i) - (((M (3 + i) 6) * ((2520 : Int).tdiv (M (3 + i) 7))) * 2520)), jk, vi (i : Int), .ref (3 + i), vl ((M (3 + i) 6) * ((2520 : Int).tdiv (M (3 + i) 7))), jk]) A dX1_balance_85 (by decide) rfl ?_
          refine a_iinc (z := (i : Int)) (lv' := [.ref 1, vi v, vl ((sumZ (balF M v) i) - (((M (3 + i) 6) * ((2520 : Int).tdiv (M (3 + i) 7))) * 2520)), jk, vi ((i : Int) + 1), .ref (3 + i), vl ((M (3 + i) 6) * ((2520 : Int).tdiv (M (3 + i) 7))), jk]) A dX1_balance_86 rfl (by decide) rfl ?_
          refine a_goto (tgt := 5) A dX1_balance_89 (by decide) ?_
          rw [show ((sumZ (balF M v) i) - (((M (3 + i) 6) * ((2520 : Int).tdiv (M (3 + i) 7))) * 2520)) = sumZ (balF M v) (i + 1) by simp only [sumZ, balF, h46, h74, if_true, if_false, eq_self, ne_eq, not_true_eq_false, not_false_eq_true]; omega]
          exact ih (i + 1) _ _ (by omega) (by omega)
      · refine a_lload_n (z := (sumZ (balF M v) i)) A dX1_balance_49 rfl ?_
        refine a_lload (z := ((M (3 + i) 6) * ((2520 : Int).tdiv (M (3 + i) 7)))) A dX1_balance_50 rfl ?_
        refine a_aload (z := (3 + i)) A dX1_balance_52 rfl ?_
        refine a_iconst A dX1_balance_54 ?_
        refine a_iaload (i := 3) (x := M (3 + i) 3) A dX1_balance_55 (ly3 (by omega)) (by omega) (by decide) (by omega) rfl ?_
        refine a_i2l A dX1_balance_56 (by omega) ?_
        refine a_lmul (x := ((M (3 + i) 6) * ((2520 : Int).tdiv (M (3 + i) 7)))) (y := (M (3 + i) 3)) A dX1_balance_57 ?_
        refine a_aload (z := (3 + i)) A dX1_balance_58 rfl ?_
        refine a_iconst A dX1_balance_60 ?_
        refine a_iaload (i := 4) (x := M (3 + i) 4) A dX1_balance_61 (ly3 (by omega)) (by omega) (by decide) (by omega) rfl ?_
        refine m_invSi A (c_X4_partsOfOne G _ (M (3 + i) 4) M (by omega)) (by decide) mi_X4_partsOfOne ms_X4_partsOfOne cs_X1_52 dX1_balance_62 rfl rfl (Nat.le_of_ble_eq_true rfl) (fun z62 M62 h62 => ?_)
        obtain ⟨e62, rfl⟩ := h62
        have e62 := e62.symm
        subst e62
        refine a_i2l A dX1_balance_65 (by omega) ?_
        refine a_lmul (x := (((M (3 + i) 6) * ((2520 : Int).tdiv (M (3 + i) 7))) * (M (3 + i) 3))) (y := ((2520 : Int).tdiv (M (3 + i) 4))) A dX1_balance_66 ?_
        refine a_ladd (x := (sumZ (balF M v) i)) (y := ((((M (3 + i) 6) * ((2520 : Int).tdiv (M (3 + i) 7))) * (M (3 + i) 3)) * ((2520 : Int).tdiv (M (3 + i) 4)))) A dX1_balance_67 ?_
        refine a_lstore_n (lv' := [.ref 1, vi v, vl ((sumZ (balF M v) i) + ((((M (3 + i) 6) * ((2520 : Int).tdiv (M (3 + i) 7))) * (M (3 + i) 3)) * ((2520 : Int).tdiv (M (3 + i) 4)))), jk, vi (i : Int), .ref (3 + i), vl ((M (3 + i) 6) * ((2520 : Int).tdiv (M (3 + i) 7))), jk]) A dX1_balance_68 (by decide) rfl ?_
        refine a_aload (z := (3 + i)) A dX1_balance_69 rfl ?_
        refine a_iconst A dX1_balance_71 ?_
        refine a_iaload (i := 0) (x := M (3 + i) 0) A dX1_balance_72 (ly3 (by omega)) (by omega) (by decide) (by omega) rfl ?_
        refine a_iload_n (z := v) A dX1_balance_73 rfl ?_
        refine a_icmp_ne (tgt := 86) A dX1_balance_74 (by decide) (by omega) (by omega) (fun h74 => ?_) (fun h74 => ?_)
        · refine a_iinc (z := (i : Int)) (lv' := [.ref 1, vi v, vl ((sumZ (balF M v) i) + ((((M (3 + i) 6) * ((2520 : Int).tdiv (M (3 + i) 7))) * (M (3 + i) 3)) * ((2520 : Int).tdiv (M (3 + i) 4)))), jk, vi ((i : Int) + 1), .ref (3 + i), vl ((M (3 + i) 6) * ((2520 : Int).tdiv (M (3 + i) 7))), jk]) A dX1_balance_86 rfl (by decide) rfl ?_
          refine a_goto (tgt := 5) A dX1_balance_89 (by decide) ?_
          rw [show ((sumZ (balF M v) i) + ((((M (3 + i) 6) * ((2520 : Int).tdiv (M (3 + i) 7))) * (M (3 + i) 3)) * ((2520 : Int).tdiv (M (3 + i) 4)))) = sumZ (balF M v) (i + 1) by simp only [sumZ, balF, h46, h74, if_true, if_false, eq_self, ne_eq, not_true_eq_false, not_false_eq_true]; omega]
          exact ih (i + 1) _ _ (by omega) (by omega)
        · refine a_lload_n (z := ((sumZ (balF M v) i) + ((((M (3 + i) 6) * ((2520 : Int).tdiv (M (3 + i) 7))) * (M (3 + i) 3)) * ((2520 : Int).tdiv (M (3 + i) 4))))) A dX1_balance_77 rfl ?_
          refine a_lload (z := ((M (3 + i) 6) * ((2520 : Int).tdiv (M (3 + i) 7)))) A dX1_balance_78 rfl ?_
          refine a_ldc2 A lk_X1_56 dX1_balance_80 ?_
          refine a_lmul (x := ((M (3 + i) 6) * ((2520 : Int).tdiv (M (3 + i) 7)))) (y := 2520) A dX1_balance_83 ?_
          refine a_lsub (x := ((sumZ (balF M v) i) + ((((M (3 + i) 6) * ((2520 : Int).tdiv (M (3 + i) 7))) * (M (3 + i) 3)) * ((2520 : Int).tdiv (M (3 + i) 4))))) (y := (((M (3 + i) 6) * ((2520 : Int).tdiv (M (3 + i) 7))) * 2520)) A dX1_balance_84 ?_
          refine a_lstore_n (lv' := [.ref 1, vi v, vl (((sumZ (balF M v) i) + ((((M (3 + i) 6) * ((2520 : Int).tdiv (M (3 + i) 7))) * (M (3 + i) 3)) * ((2520 : Int).tdiv (M (3 + i) 4)))) - (((M (3 + i) 6) * ((2520 : Int).tdiv (M (3 + i) 7))) * 2520)), jk, vi (i : Int), .ref (3 + i), vl ((M (3 + i) 6) * ((2520 : Int).tdiv (M (3 + i) 7))), jk]) A dX1_balance_85 (by decide) rfl ?_
          refine a_iinc (z := (i : Int)) (lv' := [.ref 1, vi v, vl (((sumZ (balF M v) i) + ((((M (3 + i) 6) * ((2520 : Int).tdiv (M (3 + i) 7))) * (M (3 + i) 3)) * ((2520 : Int).tdiv (M (3 + i) 4)))) - (((M (3 + i) 6) * ((2520 : Int).tdiv (M (3 + i) 7))) * 2520)), jk, vi ((i : Int) + 1), .ref (3 + i), vl ((M (3 + i) 6) * ((2520 : Int).tdiv (M (3 + i) 7))), jk]) A dX1_balance_86 rfl (by decide) rfl ?_
          refine a_goto (tgt := 5) A dX1_balance_89 (by decide) ?_
          rw [show (((sumZ (balF M v) i) + ((((M (3 + i) 6) * ((2520 : Int).tdiv (M (3 + i) 7))) * (M (3 + i) 3)) * ((2520 : Int).tdiv (M (3 + i) 4)))) - (((M (3 + i) 6) * ((2520 : Int).tdiv (M (3 + i) 7))) * 2520)) = sumZ (balF M v) (i + 1) by simp only [sumZ, balF, h46, h74, if_true, if_false, eq_self, ne_eq, not_true_eq_false, not_false_eq_true]; omega]
          exact ih (i + 1) _ _ (by omega) (by omega)
set_option maxRecDepth 100000 in
set_option maxHeartbeats 4000000 in
theorem c_X1_balance (G : GG) (l : Launch) (v : Int) (M : MM) (hv : I32 v) (hW : CW M) : CMl G l yX1_balance cX1_balance 8 (some .long) 2 [.ref 1, vi v] M (fun z M' => M' = M ∧ z = sumZ (balF M v) (M 1 1).toNat) := by
  refine CT.intro (by decide) (Nat.le_of_ble_eq_true rfl) (fun E hE A T0 => ?_)
  subst hE
  refine a_lconst0 A dX1_balance_0 ?_
  refine a_lstore_n (lv' := [.ref 1, vi v, vl 0, jk, jk, jk, jk, jk]) A dX1_balance_1 (by decide) rfl ?_
  refine a_iconst A dX1_balance_2 ?_
  refine a_istore (lv' := [.ref 1, vi v, vl 0, jk, vi 0, jk, jk, jk]) A dX1_balance_3 (by decide) rfl ?_
  have hL := hW.2.1
  exact bal_loop1 A T0 v M hv hW ⟨rfl, rfl⟩ ((M 1 1).toNat + 1) 0 jk jk (by omega) (by omega)
/-- a row of lanes that are there -/
def RW (M : MM) (r N : Nat) : Prop := ∀ k, k < N → 0 ≤ M r k ∧ M r k < M 1 1
def cU (M : MM) (r N : Nat) : Int := prodZ (fun k => M (3 + (M r k).toNat) 3) N
def cD (M : MM) (r N : Nat) : Int := prodZ (fun k => M (3 + (M r k).toNat) 4) N
theorem cU_bd {M : MM} (hW : CW M) {r N : Nat} (hN : N ≤ 4) (hr : RW M r N) : (1 ≤ cU M r N ∧ cU M r N ≤ 59049) ∧ (1 ≤ cD M r N ∧ cD M r N ≤ 59049) :=
  ⟨prodZ_bd (by omega) (fun k hk => by have h1 := hr k hk; have h2 := hW.2.2 (M r k).toNat (by omega); unfold CL at h2; omega), prodZ_bd (by omega) (fun k hk => by have h1 := hr k hk; have h2 := hW.2.2 (M r k).toNat (by omega); unfold CL at h2; omega)⟩
set_option maxRecDepth 100000 in
set_option maxHeartbeats 4000000 in
theorem ms_loop1 {G : GG} {E : EE} {P : MM → Prop} (A : AmM G E cX1_multiplyShares 9 yX1_multiplyShares.cls 3) (T0 : RT E G yX1_multiplyShares 108 0 0 none (fun r rf' M' => rf' = rF ∧ r = none ∧ P M')) (r N fa : Nat) (M : MM) (hl_fa : ly fa = (0, 0)) (ha_fa : fa < 108) (hl_r : ly r = (6, 4)) (ha_r : r < 108) (hN : N ≤ 4) (hW : CW M) (hr : RW M r N) (hp : P (up2 (up2 M fa 0 (nU (cU M r N) (cD M r N))) fa 1 (nD (cU M r N) (cD M r N)))) : ∀ (n : Nat) (i : Nat), N - i < n → i ≤ N → AM G E 9 9 [.ref 1, .ref r, vi (N : Int), .ref fa, vl (cU M r i), jk, vl (cD M r i), jk, vi (i : Int)] [] M := by
  intro n
  induction n with
  | zero => intro i hn hi; exfalso; omega
  | succ n ih =>
    intro i hn hi
    have hL := hW.2.1
    have hri : i < N → 0 ≤ M r i ∧ M r i < M 1 1 := hr i
    have hli : i < N → CL M (M r i).toNat := fun q => hW.2.2 _ (by have := hri q; omega)
    unfold CL at hli
    have hb := cU_bd hW (N := i) (by omega) (fun k hk => hr k (by omega))
    refine a_iload (z := (i : Int)) A dX1_multiplyShares_9 rfl ?_
    refine a_iload_n (z := (N : Int)) A dX1_multiplyShares_11 rfl ?_
    refine a_icmp_ge (tgt := 55) A dX1_multiplyShares_12 (by decide) (by omega) (by omega) (fun h12 => ?_) (fun h12 => ?_)
    · refine a_aload_n (z := fa) A dX1_multiplyShares_55 rfl ?_
      refine a_lload (z := (cU M r i)) A dX1_multiplyShares_56 rfl ?_
      refine a_lload (z := (cD M r i)) A dX1_multiplyShares_58 rfl ?_
      refine m_invVv A (c_X0_set G _ fa (cU M r i) (cD M r i) M hl_fa ha_fa (by omega) (by omega)) (by decide) mi_X0_set mv_X0_set cs_X1_58 cf0 dX1_multiplyShares_60 hl_fa ha_fa rfl rfl (Nat.le_of_ble_eq_true rfl) (fun M60 h60 => ?_)
      have h60 := h60.symm
      subst h60
      exact m_return A T0 dX1_multiplyShares_63 (by rw [show N = i by omega] at hp; exact hp)
    · refine a_lload (z := (cU M r i)) A dX1_multiplyShares_15 rfl ?_
      refine a_aload_n (z := 1) A dX1_multiplyShares_17 rfl ?_
      refine gf_X1_20 (r := 2) A dX1_multiplyShares_18 rfl (by decide) rfl ?_
      refine a_aload_n (z := r) A dX1_multiplyShares_21 rfl ?_
      refine a_iload (z := (i : Int)) A dX1_multiplyShares_22 rfl ?_
      refine a_iaload (i := (i : Int)) (x := M r i) A dX1_multiplyShares_24 hl_r ha_r (by decide) (by omega) rfl ?_
      refine a_aaload (i := (M r i)) (r := (3 + (M r i).toNat)) A dX1_multiplyShares_25 rfl (Or.inr rfl) (by decide) (by decide) (by omega) (rf2 (by omega)) ?_
      refine a_iconst A dX1_multiplyShares_26 ?_
      refine a_iaload (i := 3) (x := M (3 + (M r i).toNat) 3) A dX1_multiplyShares_27 (ly3 (by omega)) (by omega) (by decide) (by omega) rfl ?_
      refine a_i2l A dX1_multiplyShares_28 (by omega) ?_
      refine a_lmul (x := (cU M r i)) (y := (M (3 + (M r i).toNat) 3)) A dX1_multiplyShares_29 ?_
      refine a_lstore (lv' := [.ref 1, .ref r, vi (N : Int), .ref fa, vl ((cU M r i) * (M (3 + (M r i).toNat) 3)), jk, vl (cD M r i), jk, vi (i : Int)]) A dX1_multiplyShares_30 (by decide) rfl ?_
      refine a_lload (z := (cD M r i)) A dX1_multiplyShares_32 rfl ?_
      refine a_aload_n (z := 1) A dX1_multiplyShares_34 rfl ?_
      refine gf_X1_20 (r := 2) A dX1_multiplyShares_35 rfl (by decide) rfl ?_
      refine a_aload_n (z := r) A dX1_multiplyShares_38 rfl ?_
      refine a_iload (z := (i : Int)) A dX1_multiplyShares_39 rfl ?_
      refine a_iaload (i := (i : Int)) (x := M r i) A dX1_multiplyShares_41 hl_r ha_r (by decide) (by omega) rfl ?_
      refine a_aaload (i := (M r i)) (r := (3 + (M r i).toNat)) A dX1_multiplyShares_42 rfl (Or.inr rfl) (by decide) (by decide) (by omega) (rf2 (by omega)) ?_
      refine a_iconst A dX1_multiplyShares_43 ?_
      refine a_iaload (i := 4) (x := M (3 + (M r i).toNat) 4) A dX1_multiplyShares_44 (ly3 (by omega)) (by omega) (by decide) (by omega) rfl ?_
      refine a_i2l A dX1_multiplyShares_45 (by omega) ?_
      refine a_lmul (x := (cD M r i)) (y := (M (3 + (M r i).toNat) 4)) A dX1_multiplyShares_46 ?_
      refine a_lstore (lv' := [.ref 1, .ref r, vi (N : Int), .ref fa, vl ((cU M r i) * (M (3 + (M r i).toNat) 3)), jk, vl ((cD M r i) * (M (3 + (M r i).toNat) 4)), jk, vi (i : Int)]) A dX1_multiplyShares_47 (by decide) rfl ?_
      refine a_iinc (z := (i : Int)) (lv' := [.ref 1, .ref r, vi (N : Int), .ref fa, vl ((cU M r i) * (M (3 + (M r i).toNat) 3)), jk, vl ((cD M r i) * (M (3 + (M r i).toNat) 4)), jk, vi ((i : Int) + 1)]) A dX1_multiplyShares_49 rfl (by decide) rfl ?_
      refine a_goto (tgt := 9) A dX1_multiplyShares_52 (by decide) ?_
      exact ih (i + 1) (by omega) (by omega)
set_option maxRecDepth 100000 in
set_option maxHeartbeats 4000000 in
theorem c_X1_multiplyShares (G : GG) (l : Launch) (r N fa : Nat) (M : MM) (hl_fa : ly fa = (0, 0)) (ha_fa : fa < 108) (hl_r : ly r = (6, 4)) (ha_r : r < 108) (hN : N ≤ 4) (hW : CW M) (hr : RW M r N) : CMv G l yX1_multiplyShares cX1_multiplyShares 9 none 3 [.ref 1, .ref r, vi (N : Int), .ref fa] M (fun M' => M' = up2 (up2 M fa 0 (nU (cU M r N) (cD M r N))) fa 1 (nD (cU M r N) (cD M r N))) := by
  refine CT.intro (by decide) (Nat.le_of_ble_eq_true rfl) (fun E hE A T0 => ?_)
  subst hE
  refine a_lconst1 A dX1_multiplyShares_0 ?_
  refine a_lstore (lv' := [.ref 1, .ref r, vi (N : Int), .ref fa, vl 1, jk, jk, jk, jk]) A dX1_multiplyShares_1 (by decide) rfl ?_
  refine a_lconst1 A dX1_multiplyShares_3 ?_
  refine a_lstore (lv' := [.ref 1, .ref r, vi (N : Int), .ref fa, vl 1, jk, vl 1, jk, jk]) A dX1_multiplyShares_4 (by decide) rfl ?_
  refine a_iconst A dX1_multiplyShares_6 ?_
  refine a_istore (lv' := [.ref 1, .ref r, vi (N : Int), .ref fa, vl 1, jk, vl 1, jk, vi 0]) A dX1_multiplyShares_7 (by decide) rfl ?_
  exact ms_loop1 A T0 r N fa M hl_fa ha_fa hl_r ha_r hN hW hr rfl (N + 1) 0 (by omega) (by omega)
