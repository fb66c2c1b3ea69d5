/-! what the constructors make -/
theorem zl_oi : Cond.instanceMethod objectInit ∈ lw_tbl := tbm 15 (by decide +kernel)
theorem zl_oc : Cond.code objectInit ⟨#[0xb1]⟩ 1 none ∈ lw_tbl := tbm 16 (by decide +kernel)
theorem zd_L : Cond.initialized RL ∈ lw_tbl := tbm 0 (by decide +kernel)
theorem zd_X4 : Cond.initialized RX4 ∈ lw_tbl := tbm 1 (by decide +kernel)
theorem zd_X1 : Cond.initialized RX1 ∈ lw_tbl := tbm 2 (by decide +kernel)
theorem zd_X3 : Cond.initialized RX3 ∈ lw_tbl := tbm 3 (by decide +kernel)
theorem zd_X0 : Cond.initialized RX0 ∈ lw_tbl := tbm 4 (by decide +kernel)
theorem zd_X2 : Cond.initialized RX2 ∈ lw_tbl := tbm 5 (by decide +kernel)
theorem zd_X5 : Cond.initialized RX5 ∈ lw_tbl := tbm 6 (by decide +kernel)
theorem zk_L_7 : Cond.classLink RL 7 RX4 ∈ lw_tbl := tbm 9 (by decide +kernel)
theorem zn_X4 : Cond.instantiable RX4 8 ∈ lw_tbl := tbm 10 (by decide +kernel)
theorem zl_X4 : Cond.methodLink RX4 3 objectInit ∈ lw_tbl := tbm 14 (by decide +kernel)
theorem zk_X4_9 : Cond.classLink RX4 9 RX1 ∈ lw_tbl := tbm 17 (by decide +kernel)
theorem zn_X1 : Cond.instantiable RX1 5 ∈ lw_tbl := tbm 18 (by decide +kernel)
theorem zl_X1 : Cond.methodLink RX1 3 objectInit ∈ lw_tbl := tbm 22 (by decide +kernel)
theorem zk_X1_18 : Cond.classLink RX1 18 "[[I" ∈ lw_tbl := tbm 23 (by decide +kernel)
theorem zk_X4_24 : Cond.classLink RX4 24 RX3 ∈ lw_tbl := tbm 53 (by decide +kernel)
theorem zn_X3 : Cond.instantiable RX3 9 ∈ lw_tbl := tbm 54 (by decide +kernel)
theorem zl_X3 : Cond.methodLink RX3 3 objectInit ∈ lw_tbl := tbm 58 (by decide +kernel)
theorem zk_X3_15 : Cond.classLink RX3 15 RX0 ∈ lw_tbl := tbm 59 (by decide +kernel)
theorem zn_X0 : Cond.instantiable RX0 2 ∈ lw_tbl := tbm 60 (by decide +kernel)
theorem zl_X0 : Cond.methodLink RX0 1 objectInit ∈ lw_tbl := tbm 64 (by decide +kernel)
theorem zk_X4_31 : Cond.classLink RX4 31 RX2 ∈ lw_tbl := tbm 105 (by decide +kernel)
theorem zn_X2 : Cond.instantiable RX2 17 ∈ lw_tbl := tbm 106 (by decide +kernel)
theorem zl_X2 : Cond.methodLink RX2 3 objectInit ∈ lw_tbl := tbm 110 (by decide +kernel)
theorem zk_X2_31 : Cond.classLink RX2 31 "[[I" ∈ lw_tbl := tbm 111 (by decide +kernel)
theorem zk_X4_38 : Cond.classLink RX4 38 RX0 ∈ lw_tbl := tbm 165 (by decide +kernel)
theorem zk_L_10 : Cond.classLink RL 10 RX5 ∈ lw_tbl := tbm 422 (by decide +kernel)
theorem zn_X5 : Cond.instantiable RX5 33 ∈ lw_tbl := tbm 423 (by decide +kernel)
theorem zl_X5 : Cond.methodLink RX5 1 objectInit ∈ lw_tbl := tbm 427 (by decide +kernel)
def ziM0 (b : Nat) (M : MM) : MM := up2 (up2 M b 0 0) b 1 1
set_option maxHeartbeats 4000000 in
theorem zi_X0 (G : GG) (l : Launch) (b n : Nat) (h1 : ly b = (0, 0)) (hb : b < n) (rf : RF) (M : MM) : CT G l yX0_init cX0_init 1 none 1 0 0 [.ref b] n rf M (fun r rf' M' => r = none ∧ rf' = rf ∧ M' = ziM0 b M) := by
  refine CT.intro (by decide) (Nat.le_of_ble_eq_true rfl) (fun E hE A T0 => ?_)
  subst hE
  refine a_aload_n (z := b) A dX0_init_0 rfl ?_
  refine a_oinit A zl_X0 zl_oi zl_oc dX0_init_1 (by decide) (Nat.le_of_ble_eq_true rfl) ?_
  refine a_aload_n (z := b) A dX0_init_4 rfl ?_
  refine a_lconst0 A dX0_init_5 ?_
  refine pf_X0_7 A dX0_init_6 h1 hb ?_
  refine a_aload_n (z := b) A dX0_init_9 rfl ?_
  refine a_lconst1 A dX0_init_10 ?_
  refine pf_X0_13 A dX0_init_11 h1 hb ?_
  exact a_return A T0 dX0_init_14 ⟨rfl, rfl, rfl⟩
def ziR1 (b : Nat) (rf : RF) : RF := (upr (rZ (upr (rMul rf (b + 1) 10) b 2 (some (b + 1))) (b + 12)) b 3 (some (b + 12)))
def ziM1 (b : Nat) (M : MM) : MM := (up2 (mZ (mMul (up2 (up2 M b 0 2) b 1 0) (b + 1) 10) (b + 12)) b 4 0)
set_option maxRecDepth 100000 in
set_option maxHeartbeats 4000000 in
theorem zi_X1 (G : GG) (l : Launch) (b : Nat) (h1 : ly b = (1, 0)) (h2 : ly (b + 1) = (10, 10)) (h3 : ∀ j, j < 10 → ly (b + 1 + 1 + j) = (6, 8)) (h4 : ly (b + 12) = (6, 4)) (rf : RF) (M : MM) : CT G l yX1_init cX1_init 1 none 1 12 94 [.ref b] (b + 1) rf M (fun r rf' M' => r = none ∧ rf' = ziR1 b rf ∧ M' = ziM1 b M) := by
  refine CT.intro (by decide) (Nat.le_of_ble_eq_true rfl) (fun E hE A T0 => ?_)
  subst hE
  refine a_aload_n (z := b) A dX1_init_0 rfl ?_
  refine a_oinit A zl_X1 zl_oi zl_oc dX1_init_1 (by decide) (Nat.le_of_ble_eq_true rfl) ?_
  refine a_aload_n (z := b) A dX1_init_4 rfl ?_
  refine a_iconst A dX1_init_5 ?_
  refine pf_X1_9 A dX1_init_6 h1 (by omega) ?_
  refine a_aload_n (z := b) A dX1_init_9 rfl ?_
  refine a_iconst A dX1_init_10 ?_
  refine pf_X1_15 A dX1_init_11 h1 (by omega) ?_
  refine a_aload_n (z := b) A dX1_init_14 rfl ?_
  refine a_bipush A dX1_init_15 (by decide) ?_
  refine a_bipush A dX1_init_17 (by decide) ?_
  refine a_multi  (N := 10) (mm := 8) A (by omega) h2 h3 zk_X1_18 dX1_init_19 rfl rfl (by decide) ⟨by decide, by decide⟩ ?_
  refine pf_X1_20 (r := (b + 1)) A T0.2.2.2 dX1_init_23 h1 (by omega) ?_
  refine a_aload_n (z := b) A dX1_init_26 rfl ?_
  refine a_iconst A dX1_init_27 ?_
  refine a_newI  (len := 4) A (by omega) h4 dX1_init_28 rfl (by decide) ⟨by decide, by decide⟩ ?_
  refine pf_X1_23 (r := (b + 12)) A T0.2.2.2 dX1_init_30 h1 (by omega) ?_
  refine a_aload_n (z := b) A dX1_init_33 rfl ?_
  refine a_iconst A dX1_init_34 ?_
  refine pf_X1_27 A dX1_init_35 h1 (by omega) ?_
  exact a_return A T0 dX1_init_38 ⟨rfl, rfl, rfl⟩
def ziR3 (rf : RF) : RF := (upr (rZ (upr (rZ (upr (rZ (upr (rZ rf 17) 16 0 (some 17)) 18) 16 1 (some 18)) 19) 16 2 (some 19)) 20) 16 3 (some 20))
def ziM3 (M : MM) : MM := (up2 (up2 (up2 (up2 (up2 (ziM0 20 (mZ (mZ (ziM0 18 (mZ (mZ M 17) 18)) 19) 20)) 16 4 0) 16 5 0) 16 6 0) 16 7 0) 16 8 0)
set_option maxRecDepth 100000 in
set_option maxHeartbeats 4000000 in
theorem zi_X3 (G : GG) (l : Launch)  (rf : RF) (M : MM) : CT G l yX3_init cX3_init 1 none 2 4 12 [.ref 16] 17 rf M (fun r rf' M' => r = none ∧ rf' = ziR3 rf ∧ M' = ziM3 M) := by
  refine CT.intro (by decide) (Nat.le_of_ble_eq_true rfl) (fun E hE A T0 => ?_)
  subst hE
  refine a_aload_n (z := 16) A dX3_init_0 rfl ?_
  refine a_oinit A zl_X3 zl_oi zl_oc dX3_init_1 (by decide) (Nat.le_of_ble_eq_true rfl) ?_
  refine a_aload_n (z := 16) A dX3_init_4 rfl ?_
  refine a_iconst A dX3_init_5 ?_
  refine a_newI (n := 17) (k := 0) (w := 0) (len := 4) A rfl rfl dX3_init_6 rfl (by decide) ⟨by decide, by decide⟩ ?_
  refine pf_X3_9 (r := 17) A T0.2.2.2 dX3_init_8 rfl (by decide) ?_
  refine a_aload_n (z := 16) A dX3_init_11 rfl ?_
  refine a_new (n := 18) (k := 1) (w := 4) A rfl cf0 df0 rfl zk_X3_15 zn_X0 zd_X0 dX3_init_12 ⟨by decide, by decide⟩ ?_
  refine a_dup A dX3_init_15 rfl ?_
  refine a_invI (n := 19) (k := 2) (w := 6) A rfl (zi_X0 G (eL E) 18 19 rfl (by decide) _ _) (by decide) mi_X0_init mn_X0_init rfl cs_X3_17 rfl dX3_init_16 rfl (Nat.le_of_ble_eq_true rfl) ⟨by decide, by decide⟩ (fun r rf' M' h => ?_)
  obtain ⟨rfl, rfl, rfl⟩ := h
  show AW G E _ 19 [.ref 16] [.ref 18, .ref 16] 19 2 6 _ _
  refine pf_X3_18 (r := 18) A T0.2.2.2 dX3_init_19 rfl (by decide) ?_
  refine a_aload_n (z := 16) A dX3_init_22 rfl ?_
  refine a_iconst A dX3_init_23 ?_
  refine a_newI (n := 19) (k := 2) (w := 6) (len := 4) A rfl rfl dX3_init_24 rfl (by decide) ⟨by decide, by decide⟩ ?_
  refine pf_X3_22 (r := 19) A T0.2.2.2 dX3_init_26 rfl (by decide) ?_
  refine a_aload_n (z := 16) A dX3_init_29 rfl ?_
  refine a_new (n := 20) (k := 3) (w := 10) A rfl cf0 df0 rfl zk_X3_15 zn_X0 zd_X0 dX3_init_30 ⟨by decide, by decide⟩ ?_
  refine a_dup A dX3_init_33 rfl ?_
  refine a_invI (n := 21) (k := 4) (w := 12) A rfl (zi_X0 G (eL E) 20 21 rfl (by decide) _ _) (by decide) mi_X0_init mn_X0_init rfl cs_X3_17 rfl dX3_init_34 rfl (Nat.le_of_ble_eq_true rfl) ⟨by decide, by decide⟩ (fun r rf' M' h => ?_)
  obtain ⟨rfl, rfl, rfl⟩ := h
  show AW G E _ 37 [.ref 16] [.ref 20, .ref 16] 21 4 12 _ _
  refine pf_X3_25 (r := 20) A T0.2.2.2 dX3_init_37 rfl (by decide) ?_
  refine a_aload_n (z := 16) A dX3_init_40 rfl ?_
  refine a_iconst A dX3_init_41 ?_
  refine pf_X3_28 A dX3_init_42 rfl (by decide) ?_
  refine a_aload_n (z := 16) A dX3_init_45 rfl ?_
  refine a_iconst A dX3_init_46 ?_
  refine pf_X3_32 A dX3_init_47 rfl (by decide) ?_
  refine a_aload_n (z := 16) A dX3_init_50 rfl ?_
  refine a_iconst A dX3_init_51 ?_
  refine pf_X3_35 A dX3_init_52 rfl (by decide) (Or.inl rfl) ?_
  refine a_aload_n (z := 16) A dX3_init_55 rfl ?_
  refine a_iconst A dX3_init_56 ?_
  refine pf_X3_39 A dX3_init_57 rfl (by decide) ?_
  refine a_aload_n (z := 16) A dX3_init_60 rfl ?_
  refine a_iconst A dX3_init_61 ?_
  refine pf_X3_42 A dX3_init_62 rfl (by decide) ?_
  exact a_return A T0 dX3_init_65 ⟨rfl, rfl, rfl⟩
def ziR2 (rf : RF) : RF := (upr (rZ (upr (rMul (upr (rZ (upr (rZ (upr (rZ (upr (rZ (upr (rZ rf 22) 21 0 (some 22)) 23) 21 1 (some 23)) 24) 21 2 (some 24)) 25) 21 3 (some 25)) 26) 21 4 (some 26)) 27 13) 21 6 (some 27)) 41) 21 8 (some 41))
def ziM2 (M : MM) : MM := (up2 (up2 (up2 (up2 (up2 (up2 (up2 (up2 (mZ (up2 (mMul (up2 (mZ (mZ (mZ (mZ (mZ M 22) 23) 24) 25) 26) 21 5 0) 27 13) 21 7 0) 41) 21 9 0) 21 10 0) 21 11 0) 21 12 0) 21 13 0) 21 14 0) 21 15 0) 21 16 0)
set_option maxRecDepth 100000 in
set_option maxHeartbeats 4000000 in
theorem zi_X2 (G : GG) (l : Launch)  (rf : RF) (M : MM) : CT G l yX2_init cX2_init 1 none 1 20 133 [.ref 21] 22 rf M (fun r rf' M' => r = none ∧ rf' = ziR2 rf ∧ M' = ziM2 M) := by
  refine CT.intro (by decide) (Nat.le_of_ble_eq_true rfl) (fun E hE A T0 => ?_)
  subst hE
  refine a_aload_n (z := 21) A dX2_init_0 rfl ?_
  refine a_oinit A zl_X2 zl_oi zl_oc dX2_init_1 (by decide) (Nat.le_of_ble_eq_true rfl) ?_
  refine a_aload_n (z := 21) A dX2_init_4 rfl ?_
  refine a_bipush A dX2_init_5 (by decide) ?_
  refine a_newI (n := 22) (k := 0) (w := 0) (len := 10) A rfl rfl dX2_init_7 rfl (by decide) ⟨by decide, by decide⟩ ?_
  refine pf_X2_9 (r := 22) A T0.2.2.2 dX2_init_9 rfl (by decide) ?_
  refine a_aload_n (z := 21) A dX2_init_12 rfl ?_
  refine a_bipush A dX2_init_13 (by decide) ?_
  refine a_newI (n := 23) (k := 1) (w := 10) (len := 10) A rfl rfl dX2_init_15 rfl (by decide) ⟨by decide, by decide⟩ ?_
  refine pf_X2_15 (r := 23) A T0.2.2.2 dX2_init_17 rfl (by decide) ?_
  refine a_aload_n (z := 21) A dX2_init_20 rfl ?_
  refine a_bipush A dX2_init_21 (by decide) ?_
  refine a_newI (n := 24) (k := 2) (w := 20) (len := 10) A rfl rfl dX2_init_23 rfl (by decide) ⟨by decide, by decide⟩ ?_
  refine pf_X2_18 (r := 24) A T0.2.2.2 dX2_init_25 rfl (by decide) ?_
  refine a_aload_n (z := 21) A dX2_init_28 rfl ?_
  refine a_bipush A dX2_init_29 (by decide) ?_
  refine a_newI (n := 25) (k := 3) (w := 30) (len := 10) A rfl rfl dX2_init_31 rfl (by decide) ⟨by decide, by decide⟩ ?_
  refine pf_X2_21 (r := 25) A T0.2.2.2 dX2_init_33 rfl (by decide) ?_
  refine a_aload_n (z := 21) A dX2_init_36 rfl ?_
  refine a_bipush A dX2_init_37 (by decide) ?_
  refine a_newI (n := 26) (k := 4) (w := 40) (len := 10) A rfl rfl dX2_init_39 rfl (by decide) ⟨by decide, by decide⟩ ?_
  refine pf_X2_24 (r := 26) A T0.2.2.2 dX2_init_41 rfl (by decide) ?_
  refine a_aload_n (z := 21) A dX2_init_44 rfl ?_
  refine a_iconst A dX2_init_45 ?_
  refine pf_X2_27 A dX2_init_46 rfl (by decide) ?_
  refine a_aload_n (z := 21) A dX2_init_49 rfl ?_
  refine a_bipush A dX2_init_50 (by decide) ?_
  refine a_iconst A dX2_init_52 ?_
  refine a_multi (n := 27) (k := 5) (w := 50) (N := 13) (mm := 5) A rfl rfl (by decide) zk_X2_31 dX2_init_53 rfl rfl (by decide) ⟨by decide, by decide⟩ ?_
  refine pf_X2_33 (r := 27) A T0.2.2.2 dX2_init_57 rfl (by decide) ?_
  refine a_aload_n (z := 21) A dX2_init_60 rfl ?_
  refine a_iconst A dX2_init_61 ?_
  refine pf_X2_36 A dX2_init_62 rfl (by decide) ?_
  refine a_aload_n (z := 21) A dX2_init_65 rfl ?_
  refine a_iconst A dX2_init_66 ?_
  refine a_newJ (n := 41) (k := 19) (w := 128) (len := 5) A rfl rfl dX2_init_67 rfl (by decide) ⟨by decide, by decide⟩ ?_
  refine pf_X2_39 (r := 41) A T0.2.2.2 dX2_init_69 rfl (by decide) ?_
  refine a_aload_n (z := 21) A dX2_init_72 rfl ?_
  refine a_lconst0 A dX2_init_73 ?_
  refine pf_X2_43 A dX2_init_74 rfl (by decide) ?_
  refine a_aload_n (z := 21) A dX2_init_77 rfl ?_
  refine a_lconst0 A dX2_init_78 ?_
  refine pf_X2_47 A dX2_init_79 rfl (by decide) ?_
  refine a_aload_n (z := 21) A dX2_init_82 rfl ?_
  refine a_lconst0 A dX2_init_83 ?_
  refine pf_X2_50 A dX2_init_84 rfl (by decide) ?_
  refine a_aload_n (z := 21) A dX2_init_87 rfl ?_
  refine a_lconst0 A dX2_init_88 ?_
  refine pf_X2_53 A dX2_init_89 rfl (by decide) ?_
  refine a_aload_n (z := 21) A dX2_init_92 rfl ?_
  refine a_lconst0 A dX2_init_93 ?_
  refine pf_X2_56 A dX2_init_94 rfl (by decide) ?_
  refine a_aload_n (z := 21) A dX2_init_97 rfl ?_
  refine a_lconst0 A dX2_init_98 ?_
  refine pf_X2_59 A dX2_init_99 rfl (by decide) ?_
  refine a_aload_n (z := 21) A dX2_init_102 rfl ?_
  refine a_lconst0 A dX2_init_103 ?_
  refine pf_X2_62 A dX2_init_104 rfl (by decide) ?_
  refine a_aload_n (z := 21) A dX2_init_107 rfl ?_
  refine a_lconst0 A dX2_init_108 ?_
  refine pf_X2_65 A dX2_init_109 rfl (by decide) ?_
  exact a_return A T0 dX2_init_112 ⟨rfl, rfl, rfl⟩
def ziR4 (rf : RF) : RF := (upr (ziR1 71 (rZ (upr (ziR1 58 (rZ (upr (ziR1 45 (rZ (upr (rZ (upr (rZ (upr (rZ (upr (ziR2 (rZ (upr (ziR3 (rZ (upr (rZ (upr (rZ (upr (ziR1 1 (rZ rf 1)) 0 0 (some 1)) 14) 0 1 (some 14)) 15) 0 2 (some 15)) 16)) 0 3 (some 16)) 21)) 0 4 (some 21)) 42) 0 5 (some 42)) 43) 0 6 (some 43)) 44) 0 7 (some 44)) 45)) 14 0 (some 45)) 58)) 14 1 (some 58)) 71)) 14 2 (some 71))
def ziM4 (M : MM) : MM := (ziM1 71 (mZ (ziM1 58 (mZ (ziM1 45 (mZ (ziM0 44 (mZ (ziM0 43 (mZ (ziM0 42 (mZ (ziM2 (mZ (ziM3 (mZ (mZ (mZ (ziM1 1 (mZ M 1)) 14) 15) 16)) 21)) 42)) 43)) 44)) 45)) 58)) 71))
set_option maxRecDepth 100000 in
set_option maxHeartbeats 4000000 in
theorem zi_X4 (G : GG) (l : Launch)  (rf : RF) (M : MM) : CT G l yX4_init cX4_init 2 none 3 83 579 [.ref 0] 1 rf M (fun r rf' M' => r = none ∧ rf' = ziR4 rf ∧ M' = ziM4 M) := by
  refine CT.intro (by decide) (Nat.le_of_ble_eq_true rfl) (fun E hE A T0 => ?_)
  subst hE
  refine a_aload_n (z := 0) A dX4_init_0 rfl ?_
  refine a_oinit A zl_X4 zl_oi zl_oc dX4_init_1 (by decide) (Nat.le_of_ble_eq_true rfl) ?_
  refine a_aload_n (z := 0) A dX4_init_4 rfl ?_
  refine a_new (n := 1) (k := 0) (w := 0) A rfl cf1 df1 rfl zk_X4_9 zn_X1 zd_X1 dX4_init_5 ⟨by decide, by decide⟩ ?_
  refine a_dup A dX4_init_8 rfl ?_
  refine a_invI (n := 2) (k := 1) (w := 5) A rfl (zi_X1 G (eL E) 1 rfl rfl (by decide) rfl _ _) (by decide) mi_X1_init mn_X1_init rfl cs_X4_11 rfl dX4_init_9 rfl (Nat.le_of_ble_eq_true rfl) ⟨by decide, by decide⟩ (fun r rf' M' h => ?_)
  obtain ⟨rfl, rfl, rfl⟩ := h
  show AW G E _ 12 [.ref 0, jk] [.ref 1, .ref 0] 14 13 99 _ _
  refine pf_X4_12 (r := 1) A T0.2.2.2 dX4_init_12 rfl (by decide) ?_
  refine a_aload_n (z := 0) A dX4_init_15 rfl ?_
  refine a_iconst A dX4_init_16 ?_
  refine a_newQ (n := 14) (k := 13) (w := 99) (len := 3) A rfl rfl zk_X4_9 dX4_init_17 rfl (by decide) ⟨by decide, by decide⟩ ?_
  refine pf_X4_16 (r := 14) A T0.2.2.2 dX4_init_20 rfl (by decide) ?_
  refine a_aload_n (z := 0) A dX4_init_23 rfl ?_
  refine a_iconst A dX4_init_24 ?_
  refine a_newZ (n := 15) (k := 14) (w := 102) (len := 3) A rfl rfl dX4_init_25 rfl (by decide) ⟨by decide, by decide⟩ ?_
  refine pf_X4_20 (r := 15) A T0.2.2.2 dX4_init_27 rfl (by decide) ?_
  refine a_aload_n (z := 0) A dX4_init_30 rfl ?_
  refine a_new (n := 16) (k := 15) (w := 105) A rfl cf3 df3 rfl zk_X4_24 zn_X3 zd_X3 dX4_init_31 ⟨by decide, by decide⟩ ?_
  refine a_dup A dX4_init_34 rfl ?_
  refine a_invI (n := 17) (k := 16) (w := 114) A rfl (zi_X3 G (eL E) _ _) (by decide) mi_X3_init mn_X3_init rfl cs_X4_26 rfl dX4_init_35 rfl (Nat.le_of_ble_eq_true rfl) ⟨by decide, by decide⟩ (fun r rf' M' h => ?_)
  obtain ⟨rfl, rfl, rfl⟩ := h
  show AW G E _ 38 [.ref 0, jk] [.ref 16, .ref 0] 21 20 126 _ _
  refine pf_X4_27 (r := 16) A T0.2.2.2 dX4_init_38 rfl (by decide) ?_
  refine a_aload_n (z := 0) A dX4_init_41 rfl ?_
  refine a_new (n := 21) (k := 20) (w := 126) A rfl cf2 df2 rfl zk_X4_31 zn_X2 zd_X2 dX4_init_42 ⟨by decide, by decide⟩ ?_
  refine a_dup A dX4_init_45 rfl ?_
  refine a_invI (n := 22) (k := 21) (w := 143) A rfl (zi_X2 G (eL E) _ _) (by decide) mi_X2_init mn_X2_init rfl cs_X4_33 rfl dX4_init_46 rfl (Nat.le_of_ble_eq_true rfl) ⟨by decide, by decide⟩ (fun r rf' M' h => ?_)
  obtain ⟨rfl, rfl, rfl⟩ := h
  show AW G E _ 49 [.ref 0, jk] [.ref 21, .ref 0] 42 41 276 _ _
  refine pf_X4_34 (r := 21) A T0.2.2.2 dX4_init_49 rfl (by decide) ?_
  refine a_aload_n (z := 0) A dX4_init_52 rfl ?_
  refine a_new (n := 42) (k := 41) (w := 276) A rfl cf0 df0 rfl zk_X4_38 zn_X0 zd_X0 dX4_init_53 ⟨by decide, by decide⟩ ?_
  refine a_dup A dX4_init_56 rfl ?_
  refine a_invI (n := 43) (k := 42) (w := 278) A rfl (zi_X0 G (eL E) 42 43 rfl (by decide) _ _) (by decide) mi_X0_init mn_X0_init rfl cs_X4_40 rfl dX4_init_57 rfl (Nat.le_of_ble_eq_true rfl) ⟨by decide, by decide⟩ (fun r rf' M' h => ?_)
  obtain ⟨rfl, rfl, rfl⟩ := h
  show AW G E _ 60 [.ref 0, jk] [.ref 42, .ref 0] 43 42 278 _ _
  refine pf_X4_41 (r := 42) A T0.2.2.2 dX4_init_60 rfl (by decide) ?_
  refine a_aload_n (z := 0) A dX4_init_63 rfl ?_
  refine a_new (n := 43) (k := 42) (w := 278) A rfl cf0 df0 rfl zk_X4_38 zn_X0 zd_X0 dX4_init_64 ⟨by decide, by decide⟩ ?_
  refine a_dup A dX4_init_67 rfl ?_
  refine a_invI (n := 44) (k := 43) (w := 280) A rfl (zi_X0 G (eL E) 43 44 rfl (by decide) _ _) (by decide) mi_X0_init mn_X0_init rfl cs_X4_40 rfl dX4_init_68 rfl (Nat.le_of_ble_eq_true rfl) ⟨by decide, by decide⟩ (fun r rf' M' h => ?_)
  obtain ⟨rfl, rfl, rfl⟩ := h
  show AW G E _ 71 [.ref 0, jk] [.ref 43, .ref 0] 44 43 280 _ _
  refine pf_X4_45 (r := 43) A T0.2.2.2 dX4_init_71 rfl (by decide) ?_
  refine a_aload_n (z := 0) A dX4_init_74 rfl ?_
  refine a_new (n := 44) (k := 43) (w := 280) A rfl cf0 df0 rfl zk_X4_38 zn_X0 zd_X0 dX4_init_75 ⟨by decide, by decide⟩ ?_
  refine a_dup A dX4_init_78 rfl ?_
  refine a_invI (n := 45) (k := 44) (w := 282) A rfl (zi_X0 G (eL E) 44 45 rfl (by decide) _ _) (by decide) mi_X0_init mn_X0_init rfl cs_X4_40 rfl dX4_init_79 rfl (Nat.le_of_ble_eq_true rfl) ⟨by decide, by decide⟩ (fun r rf' M' h => ?_)
  obtain ⟨rfl, rfl, rfl⟩ := h
  show AW G E _ 82 [.ref 0, jk] [.ref 44, .ref 0] 45 44 282 _ _
  refine pf_X4_48 (r := 44) A T0.2.2.2 dX4_init_82 rfl (by decide) ?_
  refine a_iconst A dX4_init_85 ?_
  refine a_istore_n (lv' := [.ref 0, vi 0]) A dX4_init_86 (by decide) rfl ?_
  refine a_iload_n (z := 0) A dX4_init_87 rfl ?_
  refine a_iconst A dX4_init_88 ?_
  refine a_icmp_ge (tgt := 111) A dX4_init_89 (by decide) (by omega) (by omega) (fun hq => ?_) (fun hq => ?_)
  · exfalso; omega
  refine a_aload_n (z := 0) A dX4_init_92 rfl ?_
  refine gf_X4_16 (r := 14) A dX4_init_93 rfl (by decide) rfl ?_
  refine a_iload_n (z := 0) A dX4_init_96 rfl ?_
  refine a_new (n := 45) (k := 44) (w := 282) A rfl cf1 df1 rfl zk_X4_9 zn_X1 zd_X1 dX4_init_97 ⟨by decide, by decide⟩ ?_
  refine a_dup A dX4_init_100 rfl ?_
  refine a_invI (n := 46) (k := 45) (w := 287) A rfl (zi_X1 G (eL E) 45 rfl rfl (by decide) rfl _ _) (by decide) mi_X1_init mn_X1_init rfl cs_X4_11 rfl dX4_init_101 rfl (Nat.le_of_ble_eq_true rfl) ⟨by decide, by decide⟩ (fun r rf' M' h => ?_)
  obtain ⟨rfl, rfl, rfl⟩ := h
  show AW G E _ 104 [.ref 0, vi 0] [.ref 45, vi 0, .ref 14] 58 57 381 _ _
  refine a_aastore (i := 0) (j := 0) (len := 3) A dX4_init_104 rfl (by decide) (by decide) (by decide) rfl rfl (by decide) ?_
  refine a_iinc (z := 0) (lv' := [.ref 0, vi (0 + 1)]) A dX4_init_105 rfl (by decide) rfl ?_
  refine a_goto (tgt := 87) A dX4_init_108 (by decide) ?_
  refine a_iload_n (z := (0 + 1)) A dX4_init_87 rfl ?_
  refine a_iconst A dX4_init_88 ?_
  refine a_icmp_ge (tgt := 111) A dX4_init_89 (by decide) (by omega) (by omega) (fun hq => ?_) (fun hq => ?_)
  · exfalso; omega
  refine a_aload_n (z := 0) A dX4_init_92 rfl ?_
  refine gf_X4_16 (r := 14) A dX4_init_93 rfl (by decide) rfl ?_
  refine a_iload_n (z := (0 + 1)) A dX4_init_96 rfl ?_
  refine a_new (n := 58) (k := 57) (w := 381) A rfl cf1 df1 rfl zk_X4_9 zn_X1 zd_X1 dX4_init_97 ⟨by decide, by decide⟩ ?_
  refine a_dup A dX4_init_100 rfl ?_
  refine a_invI (n := 59) (k := 58) (w := 386) A rfl (zi_X1 G (eL E) 58 rfl rfl (by decide) rfl _ _) (by decide) mi_X1_init mn_X1_init rfl cs_X4_11 rfl dX4_init_101 rfl (Nat.le_of_ble_eq_true rfl) ⟨by decide, by decide⟩ (fun r rf' M' h => ?_)
  obtain ⟨rfl, rfl, rfl⟩ := h
  show AW G E _ 104 [.ref 0, vi (0 + 1)] [.ref 58, vi (0 + 1), .ref 14] 71 70 480 _ _
  refine a_aastore (i := (0 + 1)) (j := 1) (len := 3) A dX4_init_104 rfl (by decide) (by decide) (by decide) rfl rfl (by decide) ?_
  refine a_iinc (z := (0 + 1)) (lv' := [.ref 0, vi ((0 + 1) + 1)]) A dX4_init_105 rfl (by decide) rfl ?_
  refine a_goto (tgt := 87) A dX4_init_108 (by decide) ?_
  refine a_iload_n (z := ((0 + 1) + 1)) A dX4_init_87 rfl ?_
  refine a_iconst A dX4_init_88 ?_
  refine a_icmp_ge (tgt := 111) A dX4_init_89 (by decide) (by omega) (by omega) (fun hq => ?_) (fun hq => ?_)
  · exfalso; omega
  refine a_aload_n (z := 0) A dX4_init_92 rfl ?_
  refine gf_X4_16 (r := 14) A dX4_init_93 rfl (by decide) rfl ?_
  refine a_iload_n (z := ((0 + 1) + 1)) A dX4_init_96 rfl ?_
  refine a_new (n := 71) (k := 70) (w := 480) A rfl cf1 df1 rfl zk_X4_9 zn_X1 zd_X1 dX4_init_97 ⟨by decide, by decide⟩ ?_
  refine a_dup A dX4_init_100 rfl ?_
  refine a_invI (n := 72) (k := 71) (w := 485) A rfl (zi_X1 G (eL E) 71 rfl rfl (by decide) rfl _ _) (by decide) mi_X1_init mn_X1_init rfl cs_X4_11 rfl dX4_init_101 rfl (Nat.le_of_ble_eq_true rfl) ⟨by decide, by decide⟩ (fun r rf' M' h => ?_)
  obtain ⟨rfl, rfl, rfl⟩ := h
  show AW G E _ 104 [.ref 0, vi ((0 + 1) + 1)] [.ref 71, vi ((0 + 1) + 1), .ref 14] 84 83 579 _ _
  refine a_aastore (i := ((0 + 1) + 1)) (j := 2) (len := 3) A dX4_init_104 rfl (by decide) (by decide) (by decide) rfl rfl (by decide) ?_
  refine a_iinc (z := ((0 + 1) + 1)) (lv' := [.ref 0, vi (((0 + 1) + 1) + 1)]) A dX4_init_105 rfl (by decide) rfl ?_
  refine a_goto (tgt := 87) A dX4_init_108 (by decide) ?_
  refine a_iload_n (z := (((0 + 1) + 1) + 1)) A dX4_init_87 rfl ?_
  refine a_iconst A dX4_init_88 ?_
  refine a_icmp_ge (tgt := 111) A dX4_init_89 (by decide) (by omega) (by omega) (fun hq => ?_) (fun hq => ?_)
  rotate_left
  · exfalso; omega
  exact a_return A T0 dX4_init_111 ⟨rfl, rfl, rfl⟩
def ziR5 (rf : RF) : RF := (upr (rZ (upr (rZ (upr (rZ (upr (rZ (upr (rZ (upr (rZ (upr (rZ (upr (rZ (upr (rZ (upr (rZ (upr (rZ (upr (rZ (upr (rZ (upr (rZ (upr (rZ (upr (rZ (upr (rZ (upr (rZ (upr (rZ (upr (rZ (upr (rZ (upr (rZ (upr (rZ rf 85) 84 1 (some 85)) 86) 84 2 (some 86)) 87) 84 3 (some 87)) 88) 84 4 (some 88)) 89) 84 5 (some 89)) 90) 84 6 (some 90)) 91) 84 7 (some 91)) 92) 84 8 (some 92)) 93) 84 9 (some 93)) 94) 84 10 (some 94)) 95) 84 11 (some 95)) 96) 84 12 (some 96)) 97) 84 13 (some 97)) 98) 84 14 (some 98)) 99) 84 17 (some 99)) 100) 84 18 (some 100)) 101) 84 19 (some 101)) 102) 84 20 (some 102)) 103) 84 21 (some 103)) 104) 84 22 (some 104)) 105) 84 25 (some 105)) 106) 84 26 (some 106)) 107) 84 32 (some 107))
def ziM5 (M : MM) : MM := (up2 (mZ (mZ (mZ (mZ (mZ (mZ (mZ (mZ (mZ (mZ (mZ (mZ (mZ (mZ (mZ (mZ (mZ (mZ (mZ (mZ (mZ (mZ (mZ M 85) 86) 87) 88) 89) 90) 91) 92) 93) 94) 95) 96) 97) 98) 99) 100) 101) 102) 103) 104) 105) 106) 107) 85 0 2)
set_option maxRecDepth 100000 in
set_option maxHeartbeats 4000000 in
theorem zi_X5 (G : GG) (l : Launch)  (rf : RF) (M : MM) : CT G l yX5_init cX5_init 1 none 1 23 418 [.ref 84] 85 rf M (fun r rf' M' => r = none ∧ rf' = ziR5 rf ∧ M' = ziM5 M) := by
  refine CT.intro (by decide) (Nat.le_of_ble_eq_true rfl) (fun E hE A T0 => ?_)
  subst hE
  refine a_aload_n (z := 84) A dX5_init_0 rfl ?_
  refine a_oinit A zl_X5 zl_oi zl_oc dX5_init_1 (by decide) (Nat.le_of_ble_eq_true rfl) ?_
  refine a_aload_n (z := 84) A dX5_init_4 rfl ?_
  refine a_iconst A dX5_init_5 ?_
  refine a_newI (n := 85) (k := 0) (w := 0) (len := 4) A rfl rfl dX5_init_6 rfl (by decide) ⟨by decide, by decide⟩ ?_
  refine pf_X5_7 (r := 85) A T0.2.2.2 dX5_init_8 rfl (by decide) ?_
  refine a_aload_n (z := 84) A dX5_init_11 rfl ?_
  refine a_iconst A dX5_init_12 ?_
  refine a_newI (n := 86) (k := 1) (w := 4) (len := 4) A rfl rfl dX5_init_13 rfl (by decide) ⟨by decide, by decide⟩ ?_
  refine pf_X5_13 (r := 86) A T0.2.2.2 dX5_init_15 rfl (by decide) ?_
  refine a_aload_n (z := 84) A dX5_init_18 rfl ?_
  refine a_bipush A dX5_init_19 (by decide) ?_
  refine a_newI (n := 87) (k := 2) (w := 8) (len := 40) A rfl rfl dX5_init_21 rfl (by decide) ⟨by decide, by decide⟩ ?_
  refine pf_X5_16 (r := 87) A T0.2.2.2 dX5_init_23 rfl (by decide) ?_
  refine a_aload_n (z := 84) A dX5_init_26 rfl ?_
  refine a_bipush A dX5_init_27 (by decide) ?_
  refine a_newI (n := 88) (k := 3) (w := 48) (len := 40) A rfl rfl dX5_init_29 rfl (by decide) ⟨by decide, by decide⟩ ?_
  refine pf_X5_19 (r := 88) A T0.2.2.2 dX5_init_31 rfl (by decide) ?_
  refine a_aload_n (z := 84) A dX5_init_34 rfl ?_
  refine a_bipush A dX5_init_35 (by decide) ?_
  refine a_newI (n := 89) (k := 4) (w := 88) (len := 40) A rfl rfl dX5_init_37 rfl (by decide) ⟨by decide, by decide⟩ ?_
  refine pf_X5_22 (r := 89) A T0.2.2.2 dX5_init_39 rfl (by decide) ?_
  refine a_aload_n (z := 84) A dX5_init_42 rfl ?_
  refine a_bipush A dX5_init_43 (by decide) ?_
  refine a_newI (n := 90) (k := 5) (w := 128) (len := 40) A rfl rfl dX5_init_45 rfl (by decide) ⟨by decide, by decide⟩ ?_
  refine pf_X5_25 (r := 90) A T0.2.2.2 dX5_init_47 rfl (by decide) ?_
  refine a_aload_n (z := 84) A dX5_init_50 rfl ?_
  refine a_bipush A dX5_init_51 (by decide) ?_
  refine a_newI (n := 91) (k := 6) (w := 168) (len := 40) A rfl rfl dX5_init_53 rfl (by decide) ⟨by decide, by decide⟩ ?_
  refine pf_X5_28 (r := 91) A T0.2.2.2 dX5_init_55 rfl (by decide) ?_
  refine a_aload_n (z := 84) A dX5_init_58 rfl ?_
  refine a_bipush A dX5_init_59 (by decide) ?_
  refine a_newI (n := 92) (k := 7) (w := 208) (len := 40) A rfl rfl dX5_init_61 rfl (by decide) ⟨by decide, by decide⟩ ?_
  refine pf_X5_31 (r := 92) A T0.2.2.2 dX5_init_63 rfl (by decide) ?_
  refine a_aload_n (z := 84) A dX5_init_66 rfl ?_
  refine a_bipush A dX5_init_67 (by decide) ?_
  refine a_newI (n := 93) (k := 8) (w := 248) (len := 40) A rfl rfl dX5_init_69 rfl (by decide) ⟨by decide, by decide⟩ ?_
  refine pf_X5_34 (r := 93) A T0.2.2.2 dX5_init_71 rfl (by decide) ?_
  refine a_aload_n (z := 84) A dX5_init_74 rfl ?_
  refine a_bipush A dX5_init_75 (by decide) ?_
  refine a_newI (n := 94) (k := 9) (w := 288) (len := 40) A rfl rfl dX5_init_77 rfl (by decide) ⟨by decide, by decide⟩ ?_
  refine pf_X5_37 (r := 94) A T0.2.2.2 dX5_init_79 rfl (by decide) ?_
  refine a_aload_n (z := 84) A dX5_init_82 rfl ?_
  refine a_iconst A dX5_init_83 ?_
  refine a_newI (n := 95) (k := 10) (w := 328) (len := 4) A rfl rfl dX5_init_84 rfl (by decide) ⟨by decide, by decide⟩ ?_
  refine pf_X5_40 (r := 95) A T0.2.2.2 dX5_init_86 rfl (by decide) ?_
  refine a_aload_n (z := 84) A dX5_init_89 rfl ?_
  refine a_bipush A dX5_init_90 (by decide) ?_
  refine a_newI (n := 96) (k := 11) (w := 332) (len := 20) A rfl rfl dX5_init_92 rfl (by decide) ⟨by decide, by decide⟩ ?_
  refine pf_X5_43 (r := 96) A T0.2.2.2 dX5_init_94 rfl (by decide) ?_
  refine a_aload_n (z := 84) A dX5_init_97 rfl ?_
  refine a_iconst A dX5_init_98 ?_
  refine a_newJ (n := 97) (k := 12) (w := 352) (len := 4) A rfl rfl dX5_init_99 rfl (by decide) ⟨by decide, by decide⟩ ?_
  refine pf_X5_46 (r := 97) A T0.2.2.2 dX5_init_101 rfl (by decide) ?_
  refine a_aload_n (z := 84) A dX5_init_104 rfl ?_
  refine a_iconst A dX5_init_105 ?_
  refine a_newJ (n := 98) (k := 13) (w := 356) (len := 4) A rfl rfl dX5_init_106 rfl (by decide) ⟨by decide, by decide⟩ ?_
  refine pf_X5_50 (r := 98) A T0.2.2.2 dX5_init_108 rfl (by decide) ?_
  refine a_aload_n (z := 84) A dX5_init_111 rfl ?_
  refine a_bipush A dX5_init_112 (by decide) ?_
  refine a_newI (n := 99) (k := 14) (w := 360) (len := 10) A rfl rfl dX5_init_114 rfl (by decide) ⟨by decide, by decide⟩ ?_
  refine pf_X5_53 (r := 99) A T0.2.2.2 dX5_init_116 rfl (by decide) ?_
  refine a_aload_n (z := 84) A dX5_init_119 rfl ?_
  refine a_bipush A dX5_init_120 (by decide) ?_
  refine a_newI (n := 100) (k := 15) (w := 370) (len := 10) A rfl rfl dX5_init_122 rfl (by decide) ⟨by decide, by decide⟩ ?_
  refine pf_X5_56 (r := 100) A T0.2.2.2 dX5_init_124 rfl (by decide) ?_
  refine a_aload_n (z := 84) A dX5_init_127 rfl ?_
  refine a_bipush A dX5_init_128 (by decide) ?_
  refine a_newI (n := 101) (k := 16) (w := 380) (len := 10) A rfl rfl dX5_init_130 rfl (by decide) ⟨by decide, by decide⟩ ?_
  refine pf_X5_59 (r := 101) A T0.2.2.2 dX5_init_132 rfl (by decide) ?_
  refine a_aload_n (z := 84) A dX5_init_135 rfl ?_
  refine a_iconst A dX5_init_136 ?_
  refine a_newI (n := 102) (k := 17) (w := 390) (len := 5) A rfl rfl dX5_init_137 rfl (by decide) ⟨by decide, by decide⟩ ?_
  refine pf_X5_62 (r := 102) A T0.2.2.2 dX5_init_139 rfl (by decide) ?_
  refine a_aload_n (z := 84) A dX5_init_142 rfl ?_
  refine a_iconst A dX5_init_143 ?_
  refine a_newJ (n := 103) (k := 18) (w := 395) (len := 5) A rfl rfl dX5_init_144 rfl (by decide) ⟨by decide, by decide⟩ ?_
  refine pf_X5_65 (r := 103) A T0.2.2.2 dX5_init_146 rfl (by decide) ?_
  refine a_aload_n (z := 84) A dX5_init_149 rfl ?_
  refine a_iconst A dX5_init_150 ?_
  refine a_newJ (n := 104) (k := 19) (w := 400) (len := 5) A rfl rfl dX5_init_151 rfl (by decide) ⟨by decide, by decide⟩ ?_
  refine pf_X5_68 (r := 104) A T0.2.2.2 dX5_init_153 rfl (by decide) ?_
  refine a_aload_n (z := 84) A dX5_init_156 rfl ?_
  refine a_iconst A dX5_init_157 ?_
  refine a_newI (n := 105) (k := 20) (w := 405) (len := 5) A rfl rfl dX5_init_158 rfl (by decide) ⟨by decide, by decide⟩ ?_
  refine pf_X5_71 (r := 105) A T0.2.2.2 dX5_init_160 rfl (by decide) ?_
  refine a_aload_n (z := 84) A dX5_init_163 rfl ?_
  refine a_iconst A dX5_init_164 ?_
  refine a_newI (n := 106) (k := 21) (w := 410) (len := 5) A rfl rfl dX5_init_165 rfl (by decide) ⟨by decide, by decide⟩ ?_
  refine pf_X5_74 (r := 106) A T0.2.2.2 dX5_init_167 rfl (by decide) ?_
  refine a_aload_n (z := 84) A dX5_init_170 rfl ?_
  refine a_iconst A dX5_init_171 ?_
  refine a_newZ (n := 107) (k := 22) (w := 415) (len := 3) A rfl rfl dX5_init_172 rfl (by decide) ⟨by decide, by decide⟩ ?_
  refine pf_X5_77 (r := 107) A T0.2.2.2 dX5_init_174 rfl (by decide) ?_
  refine a_aload_n (z := 84) A dX5_init_177 rfl ?_
  refine gf_X5_7 (r := 85) A dX5_init_178 rfl (by decide) rfl ?_
  refine a_iconst A dX5_init_181 ?_
  refine a_iconst A dX5_init_182 ?_
  refine a_iastore (i := 0) (j := 0) A dX5_init_183 rfl (by decide) (by decide) (by decide) rfl ?_
  exact a_return A T0 dX5_init_184 ⟨rfl, rfl, rfl⟩
