noncomputable def cif (P : Prop) (a b : MM) : MM := @ite MM P (Classical.propDecidable P) a b
theorem cif_t {P : Prop} {a b : MM} (h : P) : cif P a b = a := @if_pos P (Classical.propDecidable P) h MM a b
theorem cif_f {P : Prop} {a b : MM} (h : ¬ P) : cif P a b = b := @if_neg P (Classical.propDecidable P) h MM a b
/-- the row of N lanes at 105 is weighed -/
noncomputable def tk (M : MM) (N : Nat) : MM := cif (BT M N) (tkM M N) M
theorem tk_of {M M' : MM} {N : Nat} (h : (BT M N ∧ M' = tkM M N) ∨ (¬ BT M N ∧ M' = M)) : M' = tk M N := by
  unfold tk
  rcases h with ⟨h1, h2⟩ | ⟨h1, h2⟩
  · rw [cif_t h1, h2]
  · rw [cif_f h1, h2]
def pU (M : MM) (N : Nat) : Int := prodZ (fun k => M 90 (M 105 k).toNat) N
def pD (M : MM) (N : Nat) : Int := prodZ (fun k => M 91 (M 105 k).toNat) N
noncomputable def vs (g : Int) (M : MM) (N : Nat) : MM := if g = 0 then tk M N else if pD M N < pU M N then tk (up2 (up2 M 84 30 (M 84 30 + 1)) 84 31 (M 84 31 + 1)) N else up2 M 84 30 (M 84 30 + 1)
/-- the post where lane number n of the row must begin -/
def HR (M : MM) (n : Nat) (b : Int) : Int := if n = 0 then b else M 88 (M 105 (n - 1)).toNat
def ON (M : MM) (N : Nat) (v : Int) : Prop := ∃ k, k < N ∧ M 87 (M 105 k).toNat = v
set_option maxRecDepth 100000 in
set_option maxHeartbeats 4000000 in
theorem ga_body5 {G : GG} {E : EE} (A : AmM G E cX5_goAll 7 yX5_goAll.cls 3) (n : Nat) (b e g : Int) (M : MM) (hn : n ≤ 4) (hb : I32 b) (he : I32 e) (hg : g = 0 ∨ g = 1) (hL : 0 ≤ M 86 0 ∧ M 86 0 ≤ 10) (hP : 2 ≤ M 85 0 ∧ M 85 0 ≤ 5) (hW : ∀ i : Nat, (i : Int) < M 86 0 → LW M i) (hr : ∀ k, k < n → 0 ≤ M 105 k ∧ M 105 k < M 86 0) (hi : 0 ≤ M 105 n ∧ M 105 n ≤ M 86 0) (hbm : 0 ≤ M 84 27 ∧ M 84 27 ≤ 5) (hbe : ∀ k : Nat, (k : Int) < M 84 27 → I32 (M 106 k)) (hbu : 0 ≤ M 84 28 ∧ M 84 28 ≤ 59049) (hbd : 0 ≤ M 84 29 ∧ M 84 29 ≤ 59049) (hx : M 105 n = M 86 0 → ∀ w5 w6 : Value, AM G E 7 10 [.ref 84, vi b, vi e, vi g, vi ((n : Int) + (-1)), w5, w6] [] M) (hs : M 105 n < M 86 0 → (M 87 (M 105 n).toNat ≠ HR M n b ∨ (M 88 (M 105 n).toNat ≠ e ∧ (ON M (n + 1) (M 88 (M 105 n).toNat) ∨ (g ≠ 0 ∧ M 88 (M 105 n).toNat ≤ b) ∨ 4 ≤ n))) → ∀ w5 w6 : Value, AM G E 7 10 [.ref 84, vi b, vi e, vi g, vi (n : Int), w5, w6] [] M) (hv : M 105 n < M 86 0 → M 87 (M 105 n).toNat = HR M n b → M 88 (M 105 n).toNat = e → ∀ w5 w6 : Value, AM G E 7 10 [.ref 84, vi b, vi e, vi g, vi (n : Int), w5, w6] [] (vs g M (n + 1))) (hd : M 105 n < M 86 0 → M 87 (M 105 n).toNat = HR M n b → M 88 (M 105 n).toNat ≠ e → ¬ ON M (n + 1) (M 88 (M 105 n).toNat) → (g = 0 ∨ b < M 88 (M 105 n).toNat) → n < 4 → ∀ w5 w6 : Value, AM G E 7 10 [.ref 84, vi b, vi e, vi g, vi ((n : Int) + 1), w5, w6] [] (up2 M 105 (n + 1) (-1))) (w5 w6 : Value) : AM G E 7 26 [.ref 84, vi b, vi e, vi g, vi (n : Int), w5, w6] [] M := by
  have hl0 : M 105 n < M 86 0 → LW M (M 105 n).toNat := fun q => hW _ (by omega)
  have hl2 : M 105 n < M 86 0 → 0 ≤ M 87 (M 105 n).toNat ∧ M 87 (M 105 n).toNat < 5 ∧ 0 < M 88 (M 105 n).toNat ∧ M 88 (M 105 n).toNat < 5 := fun q => by have := hl0 q; unfold LW at this; omega
  have hlp : n ≠ 0 → 0 < M 88 (M 105 (n - 1)).toNat ∧ M 88 (M 105 (n - 1)).toNat < 5 := fun q => by
    have h1 := hr (n - 1) (by omega)
    have h2 := hW (M 105 (n - 1)).toNat (by omega)
    unfold LW at h2
    omega
  have hrp : n ≠ 0 → 0 ≤ M 105 (n - 1) ∧ M 105 (n - 1) < M 86 0 := fun q => hr (n - 1) (by omega)
  have hr1 : M 105 n < M 86 0 → ∀ k, k < n + 1 → 0 ≤ M 105 k ∧ M 105 k < 40 := fun q k hk => by
    rcases Nat.lt_or_ge k n with c | c
    · have := hr k c; omega
    · rw [show k = n by omega]; omega
  have hw1 : M 105 n < M 86 0 → ∀ k, k < n + 1 → LW M (M 105 k).toNat := fun q k hk => by
    rcases Nat.lt_or_ge k n with c | c
    · exact hW _ (by have := hr k c; omega)
    · rw [show k = n by omega]; exact hl0 q
  have hp9 : M 105 n < M 86 0 → ∀ k, k < n + 1 → 1 ≤ M 90 (M 105 k).toNat ∧ M 90 (M 105 k).toNat ≤ 9 := fun q k hk => by have := hw1 q k hk; unfold LW at this; omega
  have hq9 : M 105 n < M 86 0 → ∀ k, k < n + 1 → 1 ≤ M 91 (M 105 k).toNat ∧ M 91 (M 105 k).toNat ≤ 9 := fun q k hk => by have := hw1 q k hk; unfold LW at this; omega
  have hp9z : M 105 n < M 86 0 → ∀ k, k < n + 1 → I32 (M 90 (M 105 k).toNat) := fun q k hk => by have := hp9 q k hk; omega
  have hq9z : M 105 n < M 86 0 → ∀ k, k < n + 1 → I32 (M 91 (M 105 k).toNat) := fun q k hk => by have := hq9 q k hk; omega
  have hpub : M 105 n < M 86 0 → 1 ≤ pU M (n + 1) ∧ pU M (n + 1) ≤ 59049 := fun q => prodZ_bd (by omega) (hp9 q)
  have hpdb : M 105 n < M 86 0 → 1 ≤ pD M (n + 1) ∧ pD M (n + 1) ≤ 59049 := fun q => prodZ_bd (by omega) (hq9 q)
  have hf5 : M 105 n < M 86 0 → ∀ k, k < n + 1 → I32 (M 87 (M 105 k).toNat) := fun q k hk => by have := hw1 q k hk; unfold LW at this; omega
  refine a_aload_n (z := 84) A dX5_goAll_26 rfl ?_
  refine gf_X5_71 (r := 105) A dX5_goAll_27 rfl (by decide) rfl ?_
  refine a_iload (z := (n : Int)) A dX5_goAll_30 rfl ?_
  refine a_iaload (i := (n : Int)) (x := M 105 n) A dX5_goAll_32 rfl (by decide) (by decide) (by omega) rfl ?_
  refine a_aload_n (z := 84) A dX5_goAll_33 rfl ?_
  refine gf_X5_13 (r := 86) A dX5_goAll_34 rfl (by decide) rfl ?_
  refine a_iconst A dX5_goAll_37 ?_
  refine a_iaload (i := 0) (x := M 86 0) A dX5_goAll_38 rfl (by decide) (by decide) (by omega) rfl ?_
  refine a_icmp_lt (tgt := 48) A dX5_goAll_39 (by decide) (by omega) (by omega) (fun h39 => ?_) (fun h39 => ?_)
  · refine a_iload (z := (n : Int)) A dX5_goAll_48 rfl ?_
    refine a_if_ne (tgt := 57) A dX5_goAll_50 (by decide) (by omega) (fun h50 => ?_) (fun h50 => ?_)
    · refine a_aload_n (z := 84) A dX5_goAll_57 rfl ?_
      refine gf_X5_19 (r := 88) A dX5_goAll_58 rfl (by decide) rfl ?_
      refine a_aload_n (z := 84) A dX5_goAll_61 rfl ?_
      refine gf_X5_71 (r := 105) A dX5_goAll_62 rfl (by decide) rfl ?_
      refine a_iload (z := (n : Int)) A dX5_goAll_65 rfl ?_
      refine a_iconst A dX5_goAll_67 ?_
      refine a_isub (x := (n : Int)) (y := 1) A dX5_goAll_68 ?_
      refine a_iaload (i := ((n : Int) - 1)) (x := M 105 (n - 1)) A dX5_goAll_69 rfl (by decide) (by decide) (by omega) (by rw [show ((n : Int) - 1).toNat = n - 1 by omega]) ?_
      refine a_iaload (i := (M 105 (n - 1))) (x := M 88 ((M 105 (n - 1)).toNat)) A dX5_goAll_70 rfl (by decide) (by decide) (by omega) rfl ?_
      refine a_istore (lv' := [.ref 84, vi b, vi e, vi g, vi (n : Int), vi (M 88 ((M 105 (n - 1)).toNat)), w6]) A dX5_goAll_71 (by decide) rfl ?_
      refine a_aload_n (z := 84) A dX5_goAll_73 rfl ?_
      refine gf_X5_19 (r := 88) A dX5_goAll_74 rfl (by decide) rfl ?_
      refine a_aload_n (z := 84) A dX5_goAll_77 rfl ?_
      refine gf_X5_71 (r := 105) A dX5_goAll_78 rfl (by decide) rfl ?_
      refine a_iload (z := (n : Int)) A dX5_goAll_81 rfl ?_
      refine a_iaload (i := (n : Int)) (x := M 105 n) A dX5_goAll_83 rfl (by decide) (by decide) (by omega) rfl ?_
      refine a_iaload (i := (M 105 n)) (x := M 88 ((M 105 n).toNat)) A dX5_goAll_84 rfl (by decide) (by decide) (by omega) rfl ?_
      refine a_istore (lv' := [.ref 84, vi b, vi e, vi g, vi (n : Int), vi (M 88 ((M 105 (n - 1)).toNat)), vi (M 88 ((M 105 n).toNat))]) A dX5_goAll_85 (by decide) rfl ?_
      refine a_aload_n (z := 84) A dX5_goAll_87 rfl ?_
      refine gf_X5_16 (r := 87) A dX5_goAll_88 rfl (by decide) rfl ?_
      refine a_aload_n (z := 84) A dX5_goAll_91 rfl ?_
      refine gf_X5_71 (r := 105) A dX5_goAll_92 rfl (by decide) rfl ?_
      refine a_iload (z := (n : Int)) A dX5_goAll_95 rfl ?_
      refine a_iaload (i := (n : Int)) (x := M 105 n) A dX5_goAll_97 rfl (by decide) (by decide) (by omega) rfl ?_
      refine a_iaload (i := (M 105 n)) (x := M 87 ((M 105 n).toNat)) A dX5_goAll_98 rfl (by decide) (by decide) (by omega) rfl ?_
      refine a_iload (z := (M 88 ((M 105 (n - 1)).toNat))) A dX5_goAll_99 rfl ?_
      refine a_icmp_eq (tgt := 107) A dX5_goAll_101 (by decide) (by omega) (by omega) (fun h101 => ?_) (fun h101 => ?_)
      · refine a_iload (z := (M 88 ((M 105 n).toNat))) A dX5_goAll_107 rfl ?_
        refine a_iload_n (z := e) A dX5_goAll_109 rfl ?_
        refine a_icmp_ne (tgt := 179) A dX5_goAll_110 (by decide) (by omega) (by omega) (fun h110 => ?_) (fun h110 => ?_)
        · refine a_aload_n (z := 84) A dX5_goAll_179 rfl ?_
          refine a_iload (z := (n : Int)) A dX5_goAll_180 rfl ?_
          refine a_iconst A dX5_goAll_182 ?_
          refine a_iadd (x := (n : Int)) (y := 1) A dX5_goAll_183 ?_
          refine a_iload (z := (M 88 ((M 105 n).toNat))) A dX5_goAll_184 rfl ?_
          refine m_invVi A (c_X5_isOn G _ (n + 1) (M 88 ((M 105 n).toNat)) M (by omega) (by omega) (hr1 h39) (hf5 h39)) (by decide) mi_X5_isOn mv_X5_isOn cs_X5_169 cf5 dX5_goAll_186 rfl (by decide) rfl rfl (Nat.le_of_ble_eq_true rfl) (fun z186 M186 h186 => ?_)
          obtain ⟨e186, hc186⟩ := h186
          have e186 := e186.symm
          subst e186
          have hz186 : z186 = 0 ∨ z186 = 1 := by omega
          refine a_if_ne (tgt := 219) A dX5_goAll_189 (by decide) (by omega) (fun h189 => ?_) (fun h189 => ?_)
          · refine a_goto (tgt := 10) A dX5_goAll_219 (by decide) ?_
            refine hs h39 ?_ _ _
            first | (refine Or.inl ?_; unfold HR; first | (rw [if_pos (by omega)]; omega) | (rw [if_neg (by omega)]; omega)) | (refine Or.inr ⟨by omega, ?_⟩; first | (refine Or.inr ?_; omega) | (refine Or.inl ?_; rcases hc186 with c | c <;> first | exact c.2 | omega))
          · refine a_iload_n (z := g) A dX5_goAll_192 rfl ?_
            refine a_if_eq (tgt := 202) A dX5_goAll_193 (by decide) (by omega) (fun h193 => ?_) (fun h193 => ?_)
            · refine a_iload (z := (n : Int)) A dX5_goAll_202 rfl ?_
              refine a_iconst A dX5_goAll_204 ?_
              refine a_icmp_ge (tgt := 219) A dX5_goAll_205 (by decide) (by omega) (by omega) (fun h205 => ?_) (fun h205 => ?_)
              · refine a_goto (tgt := 10) A dX5_goAll_219 (by decide) ?_
                refine hs h39 ?_ _ _
                first | (refine Or.inl ?_; unfold HR; first | (rw [if_pos (by omega)]; omega) | (rw [if_neg (by omega)]; omega)) | (refine Or.inr ⟨by omega, ?_⟩; first | (refine Or.inr ?_; omega) | (refine Or.inl ?_; rcases hc186 with c | c <;> first | exact c.2 | omega))
              · refine a_iinc (z := (n : Int)) (lv' := [.ref 84, vi b, vi e, vi g, vi ((n : Int) + 1), vi (M 88 ((M 105 (n - 1)).toNat)), vi (M 88 ((M 105 n).toNat))]) A dX5_goAll_208 rfl (by decide) rfl ?_
                refine a_aload_n (z := 84) A dX5_goAll_211 rfl ?_
                refine gf_X5_71 (r := 105) A dX5_goAll_212 rfl (by decide) rfl ?_
                refine a_iload (z := ((n : Int) + 1)) A dX5_goAll_215 rfl ?_
                refine a_iconst A dX5_goAll_217 ?_
                refine a_iastore (i := ((n : Int) + 1)) (j := (n + 1)) A dX5_goAll_218 rfl (by decide) (by decide) (by omega) rfl ?_
                refine a_goto (tgt := 10) A dX5_goAll_219 (by decide) ?_
                exact hd h39 (by unfold HR; first | (rw [if_pos (by omega)]; omega) | (rw [if_neg (by omega)]; omega)) (by omega) (fun q => by rcases hc186 with c | c <;> first | omega | exact c.2 q) (by omega) (by omega) _ _
            · refine a_iload (z := (M 88 ((M 105 n).toNat))) A dX5_goAll_196 rfl ?_
              refine a_iload_n (z := b) A dX5_goAll_198 rfl ?_
              refine a_icmp_le (tgt := 219) A dX5_goAll_199 (by decide) (by omega) (by omega) (fun h199 => ?_) (fun h199 => ?_)
              · refine a_goto (tgt := 10) A dX5_goAll_219 (by decide) ?_
                refine hs h39 ?_ _ _
                first | (refine Or.inl ?_; unfold HR; first | (rw [if_pos (by omega)]; omega) | (rw [if_neg (by omega)]; omega)) | (refine Or.inr ⟨by omega, ?_⟩; first | (refine Or.inr ?_; omega) | (refine Or.inl ?_; rcases hc186 with c | c <;> first | exact c.2 | omega))
              · refine a_iload (z := (n : Int)) A dX5_goAll_202 rfl ?_
                refine a_iconst A dX5_goAll_204 ?_
                refine a_icmp_ge (tgt := 219) A dX5_goAll_205 (by decide) (by omega) (by omega) (fun h205 => ?_) (fun h205 => ?_)
                · refine a_goto (tgt := 10) A dX5_goAll_219 (by decide) ?_
                  refine hs h39 ?_ _ _
                  first | (refine Or.inl ?_; unfold HR; first | (rw [if_pos (by omega)]; omega) | (rw [if_neg (by omega)]; omega)) | (refine Or.inr ⟨by omega, ?_⟩; first | (refine Or.inr ?_; omega) | (refine Or.inl ?_; rcases hc186 with c | c <;> first | exact c.2 | omega))
                · refine a_iinc (z := (n : Int)) (lv' := [.ref 84, vi b, vi e, vi g, vi ((n : Int) + 1), vi (M 88 ((M 105 (n - 1)).toNat)), vi (M 88 ((M 105 n).toNat))]) A dX5_goAll_208 rfl (by decide) rfl ?_
                  refine a_aload_n (z := 84) A dX5_goAll_211 rfl ?_
                  refine gf_X5_71 (r := 105) A dX5_goAll_212 rfl (by decide) rfl ?_
                  refine a_iload (z := ((n : Int) + 1)) A dX5_goAll_215 rfl ?_
                  refine a_iconst A dX5_goAll_217 ?_
                  refine a_iastore (i := ((n : Int) + 1)) (j := (n + 1)) A dX5_goAll_218 rfl (by decide) (by decide) (by omega) rfl ?_
                  refine a_goto (tgt := 10) A dX5_goAll_219 (by decide) ?_
                  exact hd h39 (by unfold HR; first | (rw [if_pos (by omega)]; omega) | (rw [if_neg (by omega)]; omega)) (by omega) (fun q => by rcases hc186 with c | c <;> first | omega | exact c.2 q) (by omega) (by omega) _ _
        · refine a_iload_n (z := g) A dX5_goAll_113 rfl ?_
          refine a_if_ne (tgt := 128) A dX5_goAll_114 (by decide) (by omega) (fun h114 => ?_) (fun h114 => ?_)
          · refine a_aload_n (z := 84) A dX5_goAll_128 rfl ?_
            refine a_dup A dX5_goAll_129 rfl ?_
            refine gf_X5_163 (x := M 84 30) A dX5_goAll_130 rfl (by decide) rfl ?_
            refine a_iconst A dX5_goAll_133 ?_
            refine a_iadd (x := (M 84 30)) (y := 1) A dX5_goAll_134 ?_
            refine pf_X5_163 A dX5_goAll_135 rfl (by decide) ?_
            refine a_aload_n (z := 84) A dX5_goAll_138 rfl ?_
            refine a_iload (z := (n : Int)) A dX5_goAll_139 rfl ?_
            refine a_iconst A dX5_goAll_141 ?_
            refine a_iadd (x := (n : Int)) (y := 1) A dX5_goAll_142 ?_
            refine m_invVl A (c_X5_productUp G _ (n + 1) (up2 M 84 30 ((M 84 30) + 1)) (by omega) (hr1 h39) (hp9z h39)) (by decide) mi_X5_productUp mv_X5_productUp cs_X5_144 cf5 dX5_goAll_143 rfl (by decide) rfl rfl (Nat.le_of_ble_eq_true rfl) (fun z143 M143 h143 => ?_)
            obtain ⟨e143, hz143⟩ := h143
            have e143 := e143.symm
            subst e143
            have hz143 : z143 = pU M (n + 1) := hz143
            subst hz143
            refine a_aload_n (z := 84) A dX5_goAll_146 rfl ?_
            refine a_iload (z := (n : Int)) A dX5_goAll_147 rfl ?_
            refine a_iconst A dX5_goAll_149 ?_
            refine a_iadd (x := (n : Int)) (y := 1) A dX5_goAll_150 ?_
            refine m_invVl A (c_X5_productDown G _ (n + 1) (up2 M 84 30 ((M 84 30) + 1)) (by omega) (hr1 h39) (hq9z h39)) (by decide) mi_X5_productDown mv_X5_productDown cs_X5_148 cf5 dX5_goAll_151 rfl (by decide) rfl rfl (Nat.le_of_ble_eq_true rfl) (fun z151 M151 h151 => ?_)
            obtain ⟨e151, hz151⟩ := h151
            have e151 := e151.symm
            subst e151
            have hz151 : z151 = pD M (n + 1) := hz151
            subst hz151
            refine a_lcmp_le (tgt := 219) A dX5_goAll_154 dX5_goAll_155 (by decide) (by have := hpub h39; omega) (by have := hpdb h39; omega) (fun h154 => ?_) (fun h154 => ?_)
            · refine a_goto (tgt := 10) A dX5_goAll_219 (by decide) ?_
              have hvv := hv h39 (by unfold HR; first | (rw [if_pos (by omega)]; omega) | (rw [if_neg (by omega)]; omega)) (by omega) (vi (M 88 ((M 105 (n - 1)).toNat))) (vi (M 88 ((M 105 n).toNat)))
              unfold vs at hvv
              first | rw [if_pos (by omega)] at hvv | rw [if_neg (by omega), if_pos (by omega)] at hvv | rw [if_neg (by omega), if_neg (by omega)] at hvv
              exact hvv
            · refine a_aload_n (z := 84) A dX5_goAll_158 rfl ?_
              refine a_dup A dX5_goAll_159 rfl ?_
              refine gf_X5_166 (x := M 84 31) A dX5_goAll_160 rfl (by decide) rfl ?_
              refine a_iconst A dX5_goAll_163 ?_
              refine a_iadd (x := (M 84 31)) (y := 1) A dX5_goAll_164 ?_
              refine pf_X5_166 A dX5_goAll_165 rfl (by decide) ?_
              refine a_aload_n (z := 84) A dX5_goAll_168 rfl ?_
              refine a_iload (z := (n : Int)) A dX5_goAll_169 rfl ?_
              refine a_iconst A dX5_goAll_171 ?_
              refine a_iadd (x := (n : Int)) (y := 1) A dX5_goAll_172 ?_
              refine m_invVv A (c_X5_takes G _ (n + 1) (up2 (up2 M 84 30 ((M 84 30) + 1)) 84 31 ((M 84 31) + 1)) ⟨by omega, by omega⟩ (hr1 h39) (hp9 h39) (hq9 h39) hbm hbe hbu hbd) (by decide) mi_X5_takes mv_X5_takes cs_X5_160 cf5 dX5_goAll_173 rfl (by decide) rfl rfl (Nat.le_of_ble_eq_true rfl) (fun M173 h173 => ?_)
              have ht173 := tk_of h173
              subst ht173
              refine a_goto (tgt := 219) A dX5_goAll_176 (by decide) ?_
              refine a_goto (tgt := 10) A dX5_goAll_219 (by decide) ?_
              have hvv := hv h39 (by unfold HR; first | (rw [if_pos (by omega)]; omega) | (rw [if_neg (by omega)]; omega)) (by omega) (vi (M 88 ((M 105 (n - 1)).toNat))) (vi (M 88 ((M 105 n).toNat)))
              unfold vs at hvv
              first | rw [if_pos (by omega)] at hvv | rw [if_neg (by omega), if_pos (by omega)] at hvv | rw [if_neg (by omega), if_neg (by omega)] at hvv
              exact hvv
          · refine a_aload_n (z := 84) A dX5_goAll_117 rfl ?_
            refine a_iload (z := (n : Int)) A dX5_goAll_118 rfl ?_
            refine a_iconst A dX5_goAll_120 ?_
            refine a_iadd (x := (n : Int)) (y := 1) A dX5_goAll_121 ?_
            refine m_invVv A (c_X5_takes G _ (n + 1) M ⟨by omega, by omega⟩ (hr1 h39) (hp9 h39) (hq9 h39) hbm hbe hbu hbd) (by decide) mi_X5_takes mv_X5_takes cs_X5_160 cf5 dX5_goAll_122 rfl (by decide) rfl rfl (Nat.le_of_ble_eq_true rfl) (fun M122 h122 => ?_)
            have ht122 := tk_of h122
            subst ht122
            refine a_goto (tgt := 219) A dX5_goAll_125 (by decide) ?_
            refine a_goto (tgt := 10) A dX5_goAll_219 (by decide) ?_
            have hvv := hv h39 (by unfold HR; first | (rw [if_pos (by omega)]; omega) | (rw [if_neg (by omega)]; omega)) (by omega) (vi (M 88 ((M 105 (n - 1)).toNat))) (vi (M 88 ((M 105 n).toNat)))
            unfold vs at hvv
            first | rw [if_pos (by omega)] at hvv | rw [if_neg (by omega), if_pos (by omega)] at hvv | rw [if_neg (by omega), if_neg (by omega)] at hvv
            exact hvv
      · refine a_goto (tgt := 10) A dX5_goAll_104 (by decide) ?_
        refine hs h39 ?_ _ _
        first | (refine Or.inl ?_; unfold HR; first | (rw [if_pos (by omega)]; omega) | (rw [if_neg (by omega)]; omega)) | (refine Or.inr ⟨by omega, ?_⟩; first | (refine Or.inr ?_; omega) | (refine Or.inl ?_; rcases hc186 with c | c <;> first | exact c.2 | omega))
    · refine a_iload_n (z := b) A dX5_goAll_53 rfl ?_
      refine a_goto (tgt := 71) A dX5_goAll_54 (by decide) ?_
      refine a_istore (lv' := [.ref 84, vi b, vi e, vi g, vi (n : Int), vi b, w6]) A dX5_goAll_71 (by decide) rfl ?_
      refine a_aload_n (z := 84) A dX5_goAll_73 rfl ?_
      refine gf_X5_19 (r := 88) A dX5_goAll_74 rfl (by decide) rfl ?_
      refine a_aload_n (z := 84) A dX5_goAll_77 rfl ?_
      refine gf_X5_71 (r := 105) A dX5_goAll_78 rfl (by decide) rfl ?_
      refine a_iload (z := (n : Int)) A dX5_goAll_81 rfl ?_
      refine a_iaload (i := (n : Int)) (x := M 105 n) A dX5_goAll_83 rfl (by decide) (by decide) (by omega) rfl ?_
      refine a_iaload (i := (M 105 n)) (x := M 88 ((M 105 n).toNat)) A dX5_goAll_84 rfl (by decide) (by decide) (by omega) rfl ?_
      refine a_istore (lv' := [.ref 84, vi b, vi e, vi g, vi (n : Int), vi b, vi (M 88 ((M 105 n).toNat))]) A dX5_goAll_85 (by decide) rfl ?_
      refine a_aload_n (z := 84) A dX5_goAll_87 rfl ?_
      refine gf_X5_16 (r := 87) A dX5_goAll_88 rfl (by decide) rfl ?_
      refine a_aload_n (z := 84) A dX5_goAll_91 rfl ?_
      refine gf_X5_71 (r := 105) A dX5_goAll_92 rfl (by decide) rfl ?_
      refine a_iload (z := (n : Int)) A dX5_goAll_95 rfl ?_
      refine a_iaload (i := (n : Int)) (x := M 105 n) A dX5_goAll_97 rfl (by decide) (by decide) (by omega) rfl ?_
      refine a_iaload (i := (M 105 n)) (x := M 87 ((M 105 n).toNat)) A dX5_goAll_98 rfl (by decide) (by decide) (by omega) rfl ?_
      refine a_iload (z := b) A dX5_goAll_99 rfl ?_
      refine a_icmp_eq (tgt := 107) A dX5_goAll_101 (by decide) (by omega) (by omega) (fun h101 => ?_) (fun h101 => ?_)
      · refine a_iload (z := (M 88 ((M 105 n).toNat))) A dX5_goAll_107 rfl ?_
        refine a_iload_n (z := e) A dX5_goAll_109 rfl ?_
        refine a_icmp_ne (tgt := 179) A dX5_goAll_110 (by decide) (by omega) (by omega) (fun h110 => ?_) (fun h110 => ?_)
        · refine a_aload_n (z := 84) A dX5_goAll_179 rfl ?_
          refine a_iload (z := (n : Int)) A dX5_goAll_180 rfl ?_
          refine a_iconst A dX5_goAll_182 ?_
          refine a_iadd (x := (n : Int)) (y := 1) A dX5_goAll_183 ?_
          refine a_iload (z := (M 88 ((M 105 n).toNat))) A dX5_goAll_184 rfl ?_
          refine m_invVi A (c_X5_isOn G _ (n + 1) (M 88 ((M 105 n).toNat)) M (by omega) (by omega) (hr1 h39) (hf5 h39)) (by decide) mi_X5_isOn mv_X5_isOn cs_X5_169 cf5 dX5_goAll_186 rfl (by decide) rfl rfl (Nat.le_of_ble_eq_true rfl) (fun z186 M186 h186 => ?_)
          obtain ⟨e186, hc186⟩ := h186
          have e186 := e186.symm
          subst e186
          have hz186 : z186 = 0 ∨ z186 = 1 := by omega
          refine a_if_ne (tgt := 219) A dX5_goAll_189 (by decide) (by omega) (fun h189 => ?_) (fun h189 => ?_)
          · refine a_goto (tgt := 10) A dX5_goAll_219 (by decide) ?_
            refine hs h39 ?_ _ _
            first | (refine Or.inl ?_; unfold HR; first | (rw [if_pos (by omega)]; omega) | (rw [if_neg (by omega)]; omega)) | (refine Or.inr ⟨by omega, ?_⟩; first | (refine Or.inr ?_; omega) | (refine Or.inl ?_; rcases hc186 with c | c <;> first | exact c.2 | omega))
          · refine a_iload_n (z := g) A dX5_goAll_192 rfl ?_
            refine a_if_eq (tgt := 202) A dX5_goAll_193 (by decide) (by omega) (fun h193 => ?_) (fun h193 => ?_)
            · refine a_iload (z := (n : Int)) A dX5_goAll_202 rfl ?_
              refine a_iconst A dX5_goAll_204 ?_
              refine a_icmp_ge (tgt := 219) A dX5_goAll_205 (by decide) (by omega) (by omega) (fun h205 => ?_) (fun h205 => ?_)
              · refine a_goto (tgt := 10) A dX5_goAll_219 (by decide) ?_
                refine hs h39 ?_ _ _
                first | (refine Or.inl ?_; unfold HR; first | (rw [if_pos (by omega)]; omega) | (rw [if_neg (by omega)]; omega)) | (refine Or.inr ⟨by omega, ?_⟩; first | (refine Or.inr ?_; omega) | (refine Or.inl ?_; rcases hc186 with c | c <;> first | exact c.2 | omega))
              · refine a_iinc (z := (n : Int)) (lv' := [.ref 84, vi b, vi e, vi g, vi ((n : Int) + 1), vi b, vi (M 88 ((M 105 n).toNat))]) A dX5_goAll_208 rfl (by decide) rfl ?_
                refine a_aload_n (z := 84) A dX5_goAll_211 rfl ?_
                refine gf_X5_71 (r := 105) A dX5_goAll_212 rfl (by decide) rfl ?_
                refine a_iload (z := ((n : Int) + 1)) A dX5_goAll_215 rfl ?_
                refine a_iconst A dX5_goAll_217 ?_
                refine a_iastore (i := ((n : Int) + 1)) (j := (n + 1)) A dX5_goAll_218 rfl (by decide) (by decide) (by omega) rfl ?_
                refine a_goto (tgt := 10) A dX5_goAll_219 (by decide) ?_
                exact hd h39 (by unfold HR; first | (rw [if_pos (by omega)]; omega) | (rw [if_neg (by omega)]; omega)) (by omega) (fun q => by rcases hc186 with c | c <;> first | omega | exact c.2 q) (by omega) (by omega) _ _
            · refine a_iload (z := (M 88 ((M 105 n).toNat))) A dX5_goAll_196 rfl ?_
              refine a_iload_n (z := b) A dX5_goAll_198 rfl ?_
              refine a_icmp_le (tgt := 219) A dX5_goAll_199 (by decide) (by omega) (by omega) (fun h199 => ?_) (fun h199 => ?_)
              · refine a_goto (tgt := 10) A dX5_goAll_219 (by decide) ?_
                refine hs h39 ?_ _ _
                first | (refine Or.inl ?_; unfold HR; first | (rw [if_pos (by omega)]; omega) | (rw [if_neg (by omega)]; omega)) | (refine Or.inr ⟨by omega, ?_⟩; first | (refine Or.inr ?_; omega) | (refine Or.inl ?_; rcases hc186 with c | c <;> first | exact c.2 | omega))
              · refine a_iload (z := (n : Int)) A dX5_goAll_202 rfl ?_
                refine a_iconst A dX5_goAll_204 ?_
                refine a_icmp_ge (tgt := 219) A dX5_goAll_205 (by decide) (by omega) (by omega) (fun h205 => ?_) (fun h205 => ?_)
                · refine a_goto (tgt := 10) A dX5_goAll_219 (by decide) ?_
                  refine hs h39 ?_ _ _
                  first | (refine Or.inl ?_; unfold HR; first | (rw [if_pos (by omega)]; omega) | (rw [if_neg (by omega)]; omega)) | (refine Or.inr ⟨by omega, ?_⟩; first | (refine Or.inr ?_; omega) | (refine Or.inl ?_; rcases hc186 with c | c <;> first | exact c.2 | omega))
                · refine a_iinc (z := (n : Int)) (lv' := [.ref 84, vi b, vi e, vi g, vi ((n : Int) + 1), vi b, vi (M 88 ((M 105 n).toNat))]) A dX5_goAll_208 rfl (by decide) rfl ?_
                  refine a_aload_n (z := 84) A dX5_goAll_211 rfl ?_
                  refine gf_X5_71 (r := 105) A dX5_goAll_212 rfl (by decide) rfl ?_
                  refine a_iload (z := ((n : Int) + 1)) A dX5_goAll_215 rfl ?_
                  refine a_iconst A dX5_goAll_217 ?_
                  refine a_iastore (i := ((n : Int) + 1)) (j := (n + 1)) A dX5_goAll_218 rfl (by decide) (by decide) (by omega) rfl ?_
                  refine a_goto (tgt := 10) A dX5_goAll_219 (by decide) ?_
                  exact hd h39 (by unfold HR; first | (rw [if_pos (by omega)]; omega) | (rw [if_neg (by omega)]; omega)) (by omega) (fun q => by rcases hc186 with c | c <;> first | omega | exact c.2 q) (by omega) (by omega) _ _
        · refine a_iload_n (z := g) A dX5_goAll_113 rfl ?_
          refine a_if_ne (tgt := 128) A dX5_goAll_114 (by decide) (by omega) (fun h114 => ?_) (fun h114 => ?_)
          · refine a_aload_n (z := 84) A dX5_goAll_128 rfl ?_
            refine a_dup A dX5_goAll_129 rfl ?_
            refine gf_X5_163 (x := M 84 30) A dX5_goAll_130 rfl (by decide) rfl ?_
            refine a_iconst A dX5_goAll_133 ?_
            refine a_iadd (x := (M 84 30)) (y := 1) A dX5_goAll_134 ?_
            refine pf_X5_163 A dX5_goAll_135 rfl (by decide) ?_
            refine a_aload_n (z := 84) A dX5_goAll_138 rfl ?_
            refine a_iload (z := (n : Int)) A dX5_goAll_139 rfl ?_
            refine a_iconst A dX5_goAll_141 ?_
            refine a_iadd (x := (n : Int)) (y := 1) A dX5_goAll_142 ?_
            refine m_invVl A (c_X5_productUp G _ (n + 1) (up2 M 84 30 ((M 84 30) + 1)) (by omega) (hr1 h39) (hp9z h39)) (by decide) mi_X5_productUp mv_X5_productUp cs_X5_144 cf5 dX5_goAll_143 rfl (by decide) rfl rfl (Nat.le_of_ble_eq_true rfl) (fun z143 M143 h143 => ?_)
            obtain ⟨e143, hz143⟩ := h143
            have e143 := e143.symm
            subst e143
            have hz143 : z143 = pU M (n + 1) := hz143
            subst hz143
            refine a_aload_n (z := 84) A dX5_goAll_146 rfl ?_
            refine a_iload (z := (n : Int)) A dX5_goAll_147 rfl ?_
            refine a_iconst A dX5_goAll_149 ?_
            refine a_iadd (x := (n : Int)) (y := 1) A dX5_goAll_150 ?_
            refine m_invVl A (c_X5_productDown G _ (n + 1) (up2 M 84 30 ((M 84 30) + 1)) (by omega) (hr1 h39) (hq9z h39)) (by decide) mi_X5_productDown mv_X5_productDown cs_X5_148 cf5 dX5_goAll_151 rfl (by decide) rfl rfl (Nat.le_of_ble_eq_true rfl) (fun z151 M151 h151 => ?_)
            obtain ⟨e151, hz151⟩ := h151
            have e151 := e151.symm
            subst e151
            have hz151 : z151 = pD M (n + 1) := hz151
            subst hz151
            refine a_lcmp_le (tgt := 219) A dX5_goAll_154 dX5_goAll_155 (by decide) (by have := hpub h39; omega) (by have := hpdb h39; omega) (fun h154 => ?_) (fun h154 => ?_)
            · refine a_goto (tgt := 10) A dX5_goAll_219 (by decide) ?_
              have hvv := hv h39 (by unfold HR; first | (rw [if_pos (by omega)]; omega) | (rw [if_neg (by omega)]; omega)) (by omega) (vi b) (vi (M 88 ((M 105 n).toNat)))
              unfold vs at hvv
              first | rw [if_pos (by omega)] at hvv | rw [if_neg (by omega), if_pos (by omega)] at hvv | rw [if_neg (by omega), if_neg (by omega)] at hvv
              exact hvv
            · refine a_aload_n (z := 84) A dX5_goAll_158 rfl ?_
              refine a_dup A dX5_goAll_159 rfl ?_
              refine gf_X5_166 (x := M 84 31) A dX5_goAll_160 rfl (by decide) rfl ?_
              refine a_iconst A dX5_goAll_163 ?_
              refine a_iadd (x := (M 84 31)) (y := 1) A dX5_goAll_164 ?_
              refine pf_X5_166 A dX5_goAll_165 rfl (by decide) ?_
              refine a_aload_n (z := 84) A dX5_goAll_168 rfl ?_
              refine a_iload (z := (n : Int)) A dX5_goAll_169 rfl ?_
              refine a_iconst A dX5_goAll_171 ?_
              refine a_iadd (x := (n : Int)) (y := 1) A dX5_goAll_172 ?_
              refine m_invVv A (c_X5_takes G _ (n + 1) (up2 (up2 M 84 30 ((M 84 30) + 1)) 84 31 ((M 84 31) + 1)) ⟨by omega, by omega⟩ (hr1 h39) (hp9 h39) (hq9 h39) hbm hbe hbu hbd) (by decide) mi_X5_takes mv_X5_takes cs_X5_160 cf5 dX5_goAll_173 rfl (by decide) rfl rfl (Nat.le_of_ble_eq_true rfl) (fun M173 h173 => ?_)
              have ht173 := tk_of h173
              subst ht173
              refine a_goto (tgt := 219) A dX5_goAll_176 (by decide) ?_
              refine a_goto (tgt := 10) A dX5_goAll_219 (by decide) ?_
              have hvv := hv h39 (by unfold HR; first | (rw [if_pos (by omega)]; omega) | (rw [if_neg (by omega)]; omega)) (by omega) (vi b) (vi (M 88 ((M 105 n).toNat)))
              unfold vs at hvv
              first | rw [if_pos (by omega)] at hvv | rw [if_neg (by omega), if_pos (by omega)] at hvv | rw [if_neg (by omega), if_neg (by omega)] at hvv
              exact hvv
          · refine a_aload_n (z := 84) A dX5_goAll_117 rfl ?_
            refine a_iload (z := (n : Int)) A dX5_goAll_118 rfl ?_
            refine a_iconst A dX5_goAll_120 ?_
            refine a_iadd (x := (n : Int)) (y := 1) A dX5_goAll_121 ?_
            refine m_invVv A (c_X5_takes G _ (n + 1) M ⟨by omega, by omega⟩ (hr1 h39) (hp9 h39) (hq9 h39) hbm hbe hbu hbd) (by decide) mi_X5_takes mv_X5_takes cs_X5_160 cf5 dX5_goAll_122 rfl (by decide) rfl rfl (Nat.le_of_ble_eq_true rfl) (fun M122 h122 => ?_)
            have ht122 := tk_of h122
            subst ht122
            refine a_goto (tgt := 219) A dX5_goAll_125 (by decide) ?_
            refine a_goto (tgt := 10) A dX5_goAll_219 (by decide) ?_
            have hvv := hv h39 (by unfold HR; first | (rw [if_pos (by omega)]; omega) | (rw [if_neg (by omega)]; omega)) (by omega) (vi b) (vi (M 88 ((M 105 n).toNat)))
            unfold vs at hvv
            first | rw [if_pos (by omega)] at hvv | rw [if_neg (by omega), if_pos (by omega)] at hvv | rw [if_neg (by omega), if_neg (by omega)] at hvv
            exact hvv
      · refine a_goto (tgt := 10) A dX5_goAll_104 (by decide) ?_
        refine hs h39 ?_ _ _
        first | (refine Or.inl ?_; unfold HR; first | (rw [if_pos (by omega)]; omega) | (rw [if_neg (by omega)]; omega)) | (refine Or.inr ⟨by omega, ?_⟩; first | (refine Or.inr ?_; omega) | (refine Or.inl ?_; rcases hc186 with c | c <;> first | exact c.2 | omega))
  · refine a_iinc (z := (n : Int)) (lv' := [.ref 84, vi b, vi e, vi g, vi ((n : Int) + (-1)), w5, w6]) A dX5_goAll_42 rfl (by decide) rfl ?_
    refine a_goto (tgt := 10) A dX5_goAll_45 (by decide) ?_
    exact hx (by omega) _ _
