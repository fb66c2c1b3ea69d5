/-! the reference's least, over its loop -/
def zJm (D M : MM) : Prop := ∃ x, zVx x ∧ M 84 23 = nU (zSn D x) (2520 * x 4) ∧ M 84 24 = nD (zSn D x) (2520 * x 4)
def zBd (D M : MM) (y : Nat → Int) : Prop := M 84 23 * (2520 * y 4) ≤ zSn D y * M 84 24
def zJl (D B : MM) (la : Nat) (M : MM) (s : Int) : Prop := (s = 1 → zJm D M) ∧ ∀ (c : Nat → Int) (y : Nat → Int) (ρ : Nat → Nat), (∀ u, 1 ≤ u → u < la → zVd B c u) → zVx y → zFt B la c y ρ → Nm c (la - 1) 1 < Nm (M 102) (la - 1) 1 → zBd D M y
def zRe (D B : MM) (la : Nat) (M : MM) : Prop := zJm D M ∧ ∀ (c : Nat → Int) (y : Nat → Int) (ρ : Nat → Nat), (∀ u, 1 ≤ u → u < la → zVd B c u) → zVx y → zFt B la c y ρ → zBd D M y
theorem Nm_zero {c : Nat → Int} : ∀ (k v : Nat), (∀ u, v ≤ u → u < v + k → c u = -1) → Nm c k v = 0 := by
  intro k
  induction k with
  | zero => intro v _; rfl
  | succ k ih =>
    intro v h
    have h1 := ih (v + 1) (fun u a b => h u (by omega) (by omega))
    show (c v + 1).toNat + 11 * Nm c k (v + 1) = 0
    rw [h1, h v (Nat.le_refl _) (by omega)]
    rfl
theorem zq_val {u d Q S F y4 : Int} (hQ : 0 < Q) (e1 : u * (2520 * Q) = S * d) (e2 : y4 * S = Q * F) : u * (2520 * y4) = F * d := by
  have e : (u * (2520 * y4)) * Q = (F * d) * Q := by
    calc (u * (2520 * y4)) * Q = (u * (2520 * Q)) * y4 := by grind
      _ = (y4 * S) * d := by rw [e1]; grind
      _ = (F * d) * Q := by rw [e2]; grind
  exact Int.eq_of_mul_eq_mul_right (by omega) e
theorem zRD.to {D B X : MM} (h : zRD D B) (hc : ∀ c, (85 ≤ c ∧ c ≤ 88) ∨ (99 ≤ c ∧ c ≤ 101) → X c = B c) : zRD D X := by
  unfold zRD at h ⊢
  rw [hc 85 (by decide), hc 86 (by decide), hc 87 (by decide), hc 88 (by decide), hc 99 (by decide), hc 100 (by decide), hc 101 (by decide)]
  exact h
theorem zFt.to {B X : MM} {la : Nat} {c c' : Nat → Int} {y : Nat → Int} {ρ : Nat → Nat} (h : zFt B la c y ρ) (hc : ∀ q, (86 ≤ q ∧ q ≤ 88) ∨ (99 ≤ q ∧ q ≤ 101) → X q = B q) (he : ∀ u, 1 ≤ u → u < la → c' u = c u) : zFt X la c' y ρ := by
  intro v v1 v2
  have q := h v v1 v2
  unfold otr at q ⊢
  rw [he v v1 v2, hc 86 (by decide), hc 87 (by decide), hc 88 (by decide), hc 99 (by decide), hc 100 (by decide)]
  exact q
theorem zVd.to {B X : MM} {c : Nat → Int} {u : Nat} (h : zVd B c u) (hc : ∀ q, 86 ≤ q ∧ q ≤ 88 → X q = B q) : zVd X c u := by
  unfold zVd at h ⊢
  rw [hc 86 (by decide), hc 87 (by decide), hc 88 (by decide)]
  exact h
theorem zq_weigh {D B M M' : MM} {la : Nat} {s s' : Int} (hr : zRD D B) (hla : (la : Int) = B 85 0 - 1) (hj : JT B M s) (hJ : zJl D B la M s) (hst : STA M s M' s') : zJm D M' ∧ ∀ (c : Nat → Int) (y : Nat → Int) (ρ : Nat → Nat), (∀ u, 1 ≤ u → u < la → zVd B c u) → zVx y → zFt B la c y ρ → Nm c (la - 1) 1 ≤ Nm (M 102) (la - 1) 1 → zBd D M' y := by
  obtain ⟨hw, hc, hf, h0, hs, hn⟩ := hj
  have e85 : M 85 = B 85 := hf.1 85 (by decide) (by decide) (by decide) (by decide)
  have e86 : M 86 = B 86 := hf.1 86 (by decide) (by decide) (by decide) (by decide)
  have hcell : ∀ q, (85 ≤ q ∧ q ≤ 88) ∨ (99 ≤ q ∧ q ≤ 101) → M q = B q := fun q hq => hf.1 q (by omega) (by omega) (by omega) (by omega)
  have hlaM : (la : Int) = M 85 0 - 1 := by rw [e85]; exact hla
  have hLM : (M 85 0 - 1).toNat = la := by omega
  have hs1 : SHK M := hc.2
  have hP := hw.1
  have h10 := hw.2.1
  have hdig : ∀ u, 1 ≤ u → u < la → -1 ≤ M 102 u ∧ M 102 u < M 86 0 := fun u a b => by have := hc.1 u a (by omega); omega
  have fit : ∀ (c : Nat → Int) (y : Nat → Int) (ρ : Nat → Nat), (∀ u, 1 ≤ u → u < la → zVd B c u) → zVx y → zFt B la c y ρ → Nm c (la - 1) 1 = Nm (M 102) (la - 1) 1 → ∃ X, fpOk M X ∧ zCn la y X := by
    intro c y ρ hv hy hft he
    have hu : ∀ u, 1 ≤ u → u < la → M 102 u = c u := fun u a b => (Nm_inj (la - 1) 1 c (M 102) (fun w w1 w2 => by have := hv w w1 (by omega); unfold zVd at this; rw [← e86] at this; omega) (fun w w1 w2 => by have := hdig w w1 (by omega); omega) he u a (by omega)).symm
    exact zq_fpok hw hs1 hlaM hy (hft.to (fun q hq => hcell q (by omega)) hu)
  rcases hst with ⟨n1, n2, n3⟩ | ⟨X, Q, u, d, hok, hI, hq, hu, hd, hcase⟩
  · have hs1' : s = 1 := by
      rcases h0 with c | c
      · exact absurd ⟨_, fpOk_none hw (hn c)⟩ n1
      · exact c
    have f23 : M' 84 23 = M 84 23 := n2.2 23 (by decide) (by decide)
    have f24 : M' 84 24 = M 84 24 := n2.2 24 (by decide) (by decide)
    unfold zJm zBd
    rw [f23, f24]
    refine ⟨hJ.1 hs1', fun c y ρ hv hy hft he => ?_⟩
    by_cases c1 : Nm c (la - 1) 1 < Nm (M 102) (la - 1) 1
    · exact hJ.2 c y ρ hv hy hft c1
    · obtain ⟨X, hX, -⟩ := fit c y ρ hv hy hft (by omega)
      exact absurd ⟨X, hX⟩ n1
  · have hFR : FR M X := hI.1.1
    have hwX := hFR.wm hw
    have hcX := hFR.chk hc
    have hrX : zRD D X := hr.to (fun q hq => by rw [hFR q (by omega) (by omega) (by omega)]; exact hcell q hq)
    have e85X : X 85 0 = M 85 0 := hFR.at (by decide) (by decide) (by decide) 0
    have hlaX : (la : Int) = X 85 0 - 1 := by omega
    have hE : FPE la X := by rw [← hLM]; exact fpOk_ends hw hok
    obtain ⟨x, hx, x4, xs⟩ := zq_x5 hrX hwX hcX.2 hlaX hq hE
    have hQ := hq.1
    have hD : 0 < 2520 * Q := by omega
    have hdp := nD_bd (a := sumZ (wT X Q) (X 86 0).toNat) hD
    rw [← hd] at hdp
    have hm := nUD_mul (a := sumZ (wT X Q) (X 86 0).toNat) hD
    rw [← hu, ← hd] at hm
    have new : ∀ (c : Nat → Int) (y : Nat → Int) (ρ : Nat → Nat), (∀ u, 1 ≤ u → u < la → zVd B c u) → zVx y → zFt B la c y ρ → Nm c (la - 1) 1 = Nm (M 102) (la - 1) 1 → u * (2520 * y 4) = zSn D y * d := by
      intro c y ρ hv hy hft he
      obtain ⟨X2, hX2, hC⟩ := fit c y ρ hv hy hft he
      have eX : X2 = X := Option.some.inj (hX2.1.symm.trans hok.1)
      rw [eX] at hC
      exact zq_val (by omega) hm (zq_y4 hrX hwX hcX.2 hlaX hq hy hC)
    rcases hcase with ⟨q1, rfl, q3⟩ | ⟨q1, q2, rfl, q3⟩
    · have f23 : up2 (up2 (w2 X u d) 84 23 u) 84 24 d 84 23 = u := by rw [up2_in, if_neg (by decide), up2_self]
      have f24 : up2 (up2 (w2 X u d) 84 23 u) 84 24 d 84 24 = d := by rw [up2_self]
      unfold zJm zBd
      rw [f23, f24]
      refine ⟨⟨x, hx, by rw [xs, x4]; exact hu, by rw [xs, x4]; exact hd⟩, fun c y ρ hv hy hft he => ?_⟩
      by_cases c1 : Nm c (la - 1) 1 < Nm (M 102) (la - 1) 1
      · have hold := hJ.2 c y ρ hv hy hft c1
        unfold zBd at hold
        have hs1' : s = 1 := by
          rcases h0 with c | c
          · exfalso
            rw [Nm_zero (c := M 102) (la - 1) 1 (fun u a b => hn c u a (by omega))] at c1
            omega
          · exact c
        have mb := hs hs1'
        unfold MB at mb
        exact zq_ftr (x1 := u) (y1 := d) (x2 := M 84 23) (y2 := M 84 24) (by omega) (by omega) (by have := hy.2.1; omega) (Int.le_of_lt (q1.resolve_left (by omega))) hold
      · rw [new c y ρ hv hy hft (by omega)]
        exact Int.le_refl _
    · have hs1' : s = 1 := by omega
      have f23 : w2 X u d 84 23 = M 84 23 := hI.1.2 23 (by decide) (by decide)
      have f24 : w2 X u d 84 24 = M 84 24 := hI.1.2 24 (by decide) (by decide)
      have mb := hs hs1'
      unfold MB at mb
      unfold zJm zBd
      rw [f23, f24]
      refine ⟨hJ.1 hs1', fun c y ρ hv hy hft he => ?_⟩
      by_cases c1 : Nm c (la - 1) 1 < Nm (M 102) (la - 1) 1
      · exact hJ.2 c y ρ hv hy hft c1
      · have hnew := new c y ρ hv hy hft (by omega)
        exact zq_ftr (x1 := M 84 23) (y1 := M 84 24) (x2 := u) (y2 := d) (by omega) (by omega) (by have := hy.2.1; omega) (by omega) (by rw [hnew]; exact Int.le_refl _)
theorem zq_jstep {D B M M' : MM} {la : Nat} {s s' : Int} (hr : zRD D B) (hla : (la : Int) = B 85 0 - 1) (hj : JT B M s) (hJ : zJl D B la M s) (hst : STA M s M' s') {z : Int} {M2 : MM} (hz : (z, M2) = ncR ((M' 85 0).toNat - 2) 1 M') : (z = 0 → zRe D B la M2) ∧ (z = 1 → zJl D B la M2 s') := by
  obtain ⟨k1, k2⟩ := zq_weigh hr hla hj hJ hst
  obtain ⟨hw, hc, hf, h0, hs, hn⟩ := hj
  have hfr := hst.fr
  have hw' := hfr.wm hw
  have hc' := hfr.chk hc
  have h10 := hw'.2.1
  have hP := hw'.1
  have e85 : M 85 0 = B 85 0 := by rw [hf.1 85 (by decide) (by decide) (by decide) (by decide)]
  have e85' : M' 85 0 = M 85 0 := hfr.at (by decide) (by decide) (by decide) 0
  have e102 : M' 102 = M 102 := hfr 102 (by decide) (by decide) (by decide)
  have ek : (M' 85 0).toNat - 2 = la - 1 := by omega
  rw [ek] at hz
  have z1 : z = (ncR (la - 1) 1 M').1 := congrArg Prod.fst hz
  have z2 : M2 = (ncR (la - 1) 1 M').2 := congrArg Prod.snd hz
  have e84 : M2 84 = M' 84 := by rw [z2]; exact ncR_ne _ _ _ _ (by decide)
  have hjm : zJm D M2 := by unfold zJm at k1 ⊢; rw [e84]; exact k1
  have hbd : ∀ y, zBd D M' y → zBd D M2 y := fun y h => by unfold zBd at h ⊢; rw [e84]; exact h
  have hcell : ∀ q, 86 ≤ q ∧ q ≤ 88 → M' q = B q := fun q hq => by rw [hfr q (by omega) (by omega) (by omega)]; exact hf.1 q (by omega) (by omega) (by omega) (by omega)
  have nx : ∀ c : Nat → Int, (∀ u, 1 ≤ u → u < la → zVd B c u) → Nm (M 102) (la - 1) 1 < Nm c (la - 1) 1 → z = 1 ∧ Nm (M2 102) (la - 1) 1 ≤ Nm c (la - 1) 1 := fun c hv hlt => by
    have r := zq_next (la - 1) 1 M' c h10 (fun u a b => by have := hc'.1 u a (by omega); omega) (fun u a b => (hv u a (by omega)).to hcell) (by rw [e102]; exact hlt)
    rw [z1, z2]
    exact r
  refine ⟨fun q => ⟨hjm, fun c y ρ hv hy hft => hbd y (k2 c y ρ hv hy hft ?_)⟩, fun q => ⟨fun _ => hjm, fun c y ρ hv hy hft hlt => hbd y (k2 c y ρ hv hy hft ?_)⟩⟩
  · by_cases c1 : Nm (M 102) (la - 1) 1 < Nm c (la - 1) 1
    · have := (nx c hv c1).1; omega
    · omega
  · by_cases c1 : Nm (M 102) (la - 1) 1 < Nm c (la - 1) 1
    · have := (nx c hv c1).2; omega
    · omega
/-- findMost of the reference, with its least -/
theorem c_X5_findMostL (G : GG) (l : Launch) (D B : MM) (hw : WM B) (hs : SHK B) (hr : zRD D B) : CMv G l yX5_findMost cX5_findMost 3 none 4 [.ref 84] B (fun M' => FM B M' ∧ MB M' ∧ zRe D B (B 85 0 - 1).toNat M') := by
  have hP := hw.1
  have hla : (((B 85 0 - 1).toNat : Nat) : Int) = B 85 0 - 1 := by omega
  refine c_X5_findMostJ G l B hw hs (zJl D B (B 85 0 - 1).toNat) (zRe D B (B 85 0 - 1).toNat) ⟨fun q => absurd q (by decide), fun c y ρ hv hy hft hlt => ?_⟩ (fun M1 s M' s' hj hJ hst z M2 hz => zq_jstep hr hla hj hJ hst hz)
  exfalso
  rw [Nm_zero (c := cmK B 5 102) ((B 85 0 - 1).toNat - 1) 1 (fun u a b => by show (if u < 5 then (-1 : Int) else B 102 u) = -1; rw [if_pos (by omega)])] at hlt
  omega
