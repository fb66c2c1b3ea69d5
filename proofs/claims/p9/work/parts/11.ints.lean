/-! whole numbers for the machine's ints and longs -/
abbrev I32 (z : Int) : Prop := -2147483648 ≤ z ∧ z < 2147483648
abbrev I64 (z : Int) : Prop := -9223372036854775808 ≤ z ∧ z < 9223372036854775808
theorem i32_t {z : Int} (h : I32 z) : (Int32.ofInt z).toInt = z := by
  rw [Int32.toInt_ofInt]
  exact Int.bmod_eq_of_le (by simp; omega) (by simp; omega)
theorem i64_t {z : Int} (h : I64 z) : (Int64.ofInt z).toInt = z := by
  rw [Int64.toInt_ofInt]
  exact Int.bmod_eq_of_le (by simp; omega) (by simp; omega)
theorem i32_eq {x y : Int} (hx : I32 x) (hy : I32 y) : Int32.ofInt x = Int32.ofInt y ↔ x = y := by
  rw [← Int32.toInt_inj, i32_t hx, i32_t hy]
theorem i32_le {x y : Int} (hx : I32 x) (hy : I32 y) : Int32.ofInt x ≤ Int32.ofInt y ↔ x ≤ y := by
  rw [Int32.le_iff_toInt_le, i32_t hx, i32_t hy]
theorem i32_lt {x y : Int} (hx : I32 x) (hy : I32 y) : Int32.ofInt x < Int32.ofInt y ↔ x < y := by
  rw [Int32.lt_iff_toInt_lt, i32_t hx, i32_t hy]
theorem i64_eq {x y : Int} (hx : I64 x) (hy : I64 y) : Int64.ofInt x = Int64.ofInt y ↔ x = y := by
  rw [← Int64.toInt_inj, i64_t hx, i64_t hy]
theorem i64_lt {x y : Int} (hx : I64 x) (hy : I64 y) : Int64.ofInt x < Int64.ofInt y ↔ x < y := by
  rw [Int64.lt_iff_toInt_lt, i64_t hx, i64_t hy]
theorem i64_le {x y : Int} (hx : I64 x) (hy : I64 y) : Int64.ofInt x ≤ Int64.ofInt y ↔ x ≤ y := by
  rw [Int64.le_iff_toInt_le, i64_t hx, i64_t hy]
theorem i32_i2l {x : Int} (hx : I32 x) : (Int32.ofInt x).toInt64 = Int64.ofInt x := by
  rw [← Int64.toInt_inj, Int32.toInt_toInt64, i32_t hx, i64_t ⟨by omega, by omega⟩]
theorem i64_l2i (x : Int) : (Int64.ofInt x).toInt32 = Int32.ofInt x := by
  rw [← Int32.toInt_inj, Int64.toInt_toInt32, Int64.toInt_ofInt, Int32.toInt_ofInt]
  exact Int.bmod_bmod_of_dvd (by decide)
theorem i64_ne0 {y : Int} (hy : I64 y) (h : y ≠ 0) : ¬ Int64.ofInt y = 0 := fun q => h ((i64_eq (y := 0) hy ⟨by omega, by omega⟩).mp q)
theorem i32_ne0 {y : Int} (hy : I32 y) (h : y ≠ 0) : ¬ Int32.ofInt y = 0 := fun q => h ((i32_eq (y := 0) hy ⟨by omega, by omega⟩).mp q)
theorem i64_div {x y : Int} (hx : I64 x) (hy : I64 y) : Int64.ofInt x / Int64.ofInt y = Int64.ofInt (x.tdiv y) := by
  rw [← Int64.toInt_inj, Int64.toInt_div, i64_t hx, i64_t hy, Int64.toInt_ofInt]
theorem i32_div {x y : Int} (hx : I32 x) (hy : I32 y) : Int32.ofInt x / Int32.ofInt y = Int32.ofInt (x.tdiv y) := by
  rw [← Int32.toInt_inj, Int32.toInt_div, i32_t hx, i32_t hy, Int32.toInt_ofInt]
theorem i64_rem {x y : Int} (hx : I64 x) (hy : I64 y) : Int64.ofInt x - Int64.ofInt x / Int64.ofInt y * Int64.ofInt y = Int64.ofInt (x.tmod y) := by
  rw [i64_div hx hy, ← Int64.ofInt_mul, ← Int64.ofInt_sub]
  congr 1
  have := Int.mul_tdiv_add_tmod x y
  rw [Int.mul_comm] at this
  omega
theorem i32_in {i : Int} {n : Nat} (h0 : 0 ≤ i) (h1 : i < n) (hn : n < 2147483648) : vp_in (Int32.ofInt i) n := by
  rw [vp_in_iff, i32_t ⟨by omega, by omega⟩]
  exact ⟨h0, h1⟩
theorem i32_cl {i : Int} (h0 : 0 ≤ i) (h1 : i < 2147483648) : (Int32.ofInt i).toNatClampNeg = i.toNat := by
  show (Int32.ofInt i).toInt.toNat = i.toNat
  rw [i32_t ⟨by omega, by omega⟩]
theorem i32_of (x : Int32) : x = Int32.ofInt x.toInt ∧ I32 x.toInt := by
  refine ⟨(Int32.ofInt_toInt x).symm, ?_⟩
  have h1 := Int32.le_toInt x
  have h2 := Int32.toInt_lt x
  exact ⟨by omega, by omega⟩
theorem i32_bip {n : Int} (h1 : -128 ≤ n) (h2 : n < 128) : (Int8.ofInt n).toInt32 = Int32.ofInt n := by
  rw [← Int32.toInt_inj, Int8.toInt_toInt32, Int8.toInt_ofInt, i32_t ⟨by omega, by omega⟩]
  exact Int.bmod_eq_of_le (by simp; omega) (by simp; omega)
theorem i32_sip {n : Int} (h1 : -32768 ≤ n) (h2 : n < 32768) : (Int16.ofInt n).toInt32 = Int32.ofInt n := by
  rw [← Int32.toInt_inj, Int16.toInt_toInt32, Int16.toInt_ofInt, i32_t ⟨by omega, by omega⟩]
  exact Int.bmod_eq_of_le (by simp; omega) (by simp; omega)
theorem i64_lc (n : Nat) : Int64.ofNat n = Int64.ofInt n := (Int64.ofInt_eq_ofNat).symm
def up2 (M : MM) (c k : Nat) (x : Int) : MM := fun c' => if c' = c then (fun k' => if k' = k then x else M c' k') else M c'
theorem up2_self (M : MM) (c k : Nat) (x : Int) : up2 M c k x c k = x := by simp [up2]
theorem up2_ne (M : MM) (c k : Nat) (x : Int) {c' : Nat} (h : c' ≠ c) : up2 M c k x c' = M c' := by simp [up2, h]
theorem up2_in (M : MM) (c k : Nat) (x : Int) (k' : Nat) : up2 M c k x c k' = if k' = k then x else M c k' := by simp [up2]
def upr (f : RF) (c k : Nat) (x : Option Nat) : RF := fun c' => if c' = c then (fun k' => if k' = k then x else f c' k') else f c'
