/-! numbers: ints and longs as images of Int -/
def iI (z : Int) : Int32 := Int32.ofInt z
def jJ (z : Int) : Int64 := Int64.ofInt z
def inR (z : Int) : Prop := -2147483648 ≤ z ∧ z < 2147483648
theorem iI_of (x : Int32) : iI x.toInt = x := by unfold iI; exact Int32.ofInt_toInt x
theorem jJ_of (x : Int64) : jJ x.toInt = x := by unfold jJ; exact Int64.ofInt_toInt x
theorem iI_toInt {a : Int} (h : inR a) : (iI a).toInt = a := by
  unfold iI; obtain ⟨h1, h2⟩ := h
  rw [Int32.toInt_ofInt]
  exact Int.bmod_eq_of_le (by show -(((4294967296 : Nat) : Int) / 2) ≤ a; omega) (by show a < (((4294967296 : Nat) : Int) + 1) / 2; omega)
theorem jJ_toInt {a : Int} (h1 : -9223372036854775808 ≤ a) (h2 : a < 9223372036854775808) : (jJ a).toInt = a := by
  unfold jJ
  rw [Int64.toInt_ofInt]
  exact Int.bmod_eq_of_le (by show -(((18446744073709551616 : Nat) : Int) / 2) ≤ a; omega) (by show a < (((18446744073709551616 : Nat) : Int) + 1) / 2; omega)
theorem inR_of (x : Int32) : inR x.toInt := by
  have h1 := Int32.le_toInt x
  have h2 := Int32.toInt_lt x
  constructor <;> omega
theorem iI_add (a b : Int) : iI (a + b) = iI a + iI b := by unfold iI; exact Int32.ofInt_add a b
theorem iI_sub (a b : Int) : iI (a - b) = iI a - iI b := by unfold iI; exact Int32.ofInt_sub a b
theorem iI_mul (a b : Int) : iI (a * b) = iI a * iI b := by unfold iI; exact Int32.ofInt_mul a b
theorem iI_neg (a : Int) : iI (-a) = - iI a := by unfold iI; exact Int32.ofInt_neg a
theorem jJ_add (a b : Int) : jJ (a + b) = jJ a + jJ b := by unfold jJ; exact Int64.ofInt_add a b
theorem jJ_sub (a b : Int) : jJ (a - b) = jJ a - jJ b := by unfold jJ; exact Int64.ofInt_sub a b
theorem jJ_mul (a b : Int) : jJ (a * b) = jJ a * jJ b := by unfold jJ; exact Int64.ofInt_mul a b
theorem iI_lt {a b : Int} (ha : inR a) (hb : inR b) : iI a < iI b ↔ a < b := by rw [Int32.lt_iff_toInt_lt, iI_toInt ha, iI_toInt hb]
theorem iI_le {a b : Int} (ha : inR a) (hb : inR b) : iI a ≤ iI b ↔ a ≤ b := by rw [Int32.le_iff_toInt_le, iI_toInt ha, iI_toInt hb]
theorem iI_eq {a b : Int} (ha : inR a) (hb : inR b) : iI a = iI b ↔ a = b := ⟨fun h => by rw [← iI_toInt ha, ← iI_toInt hb, h], fun h => by rw [h]⟩
theorem iI_0 : iI 0 = 0 := by decide
theorem inR_0 : inR 0 := ⟨by decide, by decide⟩
theorem iI_lt0 {a : Int} (ha : inR a) : iI a < 0 ↔ a < 0 := by rw [← iI_0, iI_lt ha inR_0]
theorem iI_le0 {a : Int} (ha : inR a) : iI a ≤ 0 ↔ a ≤ 0 := by rw [← iI_0, iI_le ha inR_0]
theorem iI_eq0 {a : Int} (ha : inR a) : iI a = 0 ↔ a = 0 := by rw [← iI_0, iI_eq ha inR_0]
theorem inR_nat {k : Nat} (h : k < 2147483648) : inR (k : Int) := ⟨by omega, by omega⟩
theorem iI_nI (k : Nat) : iI (k : Int) = nI k := by unfold iI nI; rfl
theorem iI_clamp {k : Nat} (h : k < 2147483648) : (iI (k : Int)).toNatClampNeg = k := by rw [iI_nI]; exact nI_clamp (by omega)
theorem iI_in {k n : Nat} (h : k < n) (hn : n < 2147483648) : vp_in (iI (k : Int)) n := by rw [iI_nI]; exact vp_in_nI h (by omega)
theorem iI_toLong {a : Int} (h : inR a) : (iI a).toInt64 = jJ a := by
  apply Int64.toInt_inj.mp
  obtain ⟨h1, h2⟩ := id h
  rw [Int32.toInt_toInt64, iI_toInt h, jJ_toInt (by omega) (by omega)]
