/-! ===== small facts ===== -/
def b01 (P : Prop) [Decidable P] : Int32 := if P then 1 else 0
theorem b01_t {P : Prop} [Decidable P] (h : P) : b01 P = 1 := if_pos h
theorem b01_f {P : Prop} [Decidable P] (h : ¬ P) : b01 P = 0 := if_neg h
theorem b01_c {P Q : Prop} [Decidable P] [Decidable Q] (h : P ↔ Q) : b01 P = b01 Q := by
  by_cases hp : P
  · rw [b01_t hp, b01_t (h.mp hp)]
  · rw [b01_f hp, b01_f (fun q => hp (h.mpr q))]
theorem b01_or (P : Prop) [Decidable P] : b01 P = 0 ∨ b01 P = 1 := by
  by_cases h : P
  · exact Or.inr (b01_t h)
  · exact Or.inl (b01_f h)
theorem b01_0 {P : Prop} [Decidable P] (h : b01 P = 0) : ¬ P := fun q => by
  rw [b01_t q] at h
  exact absurd h (by decide)
theorem b01_n {P : Prop} [Decidable P] (h : ¬ b01 P = 0) : P := by
  by_cases q : P
  · exact q
  · exact absurd (b01_f q) h
theorem ti (n : Nat) (h : n < 2 ^ 31) : (OfNat.ofNat n : Int32).toInt = (n : Int) := by
  rw [fa_lit]; exact nI_toInt h
theorem ti_0 : (0 : Int32).toInt = 0 := by decide
theorem ti_1 : (1 : Int32).toInt = 1 := by decide
theorem ti_5 : (5 : Int32).toInt = 5 := by decide
theorem ti_6 : (6 : Int32).toInt = 6 := by decide
theorem ti_7 : (7 : Int32).toInt = 7 := by decide
theorem ti_8 : (8 : Int32).toInt = 8 := by decide
theorem ti_10 : (10 : Int32).toInt = 10 := by decide
theorem ti_48 : (48 : Int32).toInt = 48 := by decide
theorem ti_63 : (63 : Int32).toInt = 63 := by decide
theorem ti_64 : (64 : Int32).toInt = 64 := by decide
theorem ti_120 : (120 : Int32).toInt = 120 := by decide
theorem ti_199 : (199 : Int32).toInt = 199 := by decide
theorem ti_1000 : (1000 : Int32).toInt = 1000 := by decide
theorem ti_2000 : (2000 : Int32).toInt = 2000 := by decide
theorem ti_9999 : (9999 : Int32).toInt = 9999 := by decide
theorem ti_n : (262143 : Int32).toInt = 262143 := by decide
theorem ti_g : (1000000000 : Int32).toInt = 1000000000 := by decide
theorem ti_m1 : (-1 : Int32).toInt = -1 := by decide
theorem ti_m2 : (-2 : Int32).toInt = -2 := by decide
theorem ti_m9 : (-9 : Int32).toInt = -9 := by decide
theorem tl_0 : (0 : Int64).toInt = 0 := by decide
theorem tl_1 : (1 : Int64).toInt = 1 := by decide
theorem tl_5 : (5 : Int64).toInt = 5 := by decide
theorem tl_7 : (7 : Int64).toInt = 7 := by decide
theorem tl_63 : (63 : Int64).toInt = 63 := by decide
theorem tl_120 : (120 : Int64).toInt = 120 := by decide
theorem tl_199 : (199 : Int64).toInt = 199 := by decide
theorem tl_1000 : (1000 : Int64).toInt = 1000 := by decide
theorem tl_n : (262143 : Int64).toInt = 262143 := by decide
theorem tl_g : (1000000000 : Int64).toInt = 1000000000 := by decide
theorem t64 (x : Int32) : x.toInt64.toInt = x.toInt := Int32.toInt_toInt64 x
/-- an int that is a number of at most 31 bits -/
theorem nI_of_toInt {x : Int32} {n : Nat} (h : x.toInt = n) (hn : n < 2 ^ 31) : x = nI n := (fa_eq _ _).mpr (by rw [h, nI_toInt hn])
theorem nI_nat {x : Int32} (h : 0 ≤ x.toInt) : x = nI x.toInt.toNat := nI_of_toInt (by omega) (by have := fb_rng x; omega)
theorem in_of {x : Int32} {n : Nat} (h1 : 0 ≤ x.toInt) (h2 : x.toInt < n) : vp_in x n := vp_in_iff.mpr ⟨h1, h2⟩
theorem clamp_of_toInt {x : Int32} {n : Nat} (h : x.toInt = n) (hn : n < 2 ^ 31) : x.toNatClampNeg = n := by rw [nI_of_toInt h hn, nI_clamp hn]
