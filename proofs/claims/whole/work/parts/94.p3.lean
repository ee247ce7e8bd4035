/-! the signs of the class, one by one -/
theorem k_sign_j : ∀ j : Nat, j < 256 → k_sign (Int32.ofInt ((j : Int) - 128)) = if Int32.ofInt ((j : Int) - 128) = 59 then 4 else if Int32.ofInt ((j : Int) - 128) = 40 then 5 else if Int32.ofInt ((j : Int) - 128) = 41 then 6 else if Int32.ofInt ((j : Int) - 128) = 43 then 7 else if Int32.ofInt ((j : Int) - 128) = 60 then 8 else if Int32.ofInt ((j : Int) - 128) = 62 then 9 else 1 := by decide +kernel
theorem k_sign_e {x : Int32} (h1 : -128 ≤ x.toInt) (h2 : x.toInt ≤ 127) : k_sign x = if x = 59 then 4 else if x = 40 then 5 else if x = 41 then 6 else if x = 43 then 7 else if x = 60 then 8 else if x = 62 then 9 else 1 := by
  have h3 : x = Int32.ofInt (((x.toInt + 128).toNat : Int) - 128) := by
    rw [Int.toNat_of_nonneg (by omega), Int.add_sub_cancel, Int32.ofInt_toInt]
  have h4 := k_sign_j (x.toInt + 128).toNat (by omega)
  rw [← h3] at h4
  exact h4
