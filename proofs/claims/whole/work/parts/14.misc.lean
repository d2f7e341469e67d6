theorem nI_dec {a k : Nat} (h : k ≤ a) : nI a + Int32.ofInt (-(k : Int)) = nI (a - k) := by
  have e : Int32.ofInt (-(k : Int)) = - nI k := by
    unfold nI
    rw [Int32.ofInt_neg, Int32.ofInt_eq_ofNat]
  rw [e, ← Int32.sub_eq_add_neg]
  exact pk_sub h
