/-! ===== small ints beside written numbers ===== -/
theorem g_le {a n : Nat} (h : n ≤ a) (ha : a < 2 ^ 31) : (OfNat.ofNat n : Int32) ≤ nI a := nI_le h ha
theorem g_ge {a n : Nat} (h : a < n) (hn : n < 2 ^ 31) : ¬ (OfNat.ofNat n : Int32) ≤ nI a := nI_ge h hn
theorem g_lt {a n : Nat} (h : a < n) (hn : n < 2 ^ 31) : nI a < (OfNat.ofNat n : Int32) := nI_lt h hn
theorem g_nlt {a n : Nat} (h : n ≤ a) (ha : a < 2 ^ 31) : ¬ nI a < (OfNat.ofNat n : Int32) := nI_nlt h ha
theorem g_gt {a n : Nat} (h : n < a) (ha : a < 2 ^ 31) : (OfNat.ofNat n : Int32) < nI a := nI_lt h ha
theorem g_ngt {a n : Nat} (h : a ≤ n) (hn : n < 2 ^ 31) : ¬ (OfNat.ofNat n : Int32) < nI a := nI_nlt h hn
theorem g_lle {a n : Nat} (h : a ≤ n) (hn : n < 2 ^ 31) : nI a ≤ (OfNat.ofNat n : Int32) := nI_le h hn
theorem g_nle {a n : Nat} (h : n < a) (ha : a < 2 ^ 31) : ¬ nI a ≤ (OfNat.ofNat n : Int32) := nI_ge h ha
theorem g_eq {a n : Nat} (h : a = n) : nI a = (OfNat.ofNat n : Int32) := congrArg nI h
theorem g_ne {a n : Nat} (h : ¬ a = n) (ha : a < 2 ^ 31) (hn : n < 2 ^ 31) : ¬ nI a = (OfNat.ofNat n : Int32) := fun e => h ((nI_eq ha hn).mp e)
