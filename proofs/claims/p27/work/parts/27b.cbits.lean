theorem jb10_bit : ∀ k, k < 10 → ∀ m, m < 1024 → (nI m >>> (nI k &&& 31)) &&& 1 = if m.testBit k then 1 else 0 := by decide +kernel
theorem jb10_xor : ∀ k, k < 10 → ∀ m, m < 1024 → nI m ^^^ ((1 : Int32) <<< (nI k &&& 31)) = nI (m ^^^ 2 ^ k) := by decide +kernel
