theorem jfit_in {w v : Int32} (h : jfit w v = true) : ∃ j, j ≤ 3 ∧ w = nI j := by
  rcases tb_case 3 (by decide) w with ⟨k, hk, e⟩ | ⟨-, hne⟩
  · exact ⟨k, hk, e⟩
  · have h0 : w ≠ 0 := hne 0 (by omega)
    have h1 : w ≠ 1 := hne 1 (by omega)
    have h2 : w ≠ 2 := hne 2 (by omega)
    have h3 : w ≠ 3 := hne 3 (by omega)
    exact absurd h (by grind [jfit])
