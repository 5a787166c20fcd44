theorem jrow_n {s : Nat → Int32} {y : Nat} (h : y < 10) : jrow s y = nI (jset (jrp2 s y) 10) := if_pos h
theorem jrow_sum {s : Nat → Int32} {y : Nat} : nI (jct (fun c => decide (s c = 1)) (10 * y)) + nI (jpc 10 (jset (jrp2 s y) 10)) = nI (jct (fun c => decide (s c = 1)) (10 * (y + 1))) := by
  rw [jpc_jset, nI_add, show 10 * (y + 1) = 10 * y + 10 by omega, jct_add]
  rfl
theorem jrow_flip {s : Nat → Int32} {c : Nat} (hc : c < 100) (h : s c = 0 ∨ s c = 1) : upd (jrow s) (c / 10) (jrow s (c / 10) ^^^ ((1 : Int32) <<< (nI (c % 10) &&& 31))) = jrow (upd s c (1 - s c)) := by
  funext y
  by_cases e : y = c / 10
  · subst e
    rw [upd_s, jrow_n (by omega), jrow_n (by omega), jb10_xor _ (by omega) _ (jset_t10 _)]
    refine congrArg nI (jset_flip (show c % 10 < 10 by omega) ?_ ?_)
    · unfold jrp2
      rw [show 10 * (c / 10) + c % 10 = c by omega, upd_s]
      rcases h with z | z
      · rw [z]; decide
      · rw [z]; decide
    · intro j hj hne
      unfold jrp2
      rw [upd_n (by omega)]
  · rw [upd_n e]
    unfold jrow
    by_cases hy : y < 10
    · rw [if_pos hy, if_pos hy]
      refine congrArg nI (jset_cong fun k hk => ?_)
      unfold jrp2
      rw [upd_n (by omega)]
    · rw [if_neg hy, if_neg hy]
theorem rk_01 {x : Int32} (h : x = 0 ∨ x = 1) : bi (decide (x = 1)) = 0 ↔ x = 0 := by
  rcases h with z | z
  · subst z; decide
  · subst z; decide
