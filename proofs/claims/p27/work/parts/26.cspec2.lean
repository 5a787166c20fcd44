/-! keepers, ships; the JDK's sums -/
section SF
variable {i B : Nat} {s go : Nat → Int32} {v : Int32}
theorem kpF_0 : (kpF s i).set 0 (.int v) = kpF (upd s (120 + 5 * i + 0) v) i := by simp [kpF, upd]
theorem kpF_1 : (kpF s i).set 1 (.int v) = kpF (upd s (120 + 5 * i + 1) v) i := by simp [kpF, upd]
theorem kpF_2 : (kpF s i).set 2 (.int v) = kpF (upd s (120 + 5 * i + 2) v) i := by simp [kpF, upd]
theorem kpF_3 : (kpF s i).set 3 (.int v) = kpF (upd s (120 + 5 * i + 3) v) i := by simp [kpF, upd]
theorem kpF_4 : (kpF s i).set 4 (.int v) = kpF (upd s (120 + 5 * i + 4) v) i := by simp [kpF, upd]
theorem shF_0 : (shF s go i).set 0 (.int v) = shF (upd s (140 + 5 * i + 0) v) go i := by simp [shF, upd]
theorem shF_1 : (shF s go i).set 1 (.int v) = shF (upd s (140 + 5 * i + 1) v) go i := by simp [shF, upd]
theorem shF_2 : (shF s go i).set 2 (.int v) = shF (upd s (140 + 5 * i + 2) v) go i := by simp [shF, upd]
theorem shF_3 : (shF s go i).set 3 (.int v) = shF s (upd go (8 + i) v) i := by
  have h : ¬ i = 8 + i := by omega
  simp [shF, upd, h]
theorem shF_4 : (shF s go i).set 4 (.int v) = shF (upd s (140 + 5 * i + 4) v) go i := by simp [shF, upd]
theorem shF_5 : (shF s go i).set 5 (.int v) = shF s (upd go i v) i := by
  have h : ¬ 8 + i = i := by omega
  simp [shF, upd, h]
/-- copied: the conditions are the other's, what has gone is its own -/
def jgm (go go' : Nat → Int32) : Nat → Int32 := fun j => if 8 ≤ j ∧ j < 16 then go' j else go j
theorem jgm_c {go' : Nat → Int32} (hi : i < 8) : jgm go go' (8 + i) = go' (8 + i) := if_pos (by omega)
theorem jgm_g {go' : Nat → Int32} (hi : i < 8) : jgm go go' i = go i := if_neg (by omega)
theorem jgm_me : jgm go go = go := by
  funext j
  unfold jgm
  split <;> rfl
end SF
theorem cmin_jkP (s : Nat → Int32) (i : Nat) : cmin (s (120 + 5 * i + 0) + s 182) (s (120 + 5 * i + 1)) = jkP s i := by
  unfold cmin jkP
  by_cases h : s (120 + 5 * i + 1) ≤ s (120 + 5 * i + 0) + s 182
  · rw [if_pos h]
    by_cases g : s (120 + 5 * i + 1) < s (120 + 5 * i + 0) + s 182
    · rw [if_pos g]
    · rw [if_neg g]
      exact Int32.le_antisymm (Int32.not_lt.mp g) h
  · rw [if_neg h, if_neg (fun z => h (Int32.le_of_lt z))]
theorem jfit_n {w : Nat} (hw : w < 4) (v : Int32) : jfit (nI w) v = (decide (bkLS w ≤ v) && decide (v ≤ bkMS w)) := by
  match w, hw with
  | 0, _ => rfl
  | 1, _ => rfl
  | 2, _ => rfl
  | 3, _ => rfl
  | w + 4, h => exact absurd h (by omega)
theorem jfit_o {w v : Int32} (h : w < 0 ∨ 4 ≤ w) : jfit w v = false := by
  have h0 : w ≠ 0 := by rintro rfl; revert h; decide
  have h1 : w ≠ 1 := by rintro rfl; revert h; decide
  have h2 : w ≠ 2 := by rintro rfl; revert h; decide
  have h3 : w ≠ 3 := by rintro rfl; revert h; decide
  unfold jfit
  simp [h0, h1, h2, h3]
def cfm (x y : Int32) : Int32 := if ¬ 0 ≤ x ^^^ y ∧ ¬ jrem x y = 0 then jrem x y + y else jrem x y
