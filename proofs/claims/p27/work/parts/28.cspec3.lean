/-! a State of the class: 21 cells at b; its numbers are those of the reference's row -/
def jrp2 (s : Nat → Int32) (y : Nat) : Nat → Bool := fun x => decide (s (10 * y + x) = 1)
def jrow (s : Nat → Int32) (y : Nat) : Int32 := if y < 10 then nI (jset (jrp2 s y) 10) else 0
def sO (B b : Nat) (s : Nat → Int32) : List Value := [.ref B, .ref (b + 1), .ref (b + 2), .ref (b + 3), .ref (b + 4), .int (s 180), .int (s 182), .int (s 181)]
def sE (G : bkG) (B b : Nat) (s go : Nat → Int32) (j : Nat) : va_E :=
  if j = 0 then .inr (6, sO B b s) else if j = 1 then aI G 10 (jrow s) else if j = 2 then aQ G 3 4 (fun i => some (b + 5 + 2 * i)) else if j = 3 then aQ G 4 4 (fun i => some (b + 6 + 2 * i)) else if j = 4 then aQ G 5 8 (fun i => some (b + 13 + i))
  else if j < 13 then (if j % 2 = 1 then .inr (3, ltF B s ((j - 5) / 2)) else .inr (2, kpF s ((j - 6) / 2))) else .inr (5, shF s go (j - 13))
def sW (G : bkG) (B b : Nat) (s go : Nat → Int32) (M : bkM) : bkM := fun x => if b ≤ x ∧ x < b + 21 then some (sE G B b s go (x - b)) else M x
section SW
variable {G : bkG} {B b : Nat} {s s' go go' : Nat → Int32} {M : bkM}
theorem sW_in {j : Nat} (hj : j < 21) : sW G B b s go M (b + j) = some (sE G B b s go j) := by
  unfold sW
  rw [if_pos (by omega), Nat.add_sub_cancel_left]
theorem sW_out {x : Nat} (h : x < b ∨ b + 21 ≤ x) : sW G B b s go M x = M x := if_neg (by omega)
theorem sE_lt {i : Nat} (hi : i < 4) : sE G B b s go (5 + 2 * i) = .inr (3, ltF B s i) := by
  unfold sE
  rw [if_neg (by omega), if_neg (by omega), if_neg (by omega), if_neg (by omega), if_neg (by omega), if_pos (by omega), if_pos (by omega), show (5 + 2 * i - 5) / 2 = i by omega]
theorem sE_kp {i : Nat} (hi : i < 4) : sE G B b s go (6 + 2 * i) = .inr (2, kpF s i) := by
  unfold sE
  rw [if_neg (by omega), if_neg (by omega), if_neg (by omega), if_neg (by omega), if_neg (by omega), if_pos (by omega), if_neg (by omega), show (6 + 2 * i - 6) / 2 = i by omega]
theorem sE_sh {i : Nat} : sE G B b s go (13 + i) = .inr (5, shF s go i) := by
  unfold sE
  rw [if_neg (by omega), if_neg (by omega), if_neg (by omega), if_neg (by omega), if_neg (by omega), if_neg (by omega), show 13 + i - 13 = i by omega]
theorem sW_o : sW G B b s go M b = some (.inr (6, sO B b s)) := sW_in (j := 0) (by omega)
theorem sW_r : sW G B b s go M (b + 1) = some (aI G 10 (jrow s)) := sW_in (j := 1) (by omega)
theorem sW_l : sW G B b s go M (b + 2) = some (aQ G 3 4 (fun i => some (b + 5 + 2 * i))) := sW_in (j := 2) (by omega)
theorem sW_k : sW G B b s go M (b + 3) = some (aQ G 4 4 (fun i => some (b + 6 + 2 * i))) := sW_in (j := 3) (by omega)
theorem sW_s : sW G B b s go M (b + 4) = some (aQ G 5 8 (fun i => some (b + 13 + i))) := sW_in (j := 4) (by omega)
theorem sW_lt {i : Nat} (hi : i < 4) : sW G B b s go M (b + 5 + 2 * i) = some (.inr (3, ltF B s i)) := by
  rw [show b + 5 + 2 * i = b + (5 + 2 * i) by omega, sW_in (by omega), sE_lt hi]
theorem sW_kp {i : Nat} (hi : i < 4) : sW G B b s go M (b + 6 + 2 * i) = some (.inr (2, kpF s i)) := by
  rw [show b + 6 + 2 * i = b + (6 + 2 * i) by omega, sW_in (by omega), sE_kp hi]
theorem sW_sh {i : Nat} (hi : i < 8) : sW G B b s go M (b + 13 + i) = some (.inr (5, shF s go i)) := by
  rw [show b + 13 + i = b + (13 + i) by omega, sW_in (by omega), sE_sh]
/-- the cell that holds a number -/
def jow (m : Nat) : Nat := if m < 100 then 1 else if m < 120 then 5 + 2 * ((m - 100) / 5) else if m < 140 then 6 + 2 * ((m - 120) / 5) else if m < 180 then 13 + (m - 140) / 5 else 0
theorem jow_r {m : Nat} (h : m < 100) : jow m = 1 := if_pos h
theorem jow_l {i w : Nat} (hi : i < 4) (hw : w < 5) : jow (100 + 5 * i + w) = 5 + 2 * i := by
  unfold jow
  rw [if_neg (by omega), if_pos (by omega)]
  omega
theorem jow_k {i w : Nat} (hi : i < 4) (hw : w < 5) : jow (120 + 5 * i + w) = 6 + 2 * i := by
  unfold jow
  rw [if_neg (by omega), if_neg (by omega), if_pos (by omega)]
  omega
theorem jow_s {i w : Nat} (hi : i < 8) (hw : w < 5) : jow (140 + 5 * i + w) = 13 + i := by
  unfold jow
  rw [if_neg (by omega), if_neg (by omega), if_neg (by omega), if_pos (by omega)]
  omega
theorem jow_o {m : Nat} (h : 180 ≤ m) : jow m = 0 := by
  unfold jow
  rw [if_neg (by omega), if_neg (by omega), if_neg (by omega), if_neg (by omega)]
theorem sE_congr2 {j : Nat} (hj : j < 21) (h : ∀ m, m < 183 → jow m = j → s' m = s m) (hg : ∀ i, i < 8 → j = 13 + i → go' i = go i ∧ go' (8 + i) = go (8 + i)) : sE G B b s' go' j = sE G B b s go j := by
  by_cases h0 : j = 0
  · subst h0
    have e : sO B b s' = sO B b s := by
      unfold sO
      rw [h 180 (by omega) (jow_o (by omega)), h 181 (by omega) (jow_o (by omega)), h 182 (by omega) (jow_o (by omega))]
    show (Sum.inr (6, sO B b s') : va_E) = Sum.inr (6, sO B b s)
    rw [e]
  · by_cases h1 : j = 1
    · subst h1
      show aI G 10 (jrow s') = aI G 10 (jrow s)
      have e : jrow s' = jrow s := by
        funext y
        unfold jrow
        by_cases hy : y < 10
        · rw [if_pos hy, if_pos hy]
          refine congrArg nI (jset_cong fun k hk => ?_)
          unfold jrp2
          rw [h (10 * y + k) (by omega) (jow_r (by omega))]
        · rw [if_neg hy, if_neg hy]
      rw [e]
    · by_cases h5 : j < 5
      · unfold sE
        rw [if_neg h0, if_neg h1, if_neg h0, if_neg h1]
        rcases (by omega : j = 2 ∨ j = 3 ∨ j = 4) with e | e | e <;> subst e <;> rfl
      · by_cases h14 : j < 13
        · by_cases hp : j % 2 = 1
          · obtain ⟨i, rfl⟩ : ∃ i, j = 5 + 2 * i := ⟨(j - 5) / 2, by omega⟩
            have hi : i < 4 := by omega
            rw [sE_lt hi, sE_lt hi]
            unfold ltF
            rw [h (100 + 5 * i + 0) (by omega) (jow_l hi (by omega)), h (100 + 5 * i + 1) (by omega) (jow_l hi (by omega)), h (100 + 5 * i + 2) (by omega) (jow_l hi (by omega)), h (100 + 5 * i + 3) (by omega) (jow_l hi (by omega)), h (100 + 5 * i + 4) (by omega) (jow_l hi (by omega))]
          · obtain ⟨i, rfl⟩ : ∃ i, j = 6 + 2 * i := ⟨(j - 6) / 2, by omega⟩
            have hi : i < 4 := by omega
            rw [sE_kp hi, sE_kp hi]
            unfold kpF
            rw [h (120 + 5 * i + 0) (by omega) (jow_k hi (by omega)), h (120 + 5 * i + 1) (by omega) (jow_k hi (by omega)), h (120 + 5 * i + 2) (by omega) (jow_k hi (by omega)), h (120 + 5 * i + 3) (by omega) (jow_k hi (by omega)), h (120 + 5 * i + 4) (by omega) (jow_k hi (by omega))]
        · obtain ⟨i, rfl⟩ : ∃ i, j = 13 + i := ⟨j - 13, by omega⟩
          have hi : i < 8 := by omega
          rw [sE_sh, sE_sh]
          unfold shF
          rw [h (140 + 5 * i + 0) (by omega) (jow_s hi (by omega)), h (140 + 5 * i + 1) (by omega) (jow_s hi (by omega)), h (140 + 5 * i + 2) (by omega) (jow_s hi (by omega)), h (140 + 5 * i + 4) (by omega) (jow_s hi (by omega)), (hg i hi rfl).1, (hg i hi rfl).2]
theorem sE_congr {j : Nat} (hj : j < 21) (h : ∀ m, m < 183 → jow m = j → s' m = s m) : sE G B b s' go j = sE G B b s go j := sE_congr2 hj h (fun _ _ _ => ⟨rfl, rfl⟩)
theorem sW_set2 {j : Nat} (hj : j < 21) (h : ∀ m, m < 183 → jow m ≠ j → s' m = s m) (hg : ∀ i, i < 8 → 13 + i ≠ j → go' i = go i ∧ go' (8 + i) = go (8 + i)) : bku (sW G B b s go M) (b + j) (sE G B b s' go' j) = sW G B b s' go' M := by
  funext x
  by_cases hx : x = b + j
  · subst hx
    rw [bku_at, sW_in hj]
  · rw [bku_ne hx]
    unfold sW
    by_cases hin : b ≤ x ∧ x < b + 21
    · rw [if_pos hin, if_pos hin]
      refine congrArg some (Eq.symm (sE_congr2 (by omega) (fun m hm e => h m hm ?_) (fun i hi e => hg i hi ?_)))
      · rw [e]
        omega
      · omega
    · rw [if_neg hin, if_neg hin]
theorem sW_set {j : Nat} (hj : j < 21) (h : ∀ m, m < 183 → jow m ≠ j → s' m = s m) : bku (sW G B b s go M) (b + j) (sE G B b s' go j) = sW G B b s' go M := sW_set2 hj h (fun _ _ _ => ⟨rfl, rfl⟩)
theorem sS_lt {i : Nat} (hi : i < 4) (h : ∀ m, m < 183 → jow m ≠ 5 + 2 * i → s' m = s m) : bku (sW G B b s go M) (b + 5 + 2 * i) (.inr (3, ltF B s' i)) = sW G B b s' go M := by
  have e := sW_set (G := G) (B := B) (b := b) (go := go) (M := M) (j := 5 + 2 * i) (by omega) h
  rw [sE_lt hi, ← Nat.add_assoc] at e
  exact e
theorem sS_kp {i : Nat} (hi : i < 4) (h : ∀ m, m < 183 → jow m ≠ 6 + 2 * i → s' m = s m) : bku (sW G B b s go M) (b + 6 + 2 * i) (.inr (2, kpF s' i)) = sW G B b s' go M := by
  have e := sW_set (G := G) (B := B) (b := b) (go := go) (M := M) (j := 6 + 2 * i) (by omega) h
  rw [sE_kp hi, ← Nat.add_assoc] at e
  exact e
theorem sS_sh {i : Nat} (hi : i < 8) (h : ∀ m, m < 183 → jow m ≠ 13 + i → s' m = s m) (hg : ∀ k, k ≠ i → k < 8 → go' k = go k ∧ go' (8 + k) = go (8 + k)) : bku (sW G B b s go M) (b + 13 + i) (.inr (5, shF s' go' i)) = sW G B b s' go' M := by
  have e := sW_set2 (G := G) (B := B) (b := b) (go := go) (go' := go') (M := M) (j := 13 + i) (by omega) h (fun k hk hne => hg k (by omega) hk)
  rw [sE_sh, ← Nat.add_assoc] at e
  exact e
theorem sS_o (h : ∀ m, m < 183 → jow m ≠ 0 → s' m = s m) : bku (sW G B b s go M) b (.inr (6, sO B b s')) = sW G B b s' go M := sW_set (j := 0) (by omega) h
theorem sS_r (h : ∀ m, m < 183 → jow m ≠ 1 → s' m = s m) : bku (sW G B b s go M) (b + 1) (aI G 10 (jrow s')) = sW G B b s' go M := sW_set (j := 1) (by omega) h
theorem sW_congr (h : ∀ m, m < 183 → s' m = s m) (hg : ∀ k, k < 8 → go' k = go k ∧ go' (8 + k) = go (8 + k)) : sW G B b s go M = sW G B b s' go' M := by
  funext x
  unfold sW
  by_cases hin : b ≤ x ∧ x < b + 21
  · rw [if_pos hin, if_pos hin]
    exact congrArg some (sE_congr2 (by omega) (fun m hm _ => h m hm) (fun k hk _ => hg k hk)).symm
  · rw [if_neg hin, if_neg hin]
end SW
/-! the bearings of the class -/
def bB (G : bkG) (B : Nat) (M : bkM) : Prop := M B = some (.inr (0, [.ref (B + 1), .ref (B + 6), .ref (B + 11)])) ∧ M (B + 11) = some (aI G 100 (fun c => nI (jnr c))) ∧ ∀ i, i < 4 → M (B + 2 + i) = some (aI G 100 (cwd i)) ∧ M (B + 7 + i) = some (aI G 100 (cds i))
theorem bB.sW {G : bkG} {B b : Nat} {s go : Nat → Int32} {M : bkM} (h : bB G B M) (hs : B + 12 ≤ b) : bB G B (sW G B b s go M) := by
  refine ⟨by rw [sW_out (by omega)]; exact h.1, by rw [sW_out (by omega)]; exact h.2.1, fun i hi => ⟨by rw [sW_out (by omega)]; exact (h.2.2 i hi).1, by rw [sW_out (by omega)]; exact (h.2.2 i hi).2⟩⟩
/-! rows of rocks as sets of bits -/
theorem jset_t10 (p : Nat → Bool) : jset p 10 < 1024 := jset_lt p 10
theorem jrow_bit {s : Nat → Int32} {c : Nat} (hc : c < 100) : (jrow s (c / 10) >>> (nI (c % 10) &&& 31)) &&& 1 = bi (decide (s c = 1)) := by
  unfold jrow
  rw [if_pos (by omega), jb10_bit _ (by omega) _ (jset_t10 _), jset_bit]
  have e : 10 * (c / 10) + c % 10 = c := by omega
  unfold jrp2 bi
  rw [e]
  simp [show c % 10 < 10 by omega]
theorem jset_flip {p q : Nat → Bool} {k n : Nat} (hk : k < n) (h : q k = !p k) (h2 : ∀ j, j < n → j ≠ k → q j = p j) : jset p n ^^^ 2 ^ k = jset q n := by
  apply Nat.eq_of_testBit_eq
  intro i
  rw [Nat.testBit_xor, jset_bit, jset_bit, Nat.testBit_two_pow]
  by_cases e : k = i
  · subst e
    simp [hk, h]
  · by_cases hi : i < n
    · rw [h2 i hi (Ne.symm e)]
      simp [e]
    · simp [hi, e]
