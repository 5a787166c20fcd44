/-! acts on texts, undo, keep, what would be -/
theorem jwf.ly {s : Nat → Int32} {n k l : Nat} (h : jwf s n) (hk : k < 4) (hl : l < 4) : jwf (jly s k l) n :=
  (h.set (i := 100 + 5 * l + 4) (by omega) (by omega) (fun i hi => by omega)).set (i := 120 + 5 * k + 2) (by omega) (by omega) (fun i hi => by omega)
def jw10 (s : Nat → Int32) (n : Nat) : Int32 := jworth (jhrs s n 10) (jwr s n 10) n
def jbst (s : Nat → Int32) (n k : Nat) : Nat → Int32 × Int32
  | 0 => (-5, jw10 s n)
  | l + 1 => if jcl s k l = true then (if (jbst s n k l).2 < jw10 (jly s k l) n then nI l else (jbst s n k l).1, if (jbst s n k l).2 < jw10 (jly s k l) n then jw10 (jly s k l) n else (jbst s n k l).2) else jbst s n k l
def jbest (s : Nat → Int32) (n : Nat) (k : Int32) : Int32 := if jin k 0 3 = false then -1 else (jbst s n (tn k) 4).1
def jifp (s : Nat → Int32) (n : Nat) (h : Int32) : Int32 := if jin h 1 40 = false then -2 else nI (jset (jwr s n (tn h)) n)
theorem jin_of1 {x : Int32} {n : Nat} {N : Int32} (hN : N = nI n) (hn : n < 2 ^ 31) (h : jin x 1 N = true) : ∃ j, 1 ≤ j ∧ j ≤ n ∧ x = nI j := by
  have h0 : jin x 0 N = true := by
    unfold jin at h ⊢
    simp only [Bool.and_eq_true, decide_eq_true_eq] at h ⊢
    exact ⟨Int32.le_trans (by decide) h.1, h.2⟩
  obtain ⟨j, hj, rfl⟩ := jin_of hN hn h0
  refine ⟨j, ?_, hj, rfl⟩
  rcases Nat.eq_zero_or_pos j with e | e
  · subst e
    unfold jin at h
    simp only [Bool.and_eq_true, decide_eq_true_eq] at h
    exact absurd h.1 (by decide)
  · exact e
