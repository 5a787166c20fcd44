/-! what is told -/
theorem tb_case (n : Nat) (hn : n < 2 ^ 31) (x : Int32) : (∃ k, k ≤ n ∧ x = nI k) ∨ ((x.toInt < 0 ∨ (n : Int) < x.toInt) ∧ ∀ k, k ≤ n → x ≠ nI k) := by
  by_cases h : x.toInt < 0 ∨ (n : Int) < x.toInt
  · refine Or.inr ⟨h, fun k hk e => ?_⟩
    subst e
    rw [nI_toInt (by omega)] at h
    omega
  · refine Or.inl ⟨x.toInt.toNat, by omega, ?_⟩
    rw [← Int32.toInt_inj, nI_toInt (by omega)]
    omega
theorem jin_n {v : Int32} {n : Nat} (hn : n ≤ 8) (h : jin v 0 (nI n - 1) = true) : ∃ k, k < n ∧ v = nI k := by
  cases n with
  | zero =>
    exfalso
    unfold jin at h
    simp only [Bool.and_eq_true, decide_eq_true_eq] at h
    have h3 := Int32.le_trans h.1 h.2
    revert h3
    decide
  | succ m =>
    have e : nI (m + 1) - 1 = nI m := by rw [← nI_1]; grind
    rw [e] at h
    obtain ⟨j, hj, rfl⟩ := jin_of rfl (by omega) h
    exact ⟨j, by omega, rfl⟩
def jcellOf (s : Nat → Int32) (n : Nat) (c w : Int32) : Int32 := if jin c 0 99 = false then -1 else if w = 0 then s (tn c) else if w = 1 then jsin s n c else if w = 2 then jlon s (tn c) else if w = 3 then nI (jnr (tn c)) else -2
def jlightOf (s : Nat → Int32) (l w : Int32) : Int32 := if jin l 0 3 = false then -1 else if jin w 0 6 = false then -2 else if tn w < 5 then s (100 + 5 * tn l + tn w) else if tn w = 5 then jbm s (tn l) (s 181) else nI (jct (fun c => jlb s (tn l) c) 100)
def jkeeperOf (s : Nat → Int32) (l w : Int32) : Int32 := if jin l 0 3 = false then -1 else if jin w 0 4 = false then -2 else s (120 + 5 * tn l + tn w)
def jshipOf (s : Nat → Int32) (n : Nat) (k w : Int32) : Int32 := if jin k 0 (s 180 - 1) = false then -1 else if jin w 0 6 = false then -2 else if tn w < 5 then s (140 + 5 * tn k + tn w) else if tn w = 5 then jds (tn (s (140 + 5 * tn k + 1))) (tn (s (140 + 5 * tn k + 2))) else if s (140 + 5 * tn k + 3) = 0 then nI (jrk s n (tn k)) else -5
def jisLit (s : Nat → Int32) (l c h w : Int32) : Int32 := if jin l 0 3 = false ∨ jin c 0 99 = false then -1 else if jin h 0 20000 = false ∨ jin w 0 1 = false then -2 else bi (jlit s (tn l) (tn c) h (s (100 + 5 * tn l + 4)))
def jwhy1 (s : Nat → Int32) (l c : Nat) : Int32 := if jwd l c = -5 then 0 else if jdk s l (jwd l c) = true then 1 else if s (100 + 5 * l + 2) < jds (jhm l) c then 2 else if s (100 + 5 * l + 2) - s (100 + 5 * l + 4) < jds (jhm l) c then 3 else if jwd l c = jbm s l (s 181) then 0 else 4
def jwhy (s : Nat → Int32) (l c : Int32) : Int32 := if jin l 0 3 = false ∨ jin c 0 99 = false then -1 else jwhy1 s (tn l) (tn c)
def jlitc (s : Nat → Int32) (b : Bool) : Nat := jct (fun c => decide (¬ jlon s c = 0) && (!b || decide (s c = 1))) 100
def jcount (s : Nat → Int32) (n : Nat) (np len : Int32) (w : Int32) : Int32 :=
  if w = 0 then s 181 else if w = 1 then jsm s 100 else if w = 2 then s 180 else if w = 3 then nI (jpc 8 (jset (jst s 0) n)) else if w = 4 then nI (jpc 8 (jset (jst s 1) n)) else if w = 5 then nI (jpc 8 (jset (jst s 2) n))
  else if w = 6 then nI (jlitc s true) else if w = 7 then nI (jlitc s false) else if w = 8 then jsm (fun l => s (120 + 5 * l + 1)) 4 else if w = 9 then jsm (fun l => s (120 + 5 * l + 4)) 4 else if w = 10 then jworth s (jst s 1) n else if w = 11 then np else if w = 12 then len else if w = 13 then s 182 else -2
def jsh (s : Nat → Int32) (c : Nat) : Nat := jct (fun j => jlt s c (nI j) 0) 8
def jshare (s : Nat → Int32) (c : Int32) : UInt32 := if jin c 0 99 = false then 3212836864 else FP.fdiv (FP.i2f (nI (jsh s (tn c)))) 1090519040
theorem jsh_n0 : ∀ k, k ≤ 8 → (FP.fdiv (FP.i2f (nI k)) 1090519040) &&& 0x7fffffff ≤ 0x7f800000 := by decide +kernel
theorem jsh_n (k : Nat) (h : k ≤ 8) : vf_n32 (FP.fdiv (FP.i2f (nI k)) 1090519040) := jsh_n0 k h
def jlitIn (s : Nat → Int32) (c : Int32) : Int32 := if jin c 0 99 = false then -1 else jfind (fun j => jlt s (tn c) (nI j) (nI j)) 0 41
