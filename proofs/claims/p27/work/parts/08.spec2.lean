/-! searching, counting, sets of bits -/
def jfind (p : Nat → Bool) : Nat → Nat → Int32
  | _, 0 => -5
  | k, m + 1 => if p k then nI k else jfind p (k + 1) m
def jct (p : Nat → Bool) : Nat → Nat
  | 0 => 0
  | n + 1 => jct p n + (if p n then 1 else 0)
def jset (p : Nat → Bool) : Nat → Nat
  | 0 => 0
  | n + 1 => jset p n + (if p n then 2 ^ n else 0)
def jany (p : Nat → Bool) : Nat → Bool
  | 0 => false
  | n + 1 => jany p n || p n
def jpc : Nat → Nat → Nat
  | 0, _ => 0
  | f + 1, m => m % 2 + jpc f (m / 2)
theorem jset_lt (p : Nat → Bool) : ∀ n, jset p n < 2 ^ n
  | 0 => by show 0 < 1; omega
  | n + 1 => by
    have h := jset_lt p n
    have e : 2 ^ (n + 1) = 2 ^ n + 2 ^ n := by rw [Nat.pow_succ]; omega
    show jset p n + (if p n then 2 ^ n else 0) < _
    rw [e]
    split <;> omega
theorem jct_le (p : Nat → Bool) : ∀ n, jct p n ≤ n
  | 0 => Nat.le_refl 0
  | n + 1 => by
    have h := jct_le p n
    show jct p n + (if p n then 1 else 0) ≤ n + 1
    split <;> omega
theorem jb_shl : ∀ k, k < 8 → (1 : Int32) <<< (nI k &&& 31) = nI (2 ^ k) := by decide +kernel
theorem jb_or : ∀ k, k < 8 → ∀ a, a < 2 ^ k → nI a ||| nI (2 ^ k) = nI (a + 2 ^ k) := by decide +kernel
theorem jb_bit : ∀ m, m < 256 → ∀ k, k < 8 → (nI m >>> (nI k &&& 31)) &&& 1 = if m.testBit k then 1 else 0 := by decide +kernel
theorem jb_shr1 {m : Nat} (h : m < 256) : nI m >>> ((1 : Int32) &&& 31) = nI (m / 2) := pk_shrN (by omega) _ 1 (by decide)
theorem jb_and1 : ∀ m, m < 256 → nI m &&& 1 = nI (m % 2) := by decide +kernel
theorem jb_andnot : ∀ a, a < 256 → ∀ b, b < 256 → nI a &&& (nI b ^^^ (-1)) = nI (a &&& (255 - b)) := by decide +kernel
theorem jset_256 (p : Nat → Bool) {n : Nat} (h : n ≤ 8) : jset p n < 256 := Nat.lt_of_lt_of_le (jset_lt p n) (Nat.pow_le_pow_right (by omega) h : 2 ^ n ≤ 2 ^ 8)
theorem jset_bit (p : Nat → Bool) : ∀ n k, (jset p n).testBit k = (decide (k < n) && p k)
  | 0, k => by simp [jset]
  | n + 1, k => by
    have h := jset_lt p n
    have ih := jset_bit p n k
    show (jset p n + (if p n then 2 ^ n else 0)).testBit k = _
    by_cases hp : p n = true
    · rw [if_pos hp, Nat.add_comm]
      by_cases hk : k = n
      · subst hk
        rw [Nat.testBit_two_pow_add_eq, ih]
        simp [hp]
      · by_cases hlt : k < n
        · rw [Nat.testBit_two_pow_add_gt hlt, ih]
          simp [hlt, Nat.lt_succ_of_lt hlt]
        · have hz : (2 ^ n + jset p n) < 2 ^ k := by
            have : 2 ^ (n + 1) ≤ 2 ^ k := Nat.pow_le_pow_right (by omega) (by omega)
            rw [Nat.pow_succ] at this
            omega
          rw [Nat.testBit_lt_two_pow hz]
          have : ¬ k < n + 1 := by omega
          simp [this]
    · have hp' : p n = false := by simpa using hp
      rw [hp', if_neg (by decide), Nat.add_zero, ih]
      by_cases hk : k = n
      · subst hk
        simp [hp']
      · have : (k < n) ↔ (k < n + 1) := by omega
        simp [this]
theorem jset_cong {p q : Nat → Bool} : ∀ {n : Nat}, (∀ k, k < n → p k = q k) → jset p n = jset q n
  | 0, _ => rfl
  | n + 1, h => by
    show jset p n + _ = jset q n + _
    rw [jset_cong (fun k hk => h k (Nat.lt_succ_of_lt hk)), h n (Nat.lt_succ_self n)]
theorem jct_cong {p q : Nat → Bool} : ∀ {n : Nat}, (∀ k, k < n → p k = q k) → jct p n = jct q n
  | 0, _ => rfl
  | n + 1, h => by
    show jct p n + _ = jct q n + _
    rw [jct_cong (fun k hk => h k (Nat.lt_succ_of_lt hk)), h n (Nat.lt_succ_self n)]
theorem jsm_cong {p q : Nat → Int32} : ∀ {n : Nat}, (∀ k, k < n → p k = q k) → jsm p n = jsm q n
  | 0, _ => rfl
  | n + 1, h => by
    show jsm p n + _ = jsm q n + _
    rw [jsm_cong (fun k hk => h k (Nat.lt_succ_of_lt hk)), h n (Nat.lt_succ_self n)]
theorem jset_andnot (p q : Nat → Bool) {n : Nat} (hn : n ≤ 8) : nI (jset p n) &&& (nI (jset q n) ^^^ (-1)) = nI (jset (fun k => p k && !q k) n) := by
  rw [jb_andnot _ (jset_256 p hn) _ (jset_256 q hn)]
  refine congrArg nI (Nat.eq_of_testBit_eq fun k => ?_)
  have e : 255 - jset q n = 2 ^ 8 - (jset q n + 1) := by have := jset_256 q hn; omega
  rw [Nat.testBit_and, e, Nat.testBit_two_pow_sub_succ (jset_256 q hn), jset_bit, jset_bit, jset_bit]
  by_cases hk : k < n
  · have : k < 8 := by omega
    simp [hk, this]
  · simp [hk]
theorem jset_orstep (p : Nat → Bool) {k : Nat} (hk : k < 8) : nI (jset p k) ||| ((1 : Int32) <<< (nI k &&& 31)) = nI (jset p k + 2 ^ k) := by
  rw [jb_shl k hk, jb_or k hk _ (jset_lt p k)]
def jhome (v : Int32) : Bool := decide (v = 22) || decide (v = 27) || decide (v = 72) || decide (v = 77)
def jbr (v : Int32) : Int32 := if jin v 0 99 then (if jhome v then -4 else 0) else -1
def jfit (what v : Int32) : Bool := if what = 0 then jin v 0 7 else if what = 1 then jin v 1 3 else if what = 2 then jin v 1 9 else decide (what = 3) && jin v 0 255
def tn (x : Int32) : Nat := x.toNatClampNeg
theorem tn_nI {n : Nat} (h : n < 2 ^ 31) : tn (nI n) = n := nI_clamp h
def jsin (s : Nat → Int32) (n : Nat) (c : Int32) : Int32 := jfind (fun k => decide (s (140 + 5 * k + 3) = 0) && decide (s (140 + 5 * k + 1) = c)) 0 n
def jbs (s : Nat → Int32) (n : Nat) (w c h : Int32) : Int32 :=
  if !(jin c 0 99 && jin h 0 99) then -1 else if !jin w 1 99 then -2
  else if c = h ∨ ¬ s (tn c) = 0 ∨ ¬ s (tn h) = 0 ∨ ¬ jsin s n c = -5 then -4 else if s 180 = 8 then -3 else 0
def jtw (a b : Int32) : Int32 := if a < b then 1 else if b < a then -1 else 0
def jbef (s : Nat → Int32) (j k : Nat) : Bool := decide (s (140 + 5 * j + 3) = 0) && (decide (0 < s (140 + 5 * j + 0) - s (140 + 5 * k + 0)) || (decide (s (140 + 5 * j + 0) - s (140 + 5 * k + 0) = 0) && decide (j < k)))
def jrk (s : Nat → Int32) (n k : Nat) : Nat := jct (fun j => jbef s j k) n
def jst (s : Nat → Int32) (v : Int32) (k : Nat) : Bool := decide (s (140 + 5 * k + 3) = v)
def jbp (s : Nat → Int32) (v : Int32) : Int32 := if !jin v 1 20 then -2 else if 9999 < s 181 + v then -3 else 0
def jcl (s : Nat → Int32) (k l : Nat) : Bool := decide (k ≠ l) && decide (0 < s (120 + 5 * k + 2)) && decide (s (100 + 5 * l + 4) < 9)
def jmx (x : Int32) : Int32 := if 0 ≤ x then x else 0
def jlt (s : Nat → Int32) (c : Nat) (h less : Int32) : Bool := jany (fun l => jlit s l c (s 181 + h) (jmx (s (100 + 5 * l + 4) - less))) 4
def jworth (s : Nat → Int32) (p : Nat → Bool) (n : Nat) : Int32 := jsm (fun k => if p k then s (140 + 5 * k + 0) else 0) n
theorem jfind_hit {p : Nat → Bool} {j n : Nat} (h : j < n) (hp : p j = true) : jfind p j (n - j) = nI j := by
  rw [show n - j = (n - (j + 1)) + 1 by omega]
  show (if p j then nI j else _) = _
  rw [if_pos hp]
theorem jfind_miss {p : Nat → Bool} {j n : Nat} (h : j < n) (hp : p j = false) : jfind p j (n - j) = jfind p (j + 1) (n - (j + 1)) := by
  rw [show n - j = (n - (j + 1)) + 1 by omega]
  show (if p j then nI j else _) = _
  rw [if_neg (by rw [hp]; decide)]
theorem jfind_end {p : Nat → Bool} {n : Nat} : jfind p n (n - n) = -5 := by rw [Nat.sub_self]; rfl
theorem jct_t {p : Nat → Bool} {j : Nat} (h : p j = true) : nI (jct p j) + 1 = nI (jct p (j + 1)) := by
  show _ = nI (jct p j + (if p j then 1 else 0))
  rw [if_pos h, ← nI_1]
theorem jct_f {p : Nat → Bool} {j : Nat} (h : p j = false) : nI (jct p j) + 0 = nI (jct p (j + 1)) := by
  show _ = nI (jct p j + (if p j then 1 else 0))
  rw [if_neg (by rw [h]; decide)]
  simp
theorem jset_t {p : Nat → Bool} {j : Nat} (hj : j < 8) (h : p j = true) : nI (jset p j) ||| ((1 : Int32) <<< (nI j &&& 31)) = nI (jset p (j + 1)) := by
  rw [jset_orstep p hj]
  show _ = nI (jset p j + (if p j then 2 ^ j else 0))
  rw [if_pos h]
theorem jset_f {p : Nat → Bool} {j : Nat} (h : p j = false) : nI (jset p j) ||| 0 = nI (jset p (j + 1)) := by
  show _ = nI (jset p j + (if p j then 2 ^ j else 0))
  rw [if_neg (by rw [h]; decide)]
  simp
theorem jpc_0 : ∀ f, jpc f 0 = 0
  | 0 => rfl
  | f + 1 => by show 0 % 2 + jpc f (0 / 2) = 0; rw [jpc_0 f]
theorem jworth_step {p : Nat → Bool} {n j : Nat} (hn : n ≤ 8) (hj : j < n) (w : Int32) : ((nI (jset p n) >>> (nI j &&& 31)) &&& 1) * w = if p j then w else 0 := by
  rw [jb_bit _ (jset_256 p hn) j (by omega), jset_bit]
  by_cases h : p j = true
  · simp [h, hj]
  · simp [h]
theorem bi_eq {b : Bool} {x : Int32} (h : x = bi b) : (x = 0 ↔ b = false) ∧ (¬ x = 0 ↔ b = true) := by subst h; exact ⟨bi_0, bi_n0⟩
