/-! the class's own tables and small objects -/
def cw2 (dx dy : Int32) : Int32 :=
  if jsz dx = 0 ∧ jsz dy = 0 then -1
  else if 2 * jsz dy ≤ jsz dx then (if 0 < dx then 0 else 4)
  else if 2 * jsz dx ≤ jsz dy then (if 0 < dy then 2 else 6)
  else if 0 < dy then (if 0 < dx then 1 else 3) else (if 0 < dx then 7 else 5)
def cwd (l c : Nat) : Int32 := cw2 (jea (jhm l) c) (jso (jhm l) c)
theorem cwd_own : ∀ l, l < 4 → ∀ c, c < 100 → (jwd l c = -5 ↔ c = jhm l) := by decide +kernel
theorem cwd_eq : ∀ l, l < 4 → ∀ c, c < 100 → c ≠ jhm l → cwd l c = jwd l c := by decide +kernel
def cds (l c : Nat) : Int32 := jds (jhm l) c
theorem i32_and1 (x : Int32) : x &&& 1 = 0 ∨ x &&& 1 = 1 := by
  have e : (x &&& 1).toBitVec = BitVec.setWidth 32 (BitVec.ofBool (x.toBitVec.getLsbD 0)) := by
    show x.toBitVec &&& 1#32 = _
    exact BitVec.and_one_eq_setWidth_ofBool_getLsbD
  cases h : x.toBitVec.getLsbD 0
  · rw [h] at e
    exact Or.inl (Int32.toBitVec_inj.mp (e.trans (by decide)))
  · rw [h] at e
    exact Or.inr (Int32.toBitVec_inj.mp (e.trans (by decide)))
theorem jdk_n {s : Nat → Int32} {l : Nat} {w : Int32} : (¬ (s (100 + 5 * l + 3) >>> (w &&& 31)) &&& 1 = 0) ↔ jdk s l w = true := by
  unfold jdk
  rw [decide_eq_true_eq]
  rcases i32_and1 (s (100 + 5 * l + 3) >>> (w &&& 31)) with e | e
  · rw [e]; decide
  · rw [e]; decide
def crch (s : Nat → Int32) (l : Nat) (th : Int32) : Int32 := if th < s (100 + 5 * l + 4) then s (100 + 5 * l + 2) - (s (100 + 5 * l + 4) - th) else s (100 + 5 * l + 2)
theorem crch_eq {s : Nat → Int32} {l g h : Nat} (hg : s (100 + 5 * l + 4) = nI g) (h1 : g < 1000) (h2 : h < 1000) : crch s l (nI h) = s (100 + 5 * l + 2) - jmx (s (100 + 5 * l + 4) - nI h) := by
  unfold crch jmx
  rw [hg]
  have e1 : (nI h < nI g) ↔ h < g := by rw [Int32.lt_iff_toInt_lt, nI_toInt (by omega), nI_toInt (by omega)]; omega
  have e2 : (0 ≤ nI g - nI h) ↔ h ≤ g := by
    rw [Int32.le_iff_toInt_le, pk_sub_toInt (by omega) (by omega)]
    have : (0 : Int32).toInt = 0 := rfl
    omega
  by_cases a : h < g
  · rw [if_pos (e1.mpr a), if_pos (e2.mpr (by omega))]
  · rw [if_neg (fun z => a (e1.mp z))]
    by_cases b : h = g
    · subst b
      rw [if_pos (e2.mpr (Nat.le_refl _)), Int32.sub_self, Int32.sub_zero]
    · rw [if_neg (fun z => b (by have := e2.mp z; omega)), Int32.sub_zero]
def clit (s : Nat → Int32) (l c : Nat) (hr th : Int32) : Bool := decide (c = jhm l) || (decide (cwd l c = jbm s l hr) && decide (cds l c ≤ crch s l th) && !jdk s l (cwd l c))
theorem clit_eq {s : Nat → Int32} {l c g h : Nat} {hr : Int32} (hl : l < 4) (hc : c < 100) (hg : s (100 + 5 * l + 4) = nI g) (h1 : g < 1000) (h2 : h < 1000) : clit s l c hr (nI h) = jlit s l c hr (jmx (s (100 + 5 * l + 4) - nI h)) := by
  unfold clit jlit
  rw [crch_eq hg h1 h2]
  have e := cwd_own l hl c hc
  by_cases z : c = jhm l
  · simp [z, e.mpr z, e]
    left
    subst z
    exact e.mpr rfl
  · rw [cwd_eq l hl c hc z]
    have z2 : ¬ jwd l c = -5 := fun q => z (e.mp q)
    unfold cds
    simp only [z, z2, decide_false, Bool.false_or]
    rw [Bool.and_assoc, Bool.and_assoc, Bool.and_comm (decide _) (!_)]
def cmin (x y : Int32) : Int32 := if y < x then y else x
def cmax (x y : Int32) : Int32 := if x < y then y else x
def ccmp (x y : Int32) : Int32 := if y ≤ x then (if x = y then 0 else 1) else -1
theorem ccmp_tw (x y : Int32) : ccmp y x = jtw x y := by unfold ccmp jtw; grind
def ltF (B : Nat) (s : Nat → Int32) (i : Nat) : List Value := [.int (nI (jhm i)), .ref (B + 2 + i), .ref (B + 7 + i), .int (s (100 + 5 * i + 0)), .int (s (100 + 5 * i + 1)), .int (s (100 + 5 * i + 2)), .int (s (100 + 5 * i + 3)), .int (s (100 + 5 * i + 4))]
def kpF (s : Nat → Int32) (i : Nat) : List Value := [.int (s (120 + 5 * i + 0)), .int (s (120 + 5 * i + 1)), .int (s (120 + 5 * i + 2)), .int (s (120 + 5 * i + 3)), .int (s (120 + 5 * i + 4))]
/-- a ship: its condition stands in go 8 + i (-1 before it has come), whether it has gone in go i -/
def shF (s go : Nat → Int32) (i : Nat) : List Value := [.int (s (140 + 5 * i + 0)), .int (s (140 + 5 * i + 1)), .int (s (140 + 5 * i + 2)), .int (go (8 + i)), .int (s (140 + 5 * i + 4)), .int (go i)]
