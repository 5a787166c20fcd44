/-! the walk over the rings of a light -/
def ceo (a b : Int32) : Int32 := cmax (-a) (cmin a (jsz (cfm b (8 * a) - 4 * a) - 2 * a))
def crg (l : Nat) (a b : Int32) : Int32 := if nI (jhm l % 10) + ceo a b < 0 ∨ 10 ≤ nI (jhm l % 10) + ceo a b ∨ nI (jhm l / 10) + ceo a (b - 2 * a) < 0 ∨ 10 ≤ nI (jhm l / 10) + ceo a (b - 2 * a) then -5 else 10 * (nI (jhm l / 10) + ceo a (b - 2 * a)) + (nI (jhm l % 10) + ceo a b)
def chf (w r : Nat) : Nat := if w % 2 = 0 then r / 2 else (r - 1) / 2
def cst (w r o : Nat) : Int32 := nI (w * r) - nI (chf w r) + nI o
theorem chf_le {w r : Nat} (h : r ≤ 9) : chf w r ≤ 4 := by
  unfold chf
  split <;> omega
theorem cst_lt : ∀ w, w < 8 → ∀ r, r < 10 → ∀ o, o < 11 → (nI (w * r) + nI (chf w r) < cst w r o ↔ 2 * chf w r < o) := by decide +kernel
def cok (l w r o : Nat) : Bool := decide (2 * chf w r < o) || (decide (crg l (nI r) (cst w r o) = -5) || (decide (crg l (nI r) (cst w r o) = nI (tn (crg l (nI r) (cst w r o)))) && decide (tn (crg l (nI r) (cst w r o)) < 100) && decide (cwd l (tn (crg l (nI r) (cst w r o))) = nI w) && decide (cds l (tn (crg l (nI r) (cst w r o))) = nI r)))
theorem cok_all : ∀ l, l < 4 → ∀ w, w < 8 → ∀ r, r < 10 → r = 0 ∨ ∀ o, o < 9 → cok l w r o = true := by decide +kernel
theorem crg_ok {l w r o c : Nat} (hl : l < 4) (hw : w < 8) (hr : 1 ≤ r) (hr9 : r ≤ 9) (ho : o ≤ 2 * chf w r) (hc : c < 100) (e : crg l (nI r) (cst w r o) = nI c) : cwd l c = nI w ∧ cds l c = nI r := by
  have h4 := chf_le (w := w) hr9
  have h := ((cok_all l hl w hw r (by omega)).resolve_left (by omega)) o (by omega)
  unfold cok at h
  rw [e, decide_eq_false (by omega : ¬ 2 * chf w r < o), tn_nI (by omega)] at h
  simp only [Bool.false_or, Bool.or_eq_true, Bool.and_eq_true, decide_eq_true_eq] at h
  rcases h with h | h
  · exfalso
    have h2 : (0 : Int32) ≤ nI c := nI_pos' (by omega)
    rw [h] at h2
    exact absurd h2 (by decide)
  · exact ⟨h.1.2, h.2⟩
def chx (l c w r : Nat) : Bool := (List.range 9).any (fun o => decide (o ≤ 2 * chf w r) && decide (crg l (nI r) (cst w r o) = nI c))
theorem chx_all : ∀ l, l < 4 → ∀ c, c < 100 → c = jhm l ∨ (tn (cwd l c) < 8 ∧ 1 ≤ tn (cds l c) ∧ tn (cds l c) ≤ 9 ∧ cwd l c = nI (tn (cwd l c)) ∧ cds l c = nI (tn (cds l c)) ∧ chx l c (tn (cwd l c)) (tn (cds l c)) = true) := by decide +kernel
theorem cnear {l c : Nat} (hl : l < 4) (hc : c < 100) (hn : c ≠ jhm l) : ∃ w r, w < 8 ∧ 1 ≤ r ∧ r ≤ 9 ∧ cwd l c = nI w ∧ cds l c = nI r ∧ ∃ o, o ≤ 2 * chf w r ∧ crg l (nI r) (cst w r o) = nI c := by
  obtain ⟨h1, h2, h3, h4, h5, h6⟩ := (chx_all l hl c hc).resolve_left hn
  obtain ⟨o, -, ho⟩ := List.any_eq_true.mp h6
  simp only [Bool.and_eq_true, decide_eq_true_eq] at ho
  exact ⟨_, _, h1, h2, h3, h4, h5, o, ho.1, ho.2⟩
theorem nI_mul (a b : Nat) : nI a * nI b = nI (a * b) := (Int32.ofNat_mul a b).symm
theorem jbm_n {s : Nat → Int32} {l h : Nat} (hf : jlf s) (hl : l < 4) (hh : h ≤ 20000) : ∃ w, w < 8 ∧ jbm s l (nI h) = nI w := by
  obtain ⟨⟨v, hv, e0⟩, ⟨p, hp, e1⟩, -, -⟩ := hf l hl
  refine ⟨(v + h * p) % 8, Nat.mod_lt _ (by decide), ?_⟩
  have hb : h * p ≤ 20000 * 3 := Nat.mul_le_mul hh hp
  unfold jbm
  rw [e0, e1, nI_mul, nI_add]
  exact pk_rem (a := v + h * p) (d := 8) (by omega) (by omega) (by omega)
theorem crch_9 {s : Nat → Int32} {l : Nat} (hf : jlf s) (hl : l < 4) : crch s l 0 ≤ 9 := by
  obtain ⟨-, -, ⟨v, hv, e2⟩, ⟨g, hg, e4⟩⟩ := hf l hl
  have e := crch_eq (h := 0) e4 (by omega) (by omega)
  rw [show nI 0 = (0 : Int32) from rfl] at e
  rw [e, e4, e2]
  have hfin : ∀ v, v < 10 → ∀ g, g < 10 → nI v - jmx (nI g - 0) ≤ 9 := by decide +kernel
  exact hfin v (by omega) g (by omega)
theorem cst_0 (w r : Nat) : cst w r 0 = nI (w * r) - nI (chf w r) := by
  unfold cst
  rw [show nI 0 = (0 : Int32) from rfl, Int32.add_zero]
theorem cst_1 (w r o : Nat) : cst w r o + 1 = cst w r (o + 1) := by
  unfold cst
  rw [← nI_1, Int32.add_assoc]
