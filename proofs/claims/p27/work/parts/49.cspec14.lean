/-! the parts found -/
def cgd (t : Nat → Int32) (len : Nat) (x : JX) (f : Nat → Int32) : Prop := f 0 = jpl t len x ∧ pR (jpl t len x) (jpa t len x) (jpb t len x 0) (jpd t len x 0) (f 1) (f 2) (f 3) (f 4)
def cgs (t : Nat → Int32) (len : Nat) (L : List JX) (pf : Nat → Nat → Int32) : Prop := ∀ j (h : j < L.length), cgd t len L[j] (pf j)
theorem cgs_add {t : Nat → Int32} {len : Nat} {L : List JX} {pf : Nat → Nat → Int32} {x : JX} {f : Nat → Int32} (h : cgs t len L pf) (hx : cgd t len x f) : cgs t len (L ++ [x]) (pfu pf L.length f) := by
  intro j hj
  rw [List.length_append] at hj
  by_cases e : j < L.length
  · rw [List.getElem_append_left e, show pfu pf L.length f j = pf j from if_neg (by omega)]
    exact h j e
  · have e2 : j = L.length := by simp at hj; omega
    subst e2
    rw [pfu_at]
    simpa using hx
theorem jpx_end {t : Nat → Int32} {len p : Nat} (h : ¬ p < len) : jpx t len (p, false) = (p, true) := by
  have e := jnxt_end (t := t) h
  exact pl_miss (by rw [e]; decide) (by rw [e]; decide) (by rw [e]; decide) (by rw [e]; decide)
