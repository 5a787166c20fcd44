/-! the reference, new -/
def ji0 : Nat → Nat → Int32
  | 0 => fun _ => 0
  | l + 1 => upd (upd (upd (upd (ji0 l) (100 + 5 * l + 0) (nI l)) (100 + 5 * l + 1) 1) (100 + 5 * l + 2) 5) (120 + 5 * l + 2) 3
def jS0 : Nat → Int32 := upd (ji0 4) 182 2
def jz : Nat → Int32 := fun _ => 0
abbrev mD : List Value := [.null, .null, .null, .int 0, .null, .int 0, .null, .int 0, .null, .int 0, .int 0, .int 0, .int 0, .int 0, .int 0]
def mQe (G : bkG) (k : Nat) : va_E := if k = 3 then aI G 732 jz else if k = 5 then aC G 60 jz else if k = 6 then aI G 8 jz else aI G 183 jz
def mQ (G : bkG) (M : bkM) (r : Nat) : Nat → bkM
  | 0 => M
  | k + 1 => bku (mQ G M r k) (r + (k + 1)) (mQe G (k + 1))
theorem bku_comm {M : bkM} {a b : Nat} {e g : va_E} (h : a ≠ b) : bku (bku M a e) b g = bku (bku M b g) a e := by
  funext x
  unfold bku
  by_cases h1 : x = b
  · subst h1; rw [if_pos rfl, if_neg (Ne.symm h), if_pos rfl]
  · rw [if_neg h1, if_neg h1]
theorem bku_bku {M : bkM} {a : Nat} {e g : va_E} : bku (bku M a e) a g = bku M a g := by
  funext x
  unfold bku
  by_cases h1 : x = a
  · rw [if_pos h1, if_pos h1]
  · rw [if_neg h1, if_neg h1, if_neg h1]
theorem mQ_W {G : bkG} {M : bkM} {r : Nat} : bku (mQ G M r 6) r (.inr (9, mF r jz)) = mW G M r jz jz jz jz jz jz jz := by
  funext x
  unfold mW
  by_cases h0 : x = r
  · simp [h0, bku]
  · by_cases h1 : x = r + 1
    · simp [h1, bku, mQ, mQe]
    · by_cases h2 : x = r + 2
      · simp [h2, bku, mQ, mQe]
      · by_cases h3 : x = r + 3
        · simp [h3, bku, mQ, mQe]
        · by_cases h4 : x = r + 4
          · simp [h4, bku, mQ, mQe]
          · by_cases h5 : x = r + 5
            · simp [h5, bku, mQ, mQe]
            · by_cases h6 : x = r + 6
              · simp [h6, bku, mQ, mQe]
              · simp [h0, h1, h2, h3, h4, h5, h6, bku, mQ, mQe]
