/-! the text read: a place and whether a fault was met -/
abbrev JX := Nat × Bool
section TX
variable (t : Nat → Int32) (len : Nat)
def jnxt (p : Nat) : Int32 := if p < len then t p else -1
def jsg (c : Int32) (x : JX) : JX := if x.2 = true ∨ ¬ jnxt t len x.1 = c then (x.1, true) else (x.1 + 1, false)
def jdg (lo hi : Int32) (x : JX) : JX := if x.2 = true ∨ jin (jnxt t len x.1 - 48) lo hi = false then (x.1, true) else (x.1 + 1, false)
def jdv (x : JX) : Int32 := jnxt t len x.1 - 48
def jcs (x : JX) : JX := jdg t len 0 9 (jdg t len 0 9 x)
def jcv (x : JX) : Int32 := 10 * jdv t len (jdg t len 0 9 x) + jdv t len x
def jn2 (most : Int32) (x : JX) : Bool := !(jdg t len 1 9 x).2 && jin (jnxt t len (jdg t len 1 9 x).1) 48 57 && decide (10 * jdv t len x + jnxt t len (jdg t len 1 9 x).1 - 48 ≤ most)
def jns (most : Int32) (x : JX) : JX := if jn2 t len most x = true then ((jdg t len 1 9 x).1 + 1, (jdg t len 1 9 x).2) else jdg t len 1 9 x
def jnv (most : Int32) (x : JX) : Int32 := if jn2 t len most x = true then 10 * jdv t len x + jnxt t len (jdg t len 1 9 x).1 - 48 else jdv t len x
def jpl (x : JX) : Int32 := if x.2 = true then -1 else jnxt t len x.1
def jp1 (x : JX) : JX := if x.2 = true ∨ (¬ jpl t len x = 114 ∧ ¬ jpl t len x = 115 ∧ ¬ jpl t len x = 100 ∧ ¬ jpl t len x = 104) then (x.1, true) else (x.1 + 1, false)
def jqx (l : Int32) (x : JX) : JX := if l = 114 then jcs t len x else if l = 115 then jcs t len (jsg t len 62 (jcs t len (jsg t len 58 (jns t len 99 x)))) else if l = 100 then jdg t len 0 7 (jdg t len 0 3 x) else jns t len 20 x
def jqa (l : Int32) (x : JX) : Int32 := if l = 114 then jcv t len x else if l = 115 then jnv t len 99 x else if l = 100 then jdv t len x else jnv t len 20 x
def jqb (l : Int32) (x : JX) (b : Int32) : Int32 := if l = 114 then b else if l = 115 then jcv t len (jsg t len 58 (jns t len 99 x)) else if l = 100 then jdv t len (jdg t len 0 3 x) else b
def jqc (l : Int32) (x : JX) (c : Int32) : Int32 := if l = 115 then jcv t len (jsg t len 62 (jcs t len (jsg t len 58 (jns t len 99 x)))) else c
def jpx (x : JX) : JX := jqx t len (jpl t len x) (jp1 t len x)
def jpa (x : JX) : Int32 := jqa t len (jpl t len x) (jp1 t len x)
def jpb (x : JX) (b : Int32) : Int32 := jqb t len (jpl t len x) (jp1 t len x) b
def jpd (x : JX) (c : Int32) : Int32 := jqc t len (jpl t len x) (jp1 t len x) c
end TX
section TL
variable {t : Nat → Int32} {len : Nat} {x : JX}
theorem jsg_le {c : Int32} (hc : c ≠ -1) (h : x.1 ≤ len) : (jsg t len c x).1 ≤ len := by
  unfold jsg
  split
  · exact h
  · rename_i h1
    show x.1 + 1 ≤ len
    rcases Nat.lt_or_ge x.1 len with h2 | h2
    · exact h2
    · exact absurd (Or.inr (by unfold jnxt; rw [if_neg (by omega)]; exact fun e => hc e.symm)) h1
theorem jnxt_end {p : Nat} (h : ¬ p < len) : jnxt t len p = -1 := if_neg h
theorem jin_neg {lo hi : Int32} (h0 : 0 ≤ lo) : jin (-1 - 48) lo hi = false := by
  cases e : jin (-1 - 48) lo hi
  · rfl
  · unfold jin at e
    simp only [Bool.and_eq_true, decide_eq_true_eq] at e
    exact absurd (Int32.le_trans h0 e.1) (by decide)
theorem jdg_le {lo hi : Int32} (h0 : 0 ≤ lo) (h : x.1 ≤ len) : (jdg t len lo hi x).1 ≤ len := by
  unfold jdg
  split
  · exact h
  · rename_i h1
    show x.1 + 1 ≤ len
    rcases Nat.lt_or_ge x.1 len with h2 | h2
    · exact h2
    · exact absurd (Or.inr (by rw [jnxt_end (by omega)]; exact jin_neg h0)) h1
theorem jcs_le (h : x.1 ≤ len) : (jcs t len x).1 ≤ len := jdg_le (by decide) (jdg_le (by decide) h)
theorem jns_le {m : Int32} (h : x.1 ≤ len) : (jns t len m x).1 ≤ len := by
  have h1 : (jdg t len 1 9 x).1 ≤ len := jdg_le (by decide) h
  unfold jns
  split
  · rename_i h2
    show (jdg t len 1 9 x).1 + 1 ≤ len
    rcases Nat.lt_or_ge (jdg t len 1 9 x).1 len with h3 | h3
    · exact h3
    · exfalso
      unfold jn2 at h2
      rw [jnxt_end (by omega)] at h2
      simp only [Bool.and_eq_true] at h2
      exact absurd h2.1.2 (by decide)
  · exact h1
theorem jp1_le (h : x.1 ≤ len) : (jp1 t len x).1 ≤ len := by
  unfold jp1
  split
  · exact h
  · rename_i h1
    show x.1 + 1 ≤ len
    rcases Nat.lt_or_ge x.1 len with h2 | h2
    · exact h2
    · refine absurd ?_ h1
      by_cases e : x.2 = true
      · exact Or.inl e
      · refine Or.inr ?_
        have e1 : jpl t len x = -1 := by unfold jpl; rw [if_neg e, jnxt_end (by omega)]
        rw [e1]
        decide
theorem jqx_le {l : Int32} (h : x.1 ≤ len) : (jqx t len l x).1 ≤ len := by
  unfold jqx
  split
  · exact jcs_le h
  · split
    · exact jcs_le (jsg_le (by decide) (jcs_le (jsg_le (by decide) (jns_le h))))
    · split
      · exact jdg_le (by decide) (jdg_le (by decide) h)
      · exact jns_le h
theorem jpx_le (h : x.1 ≤ len) : (jpx t len x).1 ≤ len := jqx_le (jp1_le h)
end TL
def jff (f : Nat → Int32) (x : JX) (l u v w : Int32) : Nat → Int32 := fun i => if i = 9 then nI x.1 else if i = 10 then bi x.2 else if i = 11 then l else if i = 12 then u else if i = 13 then v else if i = 14 then w else f i
section FF
variable {f : Nat → Int32} {x : JX} {l u v w y : Int32}
theorem jff9 : jff f x l u v w 9 = nI x.1 := rfl
theorem jff10 : jff f x l u v w 10 = bi x.2 := rfl
theorem jff11 : jff f x l u v w 11 = l := rfl
theorem jff12 : jff f x l u v w 12 = u := rfl
theorem jff13 : jff f x l u v w 13 = v := rfl
theorem jff14 : jff f x l u v w 14 = w := rfl
theorem jff7 : jff f x l u v w 7 = f 7 := rfl
theorem jff3 : jff f x l u v w 3 = f 3 := rfl
theorem jff_9 {k : Nat} : upd (jff f x l u v w) 9 (nI k) = jff f (k, x.2) l u v w := by funext i; unfold upd jff; grind
theorem jff_9a : upd (jff f x l u v w) 9 (nI x.1 + 0) = jff f x l u v w := by rw [Int32.add_zero]; exact jff_9
theorem jff_9b : upd (jff f x l u v w) 9 (nI x.1 + 1) = jff f (x.1 + 1, x.2) l u v w := by rw [nI_1]; exact jff_9
theorem jff_10 {b : Bool} : upd (jff f x l u v w) 10 (bi b) = jff f (x.1, b) l u v w := by funext i; unfold upd jff; grind
theorem jff_10t : upd (jff f x l u v w) 10 1 = jff f (x.1, true) l u v w := jff_10 (b := true)
theorem jff_10f : upd (jff f x l u v w) 10 0 = jff f (x.1, false) l u v w := jff_10 (b := false)
theorem jff_11 : upd (jff f x l u v w) 11 y = jff f x y u v w := by funext i; unfold upd jff; grind
theorem jff_12 : upd (jff f x l u v w) 12 y = jff f x l y v w := by funext i; unfold upd jff; grind
theorem jff_13 : upd (jff f x l u v w) 13 y = jff f x l u y w := by funext i; unfold upd jff; grind
theorem jff_14 : upd (jff f x l u v w) 14 y = jff f x l u v y := by funext i; unfold upd jff; grind
theorem jff_00 : upd (upd f 9 0) 10 0 = jff f (0, false) (f 11) (f 12) (f 13) (f 14) := by
  funext i
  unfold upd jff
  have h0 : nI 0 = 0 := rfl
  have h1 : bi false = 0 := rfl
  grind
theorem jff_u {k : Nat} (h : k < 9) : upd (jff f x l u v w) k y = jff (upd f k y) x l u v w := by funext i; unfold upd jff; grind
end FF
theorem lk_def {x : Int32} (h1 : x ≠ 100) (h2 : x ≠ 114) (h3 : x ≠ 115) (o1 o2 o3 d : Int) : Op.lookupswitch.offset [(100, o1), (114, o2), (115, o3)] d x.toInt = d := by
  have e : ∀ k : Int32, x ≠ k → ¬ k.toInt = x.toInt := fun k hk q => hk (Int32.toInt_inj.mp q.symm)
  have e1 : ¬ (100 : Int) = x.toInt := e 100 h1
  have e2 : ¬ (114 : Int) = x.toInt := e 114 h2
  have e3 : ¬ (115 : Int) = x.toInt := e 115 h3
  show (if (100 : Int) = x.toInt then _ else if (114 : Int) = x.toInt then _ else if (115 : Int) = x.toInt then _ else _) = _
  rw [if_neg e1, if_neg e2, if_neg e3]
  rfl
