/-! rows that this law wants: joins, floats, the script, a new array forgotten; two objects side by side -/
section LR
variable {E : bkEnv} {R : Room} {G : bkG} {Z : Nat → Prop} {k n : Nat} {M : bkM} {pc : Nat} {L : List (Option Value)} {st : List Value} {own : String} {cc : ByteArray} {nL : Nat} {ret : Option FieldType}
theorem bkV.join (T : Nat) {stT : List Value} (j : bkV E G Z k n M T L stT) (kk : bkV E G Z k n M T L stT → bkV E G Z k n M pc L st) : bkV E G Z k n M pc L st := kk j
theorem r_fcmp (X : bkX E G own cc nL ret R) {x y : UInt32} {op : CmpOp} (d : decode cc pc = .ok (.fcmp op, 1)) (kk : bkV E G Z k n M (pc + 1) L (.int (Op.cmpValue (FP.fcmp x y) op) :: st)) : bkV E G Z k n M pc L (.float y :: .float x :: st) := fun H locs ls h1 h2 h3 h4 => lv_fcmp X.1 X.2.1 d (kk H locs ls h1 h2 h3 h4)
theorem r_fconst0 (X : bkX E G own cc nL ret R) (d : decode cc pc = .ok (.fconst 0, 1)) (kk : bkV E G Z k n M (pc + 1) L (.float FP.fconst0 :: st)) : bkV E G Z k n M pc L st := fun H locs ls h1 h2 h3 h4 => lv_fconst0 X.1 X.2.1 d (kk H locs ls h1 h2 h3 h4)
theorem r_fconst1 (X : bkX E G own cc nL ret R) (d : decode cc pc = .ok (.fconst 1, 1)) (kk : bkV E G Z k n M (pc + 1) L (.float FP.fconst1 :: st)) : bkV E G Z k n M pc L st := fun H locs ls h1 h2 h3 h4 => lv_fconst1 X.1 X.2.1 d (kk H locs ls h1 h2 h3 h4)
theorem r_ldc (X : bkX E G own cc nL ret R) {i : Nat} {v : Int32} (hw : Cond.constant own i v ∈ bkTB) (d : decode cc pc = .ok (.ldc i, 2)) (kk : bkV E G Z k n M (pc + 2) L (.int v :: st)) : bkV E G Z k n M pc L st := fun H locs ls h1 h2 h3 h4 => lv_ldc X.1 X.2.1 X.2.2.2.1 (X.2.2.2.2.1 _ hw) d (kk H locs ls h1 h2 h3 h4)
theorem bkX.scr (X : bkX E G own cc nL ret R) : va_T .int (G.2.2.2.1 3) G.2.2.2.2.1 (fun j => .int (G.2.2.2.2.2 j)) (bkA G) (eS E) (eS E).heap := X.2.2.2.2.2.1.2.1.2.2.2
theorem r_slenG (X : bkX E G own cc nL ret R) (d : decode cc pc = .ok (.arraylength, 1)) (kk : bkV E G Z k n M (pc + 1) L (.int (nI G.2.2.2.2.1) :: st)) : bkV E G Z k n M pc L (.ref (G.2.2.2.1 3) :: st) := fun H locs ls h1 h2 h3 h4 =>
  va_tlen X.1 X.2.1 X.scr h3 rfl d (kk H locs ls h1 h2 h3 h4)
theorem r_sldG (X : bkX E G own cc nL ret R) {i : Int32} (j : Nat) (hi : i = nI j) (hj : j < G.2.2.2.2.1) (hL : G.2.2.2.2.1 < 2 ^ 31) (d : decode cc pc = .ok (.iaload, 1)) (kk : bkV E G Z k n M (pc + 1) L (.int (G.2.2.2.2.2 j) :: st)) : bkV E G Z k n M pc L (.int i :: .ref (G.2.2.2.1 3) :: st) := fun H locs ls h1 h2 h3 h4 =>
  va_ti X.1 X.2.1 X.scr h3 (by rw [hi]; exact vp_in_nI hj hL) (by rw [hi, nI_clamp (Nat.lt_trans hj hL)]) d (kk H locs ls h1 h2 h3 h4)
theorem bkV.less {M' : bkM} (h : ∀ a e, M' a = some e → M a = some e) (kk : bkV E G Z k n M' pc L st) : bkV E G Z k n M pc L st := fun H locs ls h1 h2 h3 h4 => kk H locs ls ⟨fun a e he => h1.1 a e (h a e he), h1.2⟩ h2 h3 h4
theorem bkV.fresh {a : Nat} (kk : M a = none → bkV E G (fun z => z = a) k n M pc L st) : bkV E G (fun z => z = a) k n M pc L st := by
  intro H locs ls h1 h2 h3 h4
  refine kk ?_ H locs ls h1 h2 h3 h4
  cases he : M a with
  | none => rfl
  | some e =>
    exfalso
    have hs : H.size = a := h2
    have h := (h1.1 a e he).1
    cases e with
    | inl x =>
      have h' : H[a]? = some (vp_cell x.1 x.2) := h
      have := (Array.getElem?_eq_some_iff.mp h').1
      omega
    | inr x =>
      obtain ⟨r, g1, cell, q1, -⟩ := h
      have := (Array.getElem?_eq_some_iff.mp q1).1
      omega
end LR
section XX
variable {G : bkG} {x r : Nat} {S O S' O' : Nat → Nat → Int32} {od od' : Nat → Nat} {np np' : Nat} {sz kp sz' kp' : Int32} {t t' : Nat → Int32} {ln pc pl ln' pc' pl' : Int32} {pf pf' : Nat → Nat → Int32} {M M2 : bkM} {go : Nat → Int32}
theorem xx_comm (hr : x + 185 ≤ r) : xW G r S' O' od' sz' kp' t' ln' pc' pl' pf' (xW G x S O od sz kp t ln pc pl pf M) = xW G x S O od sz kp t ln pc pl pf (xW G r S' O' od' sz' kp' t' ln' pc' pl' pf' M) := by
  funext b
  by_cases h : x ≤ b ∧ b < x + 185
  · rw [xW_out (by omega)]
    exact xW_inr h
  · rw [xW_out (x := x) (by omega)]
    by_cases h2 : r ≤ b ∧ b < r + 185
    · exact xW_inr h2
    · rw [xW_out (by omega), xW_out (by omega), xW_out (by omega)]
theorem ux_xW {a : Nat} {e : va_E} (h : a < x ∨ x + 185 ≤ a) : bku (xW G x S O od sz kp t ln pc pl pf M) a e = xW G x S O od sz kp t ln pc pl pf (bku M a e) := by
  funext b
  by_cases hb : x ≤ b ∧ b < x + 185
  · rw [bku_ne (by omega)]
    exact xW_inr hb
  · rw [xW_out (by omega)]
    by_cases e2 : b = a
    · subst e2; rw [bku_at, bku_at]
    · rw [bku_ne e2, bku_ne e2, xW_out (by omega)]
theorem xW_mono (h : ∀ a e, M a = some e → M2 a = some e) : ∀ a e, xW G x S O od sz kp t ln pc pl pf M a = some e → xW G x S O od sz kp t ln pc pl pf M2 a = some e := by
  intro a e q
  by_cases hb : x ≤ a ∧ a < x + 185
  · rw [xW_inr (M2 := M) hb]; exact q
  · rw [xW_out (by omega)] at q ⊢
    exact h a e q
theorem bku_new {a : Nat} {e : va_E} (h : M a = none) : ∀ b f, M b = some f → bku M a e b = some f := by
  intro b f q
  by_cases z : b = a
  · subst z; rw [h] at q; cases q
  · rw [bku_ne z]; exact q
end XX
theorem LI.xs {S O : Nat → Nat → Int32} {od : Nat → Nat} {np : Nat} {kp : Int32} {t : Nat → Int32} {len : Nat} {s p q f : Nat → Int32} (h : LI S O od np kp t len s p q f) : ∀ m, m < 183 → s m = S 0 m := h.1
theorem LJ.cok {S O : Nat → Nat → Int32} {od : Nat → Nat} {t : Nat → Int32} {len : Nat} {A : jA} (h : LJ S O od t len A) : ∃ n, cOK (jaS A) n (O 0) := by
  obtain ⟨f, h⟩ := h
  exact h.2.1
theorem LJ.strict {S O : Nat → Nat → Int32} {od : Nat → Nat} {t : Nat → Int32} {len : Nat} {A : jA} (h : LJ S O od t len A) : LJ (pfu S 0 (jaS A)) O od t len A := by
  obtain ⟨f, h⟩ := h
  exact ⟨f, h.strict⟩
theorem LJ.eq {G : bkG} {x : Nat} {S O : Nat → Nat → Int32} {od : Nat → Nat} {sz kp : Int32} {t : Nat → Int32} {ln pc pl : Int32} {pf : Nat → Nat → Int32} {M : bkM} {len : Nat} {A : jA} (h : LJ S O od t len A) : xW G x S O od sz kp t ln pc pl pf M = xW G x (pfu S 0 (jaS A)) O od sz kp t ln pc pl pf M := by
  obtain ⟨f, h⟩ := h
  exact xW_congr (k := 0) (by decide) h.1
theorem LJ.trial {S O : Nat → Nat → Int32} {od : Nat → Nat} {t : Nat → Int32} {len : Nat} {A : jA} {s1 g1 : Nat → Int32} (h : LJ S O od t len A) : LJ (pfu S 1 s1) (pfu O 1 g1) od t len A := by
  obtain ⟨f, h⟩ := h
  exact ⟨f, h.trial⟩
theorem LJ.np {S O : Nat → Nat → Int32} {od : Nat → Nat} {t : Nat → Int32} {len : Nat} {A : jA} (h : LJ S O od t len A) : jaN A ≤ 4 ∧ hOK od ∧ len ≤ 60 ∧ tOK t := by
  obtain ⟨f, h⟩ := h
  exact ⟨h.2.2.1.1, h.2.2.1.2.1, h.2.2.2.1.2.1, h.2.2.2.1.2.2⟩
