/-! rows that the law wants: the script, doubles -/
theorem bkn_at : ∀ (L : List (Option Value)) (i : Nat), bkl (bkn L i) i = none
  | [], _ => rfl
  | _ :: _, 0 => rfl
  | _ :: l, i + 1 => bkn_at l i
theorem bkL.set2 {ls : Array Slot} {L : List (Option Value)} {i : Nat} {v : Value} (hi : i < L.length) (hc : bkc L i = true) (h : lv_has ls L.length ((i, v) :: (bkw 0 L).filter (fun q => !(q.1 == i) && (!(q.1 == i + 1) && !(q.1 + 1 == i && q.2.category == 2))))) : bkL ls (bkn (bks L i v) (i + 1)) := by
  refine ⟨by rw [bkn_len, bks_len]; exact h.1, h.2.1, fun j u hj => ?_⟩
  by_cases e1 : j = i + 1
  · subst e1
    rw [bkn_at] at hj
    cases hj
  · have hj2 := bkn_get _ _ _ _ hj
    by_cases e : j = i
    · subst e
      rw [bkl_same L j v hi] at hj2
      cases hj2
      exact h.2.2 (j, v) List.mem_cons_self
    · rw [bkl_ne L i j v e] at hj2
      have hm := bkw_in L 0 j u hj2
      rw [Nat.zero_add] at hm
      refine h.2.2 (j, u) (List.mem_cons_of_mem _ (List.mem_filter.mpr ⟨hm, ?_⟩))
      have h1 : (j == i) = false := by simpa using e
      have h3 : (j == i + 1) = false := by simpa using e1
      by_cases e2 : j + 1 = i
      · subst e2
        have hc' : (u.category == 1) = true := by
          have : bkc L (j + 1) = (match bkl L j with | none => true | some v => v.category == 1) := rfl
          rw [this, hj2] at hc
          exact hc
        have hu : u.category = 1 := by simpa using hc'
        simp [h1, h3, hu]
      · have h2 : (j + 1 == i) = false := by simpa using e2
        simp [h1, h2, h3]
section LR
variable {E : bkEnv} {R : Room} {G : bkG} {Z : Nat → Prop} {k n : Nat} {M : bkM} {pc : Nat} {L : List (Option Value)} {st : List Value} {own : String} {cc : ByteArray} {nL : Nat} {ret : Option FieldType}
theorem r_slen (X : bkX E G own cc nL ret R) {b Ls : Nat} {xs : Nat → Int32} (hX : va_X b Ls xs (eS E) (eS E).heap) (hbl : b < (eS E).heap.size) (hbA : ¬ bkA G b) (d : decode cc pc = .ok (.arraylength, 1)) (kk : bkV E G Z k n M (pc + 1) L (.int (nI Ls) :: st)) : bkV E G Z k n M pc L (.ref b :: st) := fun H locs ls h1 h2 h3 h4 => va_slen X.1 X.2.1 hX hbl hbA h3 d (kk H locs ls h1 h2 h3 h4)
theorem r_sld (X : bkX E G own cc nL ret R) {b Ls : Nat} {xs : Nat → Int32} (hX : va_X b Ls xs (eS E) (eS E).heap) (hbl : b < (eS E).heap.size) (hbA : ¬ bkA G b) {i : Int32} (j : Nat) (hi : i = nI j) (hj : j < Ls) (hL : Ls < 2 ^ 31) (d : decode cc pc = .ok (.iaload, 1)) (kk : bkV E G Z k n M (pc + 1) L (.int (xs j) :: st)) : bkV E G Z k n M pc L (.int i :: .ref b :: st) := by
  subst hi
  intro H locs ls h1 h2 h3 h4
  refine va_sld X.1 X.2.1 hX hbl hbA h3 (vp_in_nI hj hL) d ?_
  rw [nI_clamp (Nat.lt_trans hj hL)]
  exact kk H locs ls h1 h2 h3 h4
theorem r_f2d (X : bkX E G own cc nL ret R) {x : UInt32} (hn : vf_n64 (FP.f2d x)) (d : decode cc pc = .ok (.f2d, 1)) (kk : bkV E G Z k n M (pc + 1) L (.double (FP.f2d x) :: st)) : bkV E G Z k n M pc L (.float x :: st) := fun H locs ls h1 h2 h3 h4 => lv_f2d X.1 X.2.1 d hn (kk H locs ls h1 h2 h3 h4)
theorem r_dcmp (X : bkX E G own cc nL ret R) {x y : UInt64} {op : CmpOp} (d : decode cc pc = .ok (.dcmp op, 1)) (kk : bkV E G Z k n M (pc + 1) L (.int (Op.cmpValue (FP.dcmp x y) op) :: st)) : bkV E G Z k n M pc L (.double y :: .double x :: st) := fun H locs ls h1 h2 h3 h4 => lv_dcmp X.1 X.2.1 d (kk H locs ls h1 h2 h3 h4)
theorem r_dload (X : bkX E G own cc nL ret R) {i : Nat} {x : UInt64} (hl : bkl L i = some (.double x)) (d : decode cc pc = .ok (.dload i, 2)) (kk : bkV E G Z k n M (pc + 2) L (.double x :: st)) : bkV E G Z k n M pc L st := fun H locs ls h1 h2 h3 h4 => lv_dload X.1 X.2.1 d (h4.2.2 _ _ hl) (kk H locs ls h1 h2 h3 h4)
theorem r_dstore (X : bkX E G own cc nL ret R) {i : Nat} {x : UInt64} (hi : Nat.blt (i + 1) L.length = true) (hc : bkc L i = true) (d : decode cc pc = .ok (.dstore i, 2)) (kk : bkV E G Z k n M (pc + 2) (bkn (bks L i (.double x)) (i + 1)) st) : bkV E G Z k n M pc L (.double x :: st) := fun H locs ls h1 h2 h3 h4 => lv_dstore X.1 X.2.1 d h4.has (Nat.blt_eq.mp hi) rfl (fun ls2 hl2 => kk H locs ls2 h1 h2 h3 (bkL.set2 (Nat.lt_of_succ_lt (Nat.blt_eq.mp hi)) hc hl2))
end LR
theorem shr_0 : ∀ k, k ≤ 8 → vf_n64 (FP.f2d (FP.fdiv (FP.i2f (nI k)) 1090519040)) ∧ Op.cmpValue (FP.dcmp (FP.f2d (FP.fdiv (FP.i2f (nI k)) 1090519040)) (FP.f2d (FP.fdiv (FP.i2f (nI k)) 1090519040))) .l = 0 := by
  unfold vf_n64
  decide +kernel
theorem shr_1 : vf_n64 (FP.f2d 3212836864) ∧ Op.cmpValue (FP.dcmp (FP.f2d 3212836864) (FP.f2d 3212836864)) .l = 0 := by
  unfold vf_n64
  decide +kernel
theorem shr_eq (s : Nat → Int32) (c : Int32) : vf_n64 (FP.f2d (jshare s c)) ∧ Op.cmpValue (FP.dcmp (FP.f2d (jshare s c)) (FP.f2d (jshare s c))) .l = 0 := by
  unfold jshare
  split
  · exact shr_1
  · exact shr_0 _ (jct_le _ 8)
/-- what the law's loop wants behind a call -/
def LB (E : bkEnv) (G : bkG) (x r b i : Nat) (M : bkM) : Prop := ∀ (S O : Nat → Nat → Int32) (od : Nat → Nat) (np : Nat) (kp : Int32) (t : Nat → Int32) (len : Nat) (pc pl : Int32) (pf : Nat → Nat → Int32) (s a p q o f : Nat → Int32), LI S O od np kp t len s p q f → bkV E G (fun z => z = r + 7) 192 3411 (xW G x S O od (nI np) kp t (nI len) pc pl pf (mW G M r s a p q t o f)) 798 [some (.ref b), some (.ref x), some (.ref r), some (.int (nI i)), none, none, none, none] []
section LA
variable {E : bkEnv} {G : bkG} {x r b i : Nat} {M : bkM} {S O : Nat → Nat → Int32} {od : Nat → Nat} {np : Nat} {kp : Int32} {t : Nat → Int32} {len : Nat} {pc pl : Int32} {pf : Nat → Nat → Int32} {s a p q o f go : Nat → Int32}
theorem law_act (hB : LB E G x r b i M) (hI : LI S O od np kp t len s p q f) (hs : S 0 = s) {o2 : Option (Nat → Int32)} (hg : xG o2 go) : bkV E G (fun z => z = r + 7) 192 3411 (xA G x S O od np kp t (nI len) pc pl pf (mAct G M r s a p q t o f np o2) go o2) 798 [some (.ref b), some (.ref x), some (.ref r), some (.int (nI i)), none, none, none, none] [] := by
  cases o2 with
  | none => exact hB _ _ _ _ _ _ _ _ _ _ _ _ _ _ _ _ hI
  | some s' => exact hB _ _ _ _ _ _ _ _ _ _ _ _ _ _ _ _ (hI.act hs (fun _ _ => rfl) (hg s' rfl))
theorem law_act2 (hB : LB E G x r b i M) (hI : LI S O od np kp t len s p q f) (hs : S 0 = s) {c' s' : Nat → Int32} (ha : ∀ j, j < 183 → s' j = c' j) (hc : ∃ m, cOK c' m go) : bkV E G (fun z => z = r + 7) 192 3411 (xA G x S O od np kp t (nI len) pc pl pf (mAct G M r s a p q t o f np (some s')) go (some c')) 798 [some (.ref b), some (.ref x), some (.ref r), some (.int (nI i)), none, none, none, none] [] :=
  hB _ _ _ _ _ _ _ _ _ _ _ _ _ _ _ _ (hI.act hs ha hc)
end LA
