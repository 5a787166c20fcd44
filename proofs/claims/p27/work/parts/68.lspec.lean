/-! the two side by side: 185 cells of the class at x, 7 of the reference at r -/
section MX
variable {G : bkG} {x r : Nat} {S O : Nat → Nat → Int32} {od : Nat → Nat} {np : Nat} {sz kp : Int32} {t : Nat → Int32} {ln pc pl : Int32} {pf : Nat → Nat → Int32} {M M2 : bkM} {s a p q tt o f : Nat → Int32} {go : Nat → Int32}
theorem mW_ot {b : Nat} (h : b < r ∨ r + 7 ≤ b) : mW G M r s a p q tt o f b = M b := by
  unfold mW
  rw [if_neg (by omega), if_neg (by omega), if_neg (by omega), if_neg (by omega), if_neg (by omega), if_neg (by omega), if_neg (by omega)]
theorem mW_inr {b : Nat} (h : r ≤ b ∧ b < r + 7) : mW G M r s a p q tt o f b = mW G M2 r s a p q tt o f b := by
  unfold mW
  by_cases h0 : b = r
  · rw [if_pos h0, if_pos h0]
  · rw [if_neg h0, if_neg h0]
    by_cases h1 : b = r + 1
    · rw [if_pos h1, if_pos h1]
    · rw [if_neg h1, if_neg h1]
      by_cases h2 : b = r + 2
      · rw [if_pos h2, if_pos h2]
      · rw [if_neg h2, if_neg h2]
        by_cases h3 : b = r + 3
        · rw [if_pos h3, if_pos h3]
        · rw [if_neg h3, if_neg h3]
          by_cases h4 : b = r + 4
          · rw [if_pos h4, if_pos h4]
          · rw [if_neg h4, if_neg h4]
            by_cases h5 : b = r + 5
            · rw [if_pos h5, if_pos h5]
            · rw [if_neg h5, if_neg h5, if_pos (by omega), if_pos (by omega)]
theorem xW_inr {b : Nat} (h : x ≤ b ∧ b < x + 185) : xW G x S O od sz kp t ln pc pl pf M b = xW G x S O od sz kp t ln pc pl pf M2 b := by
  unfold xW
  rw [if_neg (by omega), if_neg (show ¬ (b < x ∨ x + 185 ≤ b) by omega)]
  by_cases h0 : b = x
  · rw [if_pos h0, if_pos h0]
  · rw [if_neg h0, if_neg h0]
    by_cases h1 : b < x + 13
    · rw [if_pos h1, if_pos h1]
      exact xBr_in (by omega)
    · rw [if_neg h1, if_neg h1]
      by_cases h2 : b = x + 76
      · rw [if_pos h2, if_pos h2]
      · rw [if_neg h2, if_neg h2]
        by_cases h3 : b = x + 77
        · rw [if_pos h3, if_pos h3]
        · rw [if_neg h3, if_neg h3]
          by_cases h4 : b < x + 162
          · rw [if_pos h4, if_pos h4]
          · rw [if_neg h4, if_neg h4]
            exact tW_inr (by omega)
theorem mx_comm (hr : x + 185 ≤ r) : mW G (xW G x S O od sz kp t ln pc pl pf M) r s a p q tt o f = xW G x S O od sz kp t ln pc pl pf (mW G M r s a p q tt o f) := by
  funext b
  by_cases h : x ≤ b ∧ b < x + 185
  · rw [mW_ot (by omega)]
    exact xW_inr h
  · rw [xW_out (by omega)]
    by_cases h2 : r ≤ b ∧ b < r + 7
    · exact mW_inr h2
    · rw [mW_ot (by omega), mW_ot (by omega), xW_out (by omega)]
theorem xA_comm {oo : Option (Nat → Int32)} (hr : x + 185 ≤ r) : mW G (xA G x S O od np kp t ln pc pl pf M go oo) r s a p q tt o f = xA G x S O od np kp t ln pc pl pf (mW G M r s a p q tt o f) go oo := by
  cases oo
  · exact mx_comm hr
  · exact mx_comm hr
theorem xAct_comm {oo o2 : Option (Nat → Int32)} (hr : x + 185 ≤ r) : mAct G (xA G x S O od np kp t ln pc pl pf M go oo) r s a p q tt o f np o2 = xA G x S O od np kp t ln pc pl pf (mAct G M r s a p q tt o f np o2) go oo := by
  cases o2
  · exact xA_comm hr
  · exact xA_comm hr
end MX
theorem cOK_cg {s s' go : Nat → Int32} {n : Nat} (h : ∀ j, j < 183 → s' j = s j) (k : cOK s n go) : cOK s' n go := by
  refine ⟨⟨k.1.1, by rw [h 180 (by omega)]; exact k.1.2.1, fun c hc => by rw [h c (by omega)]; exact k.1.2.2.1 c hc, fun i hi => ?_⟩, fun l hl => ?_, cgo_congr (fun i hi => h _ (by have := k.1.1; omega)) k.2.2⟩
  · rw [h (140 + 5 * i + 0) (by omega), h (140 + 5 * i + 1) (by omega), h (140 + 5 * i + 2) (by omega)]
    exact k.1.2.2.2 i hi
  · rw [h (100 + 5 * l + 0) (by omega), h (100 + 5 * l + 1) (by omega), h (100 + 5 * l + 2) (by omega), h (100 + 5 * l + 4) (by omega)]
    exact k.2.1 l hl
/-- what holds between the calls -/
def LI (S O : Nat → Nat → Int32) (od : Nat → Nat) (np : Nat) (kp : Int32) (t : Nat → Int32) (len : Nat) (s p q f : Nat → Int32) : Prop :=
  (∀ j, j < 183 → s j = S 0 j) ∧ (∃ n, cOK s n (O 0)) ∧ (np ≤ 4 ∧ hOK od ∧ f 3 = nI np) ∧ (f 7 = nI len ∧ len ≤ 60 ∧ tOK t) ∧ (∀ i, i < np → (∀ j, j < 183 → p (183 * i + j) = S (od i) j) ∧ ∃ m, cOK (S (od i)) m (O (od i))) ∧ (f 5 = kp ∧ (¬ kp = 0 → (∀ j, j < 183 → q j = S 2 j) ∧ ∃ m, cOK (S 2) m (O 2)))
section LIS
variable {S O : Nat → Nat → Int32} {od : Nat → Nat} {np : Nat} {kp : Int32} {t : Nat → Int32} {len : Nat} {s p q f : Nat → Int32}
theorem LI.strict (h : LI S O od np kp t len s p q f) : LI (pfu S 0 s) O od np kp t len s p q f := by
  obtain ⟨h1, h2, h3, h4, h5, h6, h7⟩ := h
  refine ⟨fun j hj => by rw [pfu_at], h2, h3, h4, fun i hi => ?_, h6, fun hk => ?_⟩
  · have := (h3.2.1 i (by omega)).1
    rw [pfu_ne (by omega)]
    exact h5 i hi
  · rw [pfu_ne (by omega)]
    exact h7 hk
theorem LI.trial {s1 g1 : Nat → Int32} (h : LI S O od np kp t len s p q f) : LI (pfu S 1 s1) (pfu O 1 g1) od np kp t len s p q f := by
  obtain ⟨h1, h2, h3, h4, h5, h6, h7⟩ := h
  refine ⟨fun j hj => by rw [pfu_ne (by omega)]; exact h1 j hj, by rw [pfu_ne (by omega)]; exact h2, h3, h4, fun i hi => ?_, h6, fun hk => ?_⟩
  · have := (h3.2.1 i (by omega)).1
    rw [pfu_ne (by omega), pfu_ne (by omega)]
    exact h5 i hi
  · rw [pfu_ne (by omega), pfu_ne (by omega)]
    exact h7 hk
theorem LI.ff {x : JX} {l u v w : Int32} (h : LI S O od np kp t len s p q f) : LI S O od np kp t len s p q (jff f x l u v w) := h
theorem LI.act {c' s' go : Nat → Int32} (h : LI S O od np kp t len s p q f) (hs : S 0 = s) (ha : ∀ j, j < 183 → s' j = c' j) (hc : ∃ m, cOK c' m go) : LI (pfu (pfu S (jbk od np) (S 0)) 0 c') (pfu (pfu O (jbk od np) (jgm (O (jbk od np)) (O 0))) 0 go) (jod od np) (jrn np) kp t len s' (jrp s p np) q (upd f 3 (nI (jrn np))) := by
  obtain ⟨h1, ⟨n, h2⟩, ⟨h3, h3o, h3f⟩, h4, h5, h6, h7⟩ := h
  have hrn := jrn_rng h3
  have ho := h3o.od np
  have hb := ho (jrn np - 1) (by omega)
  have hb2 : 3 ≤ jbk od np := hb.1
  refine ⟨fun j hj => by rw [pfu_at]; exact ha j hj, ?_, ⟨hrn.2, ho, upd_s⟩, ⟨by rw [upd_n (by omega)]; exact h4.1, h4.2⟩, fun i hi => ?_, by rw [upd_n (by omega)]; exact h6, fun hk => ?_⟩
  · rw [pfu_at]
    obtain ⟨m, hm⟩ := hc
    exact ⟨m, cOK_cg ha hm⟩
  · have hoi := ho i (by omega)
    rw [pfu_ne (show jod od np i ≠ 0 by omega), pfu_ne (show jod od np i ≠ 0 by omega)]
    by_cases e : i = jrn np - 1
    · subst e
      have eb : jod od np (jrn np - 1) = jbk od np := rfl
      rw [eb, pfu_at, pfu_at]
      refine ⟨fun j hj => ?_, n, by rw [hs]; exact h2.m⟩
      unfold jrp jw2
      rw [if_pos (by omega), Nat.add_sub_cancel_left, ← h1 j hj]
    · have hne : jod od np i ≠ jbk od np := fun z => e (hoi.2.2 (jrn np - 1) (by omega) z)
      rw [pfu_ne hne, pfu_ne hne]
      by_cases e4 : np = 4
      · subst e4
        have en : jrn 4 = 4 := rfl
        rw [en] at hi e
        have eo : jod od 4 i = od (i + 1) := by
          show jrt od i = od (i + 1)
          unfold jrt jro
          rw [if_neg (by omega), if_pos (by omega)]
        rw [eo]
        obtain ⟨g1, g2⟩ := h5 (i + 1) (by omega)
        refine ⟨fun j hj => ?_, g2⟩
        rw [← g1 j hj]
        unfold jrp jw2
        rw [en, if_neg (by omega), if_pos rfl]
        unfold jw1
        rw [if_pos (by omega)]
        exact congrArg p (by omega)
      · have en : jrn np = np + 1 := if_neg e4
        have eo : jod od np i = od i := by
          unfold jod
          rw [if_neg e4]
        rw [en] at hi e
        rw [eo]
        obtain ⟨g1, g2⟩ := h5 i (by omega)
        refine ⟨fun j hj => ?_, g2⟩
        rw [← g1 j hj]
        unfold jrp jw2
        rw [en, if_neg (by omega), if_neg e4]
  · rw [pfu_ne (by omega), pfu_ne (by omega), pfu_ne (by omega), pfu_ne (by omega)]
    exact h7 hk
theorem LI.undo {np' : Nat} (h : LI S O od (np' + 1) kp t len s p q f) : LI (pfu S 0 (S (od np'))) (pfu O 0 (jgm (O 0) (O (od np')))) od np' kp t len (fun i => p (183 * np' + i)) p q (upd f 3 (nI np')) := by
  obtain ⟨h1, h2, ⟨h3, h3o, h3f⟩, h4, h5, h6, h7⟩ := h
  obtain ⟨g1, m, g2⟩ := h5 np' (by omega)
  refine ⟨fun j hj => by rw [pfu_at]; exact g1 j hj, ⟨m, by rw [pfu_at]; exact (cOK_cg g1 g2).m⟩, ⟨by omega, h3o, upd_s⟩, ⟨by rw [upd_n (by omega)]; exact h4.1, h4.2⟩, fun i hi => ?_, by rw [upd_n (by omega)]; exact h6, fun hk => ?_⟩
  · have := (h3o i (by omega)).1
    rw [pfu_ne (by omega), pfu_ne (by omega)]
    exact h5 i (by omega)
  · rw [pfu_ne (by omega), pfu_ne (by omega)]
    exact h7 hk
theorem LI.keep (h : LI S O od np kp t len s p q f) (hs : S 0 = s) : LI (pfu S 2 (S 0)) (pfu O 2 (jgm (O 2) (O 0))) od np 1 t len s p s (upd f 5 1) := by
  obtain ⟨h1, h2, ⟨h3, h3o, h3f⟩, h4, h5, h6, h7⟩ := h
  refine ⟨fun j hj => by rw [pfu_ne (by omega)]; exact h1 j hj, by rw [pfu_ne (by omega)]; exact h2, ⟨h3, h3o, by rw [upd_n (by omega)]; exact h3f⟩, ⟨by rw [upd_n (by omega)]; exact h4.1, h4.2⟩, fun i hi => ?_, upd_s, fun _ => ⟨fun j hj => by rw [pfu_at]; exact h1 j hj, ?_⟩⟩
  · have := (h3o i (by omega)).1
    rw [pfu_ne (by omega), pfu_ne (by omega)]
    exact h5 i hi
  · rw [pfu_at, pfu_at, hs]
    obtain ⟨n, h2⟩ := h2
    exact ⟨n, h2.m⟩
theorem u16_nI (u : UInt16) : u.toUInt32.toInt32 = nI u.toNat := by
  rw [← Int32.toBitVec_inj]
  apply BitVec.eq_of_toNat_eq
  simp [nI]
theorem nar_char (x : Int32) : narrow .char (.int (vp_nar .char x)) = .int (vp_nar .char x) ∧ fits .char (.int (vp_nar .char x)) = true := by
  rw [vp_nar_char]
  generalize x.toUInt32.toUInt16 = u
  refine ⟨?_, ?_⟩
  · show Value.int (u.toUInt32.toInt32.toUInt32.toUInt16.toUInt32.toInt32) = _
    simp
  · have hu : u.toNat < 65536 := u.toNat_lt
    rw [u16_nI]
    show (decide (0 ≤ nI u.toNat) && decide (nI u.toNat ≤ nI 65535)) = true
    rw [decide_eq_true (nI_pos' (by omega)), decide_eq_true ((nI_leI (by omega) (by decide)).mpr (by omega))]
    rfl
theorem LI.type (h : LI S O od np kp t len s p q f) (hl : ¬ len = 60) (x : Int32) : LI S O od np kp (upd t len (vp_nar .char x)) (len + 1) s p q (upd f 7 (nI (len + 1))) := by
  obtain ⟨h1, h2, ⟨h3, h3o, h3f⟩, ⟨h4, h4l, h4t⟩, h5, h6, h7⟩ := h
  refine ⟨h1, h2, ⟨h3, h3o, by rw [upd_n (by omega)]; exact h3f⟩, ⟨upd_s, by omega, fun j hj => ?_⟩, h5, by rw [upd_n (by omega)]; exact h6, h7⟩
  by_cases e : j = len
  · subst e
    rw [upd_s]
    exact nar_char x
  · rw [upd_n e]
    exact h4t j hj
theorem LI.clear (h : LI S O od np kp t len s p q f) : LI S O od np kp t 0 s p q (upd f 7 0) := by
  obtain ⟨h1, h2, ⟨h3, h3o, h3f⟩, ⟨h4, h4l, h4t⟩, h5, h6, h7⟩ := h
  exact ⟨h1, h2, ⟨h3, h3o, by rw [upd_n (by omega)]; exact h3f⟩, ⟨upd_s, by omega, h4t⟩, h5, by rw [upd_n (by omega)]; exact h6, h7⟩
end LIS
