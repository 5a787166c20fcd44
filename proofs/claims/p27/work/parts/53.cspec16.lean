/-! an act of the class: recorded, then done in block 0 -/
theorem pfu_0 {S : Nat → Nat → Int32} {b : Nat} : pfu S b (S 0) 0 = S 0 := by
  unfold pfu
  split <;> rfl
theorem pfu_g0 {O : Nat → Nat → Int32} {b : Nat} : pfu O b (jgm (O b) (O 0)) 0 = O 0 := by
  unfold pfu
  split
  · rename_i h
    rw [← h, jgm_me]
  · rfl
theorem pfu_ne {S : Nat → Nat → Int32} {b k : Nat} {f : Nat → Int32} (h : k ≠ b) : pfu S b f k = S k := if_neg h
def xA (G : bkG) (x : Nat) (S O : Nat → Nat → Int32) (od : Nat → Nat) (np : Nat) (kp : Int32) (t : Nat → Int32) (ln pc pl : Int32) (pf : Nat → Nat → Int32) (M : bkM) (go : Nat → Int32) : Option (Nat → Int32) → bkM
  | none => xW G x S O od (nI np) kp t ln pc pl pf M
  | some s' => xW G x (pfu (pfu S (jbk od np) (S 0)) 0 s') (pfu (pfu O (jbk od np) (jgm (O (jbk od np)) (O 0))) 0 go) (jod od np) (nI (jrn np)) kp t ln pc pl pf M
def xG (o : Option (Nat → Int32)) (go : Nat → Int32) : Prop := ∀ s', o = some s' → ∃ m, cOK s' m go
theorem xG.none {go : Nat → Int32} : xG none go := fun _ h => by cases h
theorem xG.some {s go : Nat → Int32} {m : Nat} (h : cOK s m go) : xG (some s) go := fun s' e => by cases e; exact ⟨m, h⟩
section XR
variable {G : bkG} {x : Nat} {S O : Nat → Nat → Int32} {od : Nat → Nat} {sz kp : Int32} {t : Nat → Int32} {ln pc pl ln' pc' pl' : Int32} {pf : Nat → Nat → Int32} {M : bkM} {b : Nat} {s1 g1 s2 g2 : Nat → Int32}
theorem xR_b0 : xW G x (pfu S b (S 0)) (pfu O b (jgm (O b) (O 0))) od sz kp t ln pc pl pf M = sW G (x + 1) (x + 13) (S 0) (O 0) (xW G x (pfu S b (S 0)) (pfu O b (jgm (O b) (O 0))) od sz kp t ln pc pl pf M) := xW_b0.trans (by rw [pfu_0, pfu_g0])
theorem xQ_b0 : xW G x (pfu S 0 s1) (pfu O 0 g1) od sz kp t ln pc pl pf M = sW G (x + 1) (x + 13) s1 g1 (xW G x (pfu S 0 s1) (pfu O 0 g1) od sz kp t ln pc pl pf M) := xW_b0
theorem xQ_b1 : xW G x (pfu S 1 s1) (pfu O 1 g1) od sz kp t ln pc pl pf M = sW G (x + 1) (x + 34) s1 g1 (xW G x (pfu S 1 s1) (pfu O 1 g1) od sz kp t ln pc pl pf M) := xW_b1
theorem xR_o : xW G x (pfu S b (S 0)) (pfu O b (jgm (O b) (O 0))) od sz kp t ln pc pl pf M (x + 13) = some (.inr (6, sO (x + 1) (x + 13) (S 0))) := by rw [xR_b0]; exact sW_o
theorem xR_lt {i : Nat} (hi : i < 4) : xW G x (pfu S b (S 0)) (pfu O b (jgm (O b) (O 0))) od sz kp t ln pc pl pf M (x + 13 + 5 + 2 * i) = some (.inr (3, ltF (x + 1) (S 0) i)) := by rw [xR_b0]; exact sW_lt hi
theorem xR_kp {i : Nat} (hi : i < 4) : xW G x (pfu S b (S 0)) (pfu O b (jgm (O b) (O 0))) od sz kp t ln pc pl pf M (x + 13 + 6 + 2 * i) = some (.inr (2, kpF (S 0) i)) := by rw [xR_b0]; exact sW_kp hi
theorem xQ_o : xW G x (pfu S 0 s1) (pfu O 0 g1) od sz kp t ln pc pl pf M (x + 13) = some (.inr (6, sO (x + 1) (x + 13) s1)) := by rw [xQ_b0]; exact sW_o
theorem xQ_lt {i : Nat} (hi : i < 4) : xW G x (pfu S 0 s1) (pfu O 0 g1) od sz kp t ln pc pl pf M (x + 13 + 5 + 2 * i) = some (.inr (3, ltF (x + 1) s1 i)) := by rw [xQ_b0]; exact sW_lt hi
theorem xR_0 {a : Nat} {ev : va_E} (h : ∀ M2, bku (sW G (x + 1) (x + 13) (S 0) (O 0) M2) a ev = sW G (x + 1) (x + 13) s1 g1 M2) : bku (xW G x (pfu S b (S 0)) (pfu O b (jgm (O b) (O 0))) od sz kp t ln pc pl pf M) a ev = xW G x (pfu (pfu S b (S 0)) 0 s1) (pfu (pfu O b (jgm (O b) (O 0))) 0 g1) od sz kp t ln pc pl pf M :=
  (congrArg (fun z => bku z a ev) xR_b0).trans ((h _).trans xW_s0)
theorem xQ_0 {a : Nat} {ev : va_E} (h : ∀ M2, bku (sW G (x + 1) (x + 13) s1 g1 M2) a ev = sW G (x + 1) (x + 13) s2 g2 M2) : bku (xW G x (pfu S 0 s1) (pfu O 0 g1) od sz kp t ln pc pl pf M) a ev = xW G x (pfu S 0 s2) (pfu O 0 g2) od sz kp t ln pc pl pf M :=
  (congrArg (fun z => bku z a ev) xQ_b0).trans ((h _).trans (xW_s0.trans (by rw [pfu_pfu, pfu_pfu])))
theorem xS_t : bku (xW G x S O od sz kp t ln pc pl pf M) (x + 162) (.inr (7, tO (x + 162) ln' pc' pl')) = xW G x S O od sz kp t ln' pc' pl' pf M :=
  (congrArg (fun z => bku z (x + 162) (.inr (7, tO (x + 162) ln' pc' pl'))) xW_tx).trans (tS_o.trans xW_setT)
end XR
theorem tld4 {s : Nat → Int32} {l w : Nat} (hw : w < 4) (a b c : Int32) : (if nI w = 0 then s (100 + 5 * l + 0) else if nI w = 1 then s (100 + 5 * l + 1) else if nI w = 2 then s (100 + 5 * l + 2) else if nI w = 3 then s (100 + 5 * l + 3) else if nI w = 4 then s (100 + 5 * l + 4) else if nI w = 5 then a else if nI w = 6 then b else c) = s (100 + 5 * l + w) := by
  match w, hw with
  | 0, _ => rfl
  | 1, _ => rfl
  | 2, _ => rfl
  | 3, _ => rfl
  | w + 4, h => exact absurd h (by omega)
theorem ly_eq {s : Nat → Int32} {k l : Nat} (hk : k < 4) (hl : l < 4) : upd (upd s (120 + 5 * k + 2) (s (120 + 5 * k + 2) - 1)) (100 + 5 * l + 4) (cmin (upd s (120 + 5 * k + 2) (s (120 + 5 * k + 2) - 1) (100 + 5 * l + 4) + 3) 9) = jly s k l := by
  have hne : 100 + 5 * l + 4 ≠ 120 + 5 * k + 2 := by omega
  unfold jly
  simp only
  rw [upd_n hne, upd_n (Ne.symm hne)]
  have e : cmin (s (100 + 5 * l + 4) + 3) 9 = if s (100 + 5 * l + 4) + 3 ≤ 9 then s (100 + 5 * l + 4) + 3 else 9 := by
    unfold cmin
    by_cases h : s (100 + 5 * l + 4) + 3 ≤ 9
    · rw [if_pos h, if_neg (Int32.not_lt.mpr h)]
    · rw [if_neg h, if_pos (Int32.not_le.mp h)]
  rw [e]
  funext i
  unfold upd
  by_cases h1 : i = 100 + 5 * l + 4
  · rw [if_pos h1, if_neg (show ¬ i = 120 + 5 * k + 2 by omega), if_pos h1]
  · rw [if_neg h1]
    by_cases h2 : i = 120 + 5 * k + 2
    · rw [if_pos h2, if_pos h2]
    · rw [if_neg h2, if_neg h2, if_neg h1]
theorem cOK.light {s : Nat → Int32} {n l w : Nat} {x : Int32} {go : Nat → Int32} (h : cOK s n go) (hl : l < 4) (hw : w < 4) (hf : jfit (nI w) x = true) : cOK (upd s (100 + 5 * l + w) x) n go := by
  refine ⟨h.1.set (by omega) (by omega) (fun k hk => by omega), ?_, cgo_congr (fun k hk => upd_n (by omega)) h.2.2⟩
  rw [jfit_n hw] at hf
  simp only [Bool.and_eq_true, decide_eq_true_eq] at hf
  have hb : ∃ v, x = nI v ∧ ((w = 0 → v ≤ 7) ∧ (w = 1 → v ≤ 3) ∧ (w = 2 → v ≤ 9)) := by
    match w, hw with
    | 0, _ =>
      obtain ⟨j, h1, e⟩ := jin_of (x := x) (n := 7) rfl (by decide) (by unfold jin; simp only [Bool.and_eq_true, decide_eq_true_eq]; exact hf)
      exact ⟨j, e, fun _ => h1, fun z => absurd z (by decide), fun z => absurd z (by decide)⟩
    | 1, _ =>
      obtain ⟨j, -, h1, e⟩ := jin_of1 (x := x) (n := 3) rfl (by decide) (by unfold jin; simp only [Bool.and_eq_true, decide_eq_true_eq]; exact hf)
      exact ⟨j, e, fun z => absurd z (by decide), fun _ => h1, fun z => absurd z (by decide)⟩
    | 2, _ =>
      obtain ⟨j, -, h1, e⟩ := jin_of1 (x := x) (n := 9) rfl (by decide) (by unfold jin; simp only [Bool.and_eq_true, decide_eq_true_eq]; exact hf)
      exact ⟨j, e, fun z => absurd z (by decide), fun z => absurd z (by decide), fun _ => h1⟩
    | 3, _ =>
      obtain ⟨j, h1, e⟩ := jin_of (x := x) (n := 255) rfl (by decide) (by unfold jin; simp only [Bool.and_eq_true, decide_eq_true_eq]; exact hf)
      exact ⟨j, e, fun z => absurd z (by decide), fun z => absurd z (by decide), fun z => absurd z (by decide)⟩
    | w + 4, h => exact absurd h (by omega)
  obtain ⟨v, rfl, b0, b1, b2⟩ := hb
  intro i hi
  obtain ⟨g0, g1, g2, g4⟩ := h.2.1 i hi
  refine ⟨?_, ?_, ?_, ?_⟩
  · by_cases e : 100 + 5 * i + 0 = 100 + 5 * l + w
    · rw [e, upd_s]; exact ⟨v, b0 (by omega), rfl⟩
    · rw [upd_n e]; exact g0
  · by_cases e : 100 + 5 * i + 1 = 100 + 5 * l + w
    · rw [e, upd_s]; exact ⟨v, b1 (by omega), rfl⟩
    · rw [upd_n e]; exact g1
  · by_cases e : 100 + 5 * i + 2 = 100 + 5 * l + w
    · rw [e, upd_s]; exact ⟨v, b2 (by omega), rfl⟩
    · rw [upd_n e]; exact g2
  · rw [upd_n (by omega)]; exact g4
theorem cOK.ly {s : Nat → Int32} {n k l : Nat} {go : Nat → Int32} (h : cOK s n go) (hk : k < 4) (hl : l < 4) : cOK (jly s k l) n go := by
  refine ⟨h.1.ly hk hl, ?_, cgo_congr (fun i hi => by unfold jly; rw [upd_n (by omega), upd_n (by omega)]) h.2.2⟩
  intro i hi
  obtain ⟨g0, g1, g2, g, hg, eg⟩ := h.2.1 i hi
  unfold jly
  rw [upd_n (by omega), upd_n (by omega), upd_n (by omega), upd_n (by omega), upd_n (by omega), upd_n (by omega), upd_n (by omega)]
  refine ⟨g0, g1, g2, ?_⟩
  by_cases e : 100 + 5 * i + 4 = 100 + 5 * l + 4
  · rw [e, upd_s]
    obtain rfl : i = l := by omega
    rw [eg]
    match g, hg with
    | 0, _ => exact ⟨3, by omega, rfl⟩
    | 1, _ => exact ⟨4, by omega, rfl⟩
    | 2, _ => exact ⟨5, by omega, rfl⟩
    | 3, _ => exact ⟨6, by omega, rfl⟩
    | 4, _ => exact ⟨7, by omega, rfl⟩
    | 5, _ => exact ⟨8, by omega, rfl⟩
    | 6, _ => exact ⟨9, by omega, rfl⟩
    | 7, _ => exact ⟨9, by omega, rfl⟩
    | 8, _ => exact ⟨9, by omega, rfl⟩
    | 9, _ => exact ⟨9, by omega, rfl⟩
    | g + 10, h => exact absurd h (by omega)
  · rw [upd_n e]
    exact ⟨g, hg, eg⟩
theorem cOK.wage {s : Nat → Int32} {n : Nat} {x : Int32} {go : Nat → Int32} (h : cOK s n go) : cOK (upd s 182 x) n go :=
  h.set (h.1.set (by omega) (by omega) (fun k hk => by omega)) (Or.inr (by omega)) (fun k hk => by omega)
theorem jwc_pc {s : Nat → Int32} {n h : Nat} (hn : n ≤ 8) : nI (jwc s (jhrs s n h) n) = nI (jpc 8 (jset (jwr s n h) n)) := by
  rw [jpc8_jset _ hn]
  rfl
