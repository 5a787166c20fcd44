/-! an act of the law, as a function of what the game is -/
abbrev jA : Type := (Nat → Int32) × (Nat → Int32) × (Nat → Int32) × Nat × Int32
def jaS (A : jA) : Nat → Int32 := A.1
def jaP (A : jA) : Nat → Int32 := A.2.1
def jaQ (A : jA) : Nat → Int32 := A.2.2.1
def jaN (A : jA) : Nat := A.2.2.2.1
def jaK (A : jA) : Int32 := A.2.2.2.2
def jam (A : jA) : Nat := tn (jaS A 180)
def jap (A : jA) (r : Int32 × Option (Nat → Int32)) : Int32 × jA := (r.1, match r.2 with | none => A | some s' => (s', jrp (jaS A) (jaP A) (jaN A), jaQ A, jrn (jaN A), jaK A))
def jaU (A : jA) : Int32 × jA := if jaN A = 0 then (-5, A) else (nI (jaN A - 1), (fun i => jaP A (183 * (jaN A - 1) + i), jaP A, jaQ A, jaN A - 1, jaK A))
def jaE (A : jA) : Int32 × jA := (jaS A 181, (jaS A, jaP A, jaS A, jaN A, 1))
def jz0 : (Nat → Int32) × Nat := (fun _ => 0, 0)
def jaT (y : Nat) : (Nat → Int32) × Nat := jtx y (1 + y % 4) jz0
def jaX (A : jA) (y : Nat) : Int32 × jA := if ¬ jfault (jaT y).1 (jaT y).2 = -5 then (-999, A) else jap A (jdoAll (jaT y).1 (jaT y).2 (jaS A))
def jacts (A : jA) (c : Nat) : Int32 × jA :=
  if c % 32 < 5 then jap A (jRock (jaS A) (nI (c / 32 % 100)))
  else if c % 32 < 8 then jap A (jLight (jaS A) (nI (c / 32 % 4)) (nI (c / 32 / 4 % 4)) (nI (1 + c / 32 / 16 % (if c / 32 / 4 % 4 = 3 then 255 else 3))))
  else if c % 32 < 13 then jap A (jShip (jaS A) (jam A) (nI (1 + c / 32 / 10000 % 99)) (nI (c / 32 % 100)) (nI (c / 32 / 100 % 100)))
  else if c % 32 < 15 then jap A (jCard (jaS A) (nI (c / 32 % 4)) (nI (c / 32 / 4 % 4)))
  else if c % 32 < 16 then jap A (jWage (jaS A) (nI (c / 32 % 10)))
  else if c % 32 < 18 then jaU A
  else if c % 32 < 19 then jaE A
  else if c % 32 < 20 then jap A (jRest (jaQ A) (jaK A))
  else if c % 32 < 23 then jaX A (c / 32)
  else jap A (jPass (jaS A) (jam A) (nI (1 + c / 32 % 4)))
/-- what holds of a state, its hour at most B -/
def sI (s : Nat → Int32) (B : Nat) : Prop := ∃ n h, jwf s n ∧ jI s n h ∧ h ≤ B
theorem sI.mono {s : Nat → Int32} {B B' : Nat} (h : sI s B) (q : B ≤ B') : sI s B' := by
  obtain ⟨n, h0, a, b, c⟩ := h
  exact ⟨n, h0, a, b, by omega⟩
theorem jwf.cg3 {s s' : Nat → Int32} {n : Nat} (h : ∀ j, j < 183 → s' j = s j) (k : jwf s n) : jwf s' n := by
  refine ⟨k.1, by rw [h 180 (by omega)]; exact k.2.1, fun c hc => by rw [h c (by omega)]; exact k.2.2.1 c hc, fun i hi => ?_⟩
  rw [h (140 + 5 * i + 0) (by omega), h (140 + 5 * i + 1) (by omega), h (140 + 5 * i + 2) (by omega)]
  exact k.2.2.2 i hi
theorem sI.cg {s s' : Nat → Int32} {B : Nat} (h : sI s B) (e : ∀ j, j < 183 → s' j = s j) : sI s' B := by
  obtain ⟨n, h0, a, b, c⟩ := h
  exact ⟨n, h0, a.cg3 e, b.cg3 a.1 e, c⟩
def JJ (B : Nat) (A : jA) : Prop := sI (jaS A) B ∧ jaN A ≤ 4 ∧ (∀ i, i < jaN A → sI (fun j => jaP A (183 * i + j)) B) ∧ (¬ jaK A = 0 → sI (jaQ A) B)
theorem JJ.mono {B B' : Nat} {A : jA} (h : JJ B A) (q : B ≤ B') : JJ B' A := ⟨h.1.mono q, h.2.1, fun i hi => (h.2.2.1 i hi).mono q, fun z => (h.2.2.2 z).mono q⟩
theorem JJ.ap {B B' : Nat} {A : jA} {r : Int32 × Option (Nat → Int32)} (h : JJ B A) (q : B ≤ B') (hr : ∀ s', r.2 = some s' → sI s' B') : JJ B' (jap A r).2 := by
  obtain ⟨v, o⟩ := r
  cases o with
  | none => exact h.mono q
  | some s' =>
    obtain ⟨h1, h2, h3, h4⟩ := h
    refine ⟨hr s' rfl, ?_, fun i hi => ?_, fun z => (h4 z).mono q⟩
    · show jrn (jaN A) ≤ 4
      exact (jrn_rng h2).2
    · have hi2 : i < jrn (jaN A) := hi
      show sI (fun j => jrp (jaS A) (jaP A) (jaN A) (183 * i + j)) B'
      have hrn := jrn_rng h2
      by_cases e : i = jrn (jaN A) - 1
      · refine (h1.mono q).cg fun j hj => ?_
        unfold jrp jw2
        subst e
        rw [if_pos (by omega), Nat.add_sub_cancel_left]
      · by_cases e4 : jaN A = 4
        · have en : jrn (jaN A) = 4 := by rw [e4]; rfl
          refine ((h3 (i + 1) (by omega)).mono q).cg fun j hj => ?_
          unfold jrp jw2
          rw [en, if_neg (by omega), if_pos e4]
          unfold jw1
          rw [if_pos (by omega)]
          exact congrArg (jaP A) (by omega)
        · have en : jrn (jaN A) = jaN A + 1 := if_neg e4
          refine ((h3 i (by omega)).mono q).cg fun j hj => ?_
          unfold jrp jw2
          rw [en, if_neg (by omega), if_neg e4]
theorem jaT_len (y : Nat) : (jaT y).2 ≤ 36 ∧ 2 ≤ (jaT y).2 := by
  have h := jtx_len y jz0 (1 + y % 4)
  have e : jz0.2 = 0 := rfl
  unfold jaT
  omega
theorem jaT_h (y : Nat) : jct (jh4 (jaT y).1) (jaT y).2 ≤ 4 := by
  have h := jtx_h y jz0 (1 + y % 4)
  have e : jct (jh4 jz0.1) jz0.2 = 0 := rfl
  unfold jaT
  omega
theorem sI.hrs {s : Nat → Int32} {n h B : Nat} (hw : jwf s n) (hI : jI s n h) (hh : h ≤ B) (hB : B ≤ 50000) {j : Nat} (hj : j ≤ 20) : sI (jhrs s n j) (B + 20) := ⟨n, h + j, hw.hrs j, hI.hrs hw j (by omega), by omega⟩
theorem JJ.acts {B : Nat} {A : jA} (h : JJ B A) (hB : B ≤ 50000) (c : Nat) : JJ (B + 80) (jacts A c).2 := by
  obtain ⟨n, h0, hw, hI, hh⟩ := id h.1
  have hn8 := hw.1
  have hm : jam A = n := hw.tn
  have keep : ∀ {s' : Nat → Int32} {m : Nat}, jwf s' m → jI s' m h0 → sI s' (B + 80) := fun a b => ⟨_, h0, a, b, by omega⟩
  unfold jacts
  split
  · refine h.ap (by omega) fun s' e => ?_
    unfold jRock at e
    split at e
    · rename_i q
      cases e
      obtain ⟨v, hv, e1, e2⟩ := jbr_ok2 q
      rw [e1, tn_nI (by omega)]
      exact keep (hw.rock hv) (hI.rock hn8 hv e2)
    · cases e
  split
  · refine h.ap (by omega) fun s' e => ?_
    generalize nI (1 + c / 32 / 16 % (if c / 32 / 4 % 4 = 3 then 255 else 3)) = v9 at e
    unfold jLight at e
    split at e
    · cases e
    · rename_i q1
      split at e
      · cases e
      · rename_i q2
        split at e
        · cases e
        · cases e
          have q1' : jin (nI (c / 32 % 4)) 0 3 = true := by simpa using q1
          obtain ⟨w, hw3, ew⟩ := jfit_in (by simpa using q2)
          rw [ew, tn_nI (by omega), tn_nI (by omega)]
          exact keep (hw.set (by omega) (by omega) (fun i hi => by omega)) (hI.light hn8 (by omega) (by omega) (fun l hl e5 => by
            have hw1 : w = 1 := by omega
            subst hw1
            rw [ew] at q2
            intro z
            subst z
            exact q2 (by decide)))
  split
  · refine h.ap (by omega) fun s' e => ?_
    rw [hm] at e
    unfold jShip at e
    split at e
    · rename_i q
      cases e
      have g := jbs_wf hw q
      exact keep g.2 (hI.ship hw q g.1 (by omega) (by omega) (by omega) (by omega))
    · cases e
  split
  · refine h.ap (by omega) fun s' e => ?_
    unfold jCard at e
    split at e
    · cases e
    · split at e
      · cases e
      · rename_i q
        cases e
        rw [tn_nI (by omega), tn_nI (by omega)] at q ⊢
        exact keep (hw.ly (by omega) (by omega)) (hI.ly hn8 (by omega) (by omega) (by simpa using q))
  split
  · refine h.ap (by omega) fun s' e => ?_
    unfold jWage at e
    split at e
    · cases e
    · split at e
      · cases e
      · cases e
        exact keep (hw.set (by omega) (by omega) (fun i hi => by omega)) (hI.wage hn8 (by omega))
  split
  · unfold jaU
    split
    · exact h.mono (by omega)
    · rename_i q
      obtain ⟨-, h2, h3, h4⟩ := h
      refine ⟨(h3 (jaN A - 1) (by omega)).mono (by omega), ?_, fun i hi => ?_, fun z => (h4 z).mono (by omega)⟩
      · show jaN A - 1 ≤ 4
        omega
      · have hi2 : i < jaN A - 1 := hi
        exact (h3 i (by omega)).mono (by omega)
  split
  · obtain ⟨h1, h2, h3, h4⟩ := h
    exact ⟨h1.mono (by omega), h2, fun i hi => (h3 i hi).mono (by omega), fun _ => h1.mono (by omega)⟩
  split
  · refine h.ap (by omega) fun s' e => ?_
    unfold jRest at e
    split at e
    · cases e
    · rename_i q
      cases e
      exact (h.2.2.2 q).mono (by omega)
  split
  · unfold jaX
    split
    · exact h.mono (by omega)
    · refine h.ap (by omega) fun s' e => ?_
      have hl := jaT_len (c / 32)
      have hc := jaT_h (c / 32)
      obtain ⟨m, h', a1, a2, a3⟩ := jdoAll_I (by omega) hw hI (by omega) e
      exact ⟨m, h', a1, a2, by omega⟩
  · refine h.ap (by omega) fun s' e => ?_
    rw [hm] at e
    unfold jPass at e
    split at e
    · cases e
      rw [tn_nI (by omega)]
      exact (sI.hrs hw hI hh hB (by omega)).mono (by omega)
    · cases e
theorem jwf_start : jwf jS0 0 := ⟨by omega, jS0_z (by omega) (by omega), fun c hc => Or.inl (jS0_z (by omega) (by omega)), fun k hk => ⟨⟨0, by omega, jS0_z (by omega) (by omega)⟩, ⟨0, by omega, jS0_z (by omega) (by omega)⟩, ⟨0, by omega, jS0_z (by omega) (by omega)⟩⟩⟩
theorem JJ.start : JJ 0 (jS0, jz, jz, 0, 0) := ⟨⟨0, 0, jwf_start, jI.start, Nat.le_refl _⟩, Nat.zero_le _, fun i hi => absurd hi (Nat.not_lt_zero _), fun z => absurd rfl z⟩
/-- an object and what the game in it is -/
def LJ (S O : Nat → Nat → Int32) (od : Nat → Nat) (t : Nat → Int32) (len : Nat) (A : jA) : Prop := ∃ f, LI S O od (jaN A) (jaK A) t len (jaS A) (jaP A) (jaQ A) f
