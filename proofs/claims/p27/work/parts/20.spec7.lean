/-! the parts of a text, and their doing -/
section TM
variable {t : Nat → Int32} {len : Nat} {x : JX}
theorem jdg_ok {lo hi : Int32} (h : (jdg t len lo hi x).2 = false) : x.2 = false ∧ jdg t len lo hi x = (x.1 + 1, false) ∧ jin (jdv t len x) lo hi = true := by
  unfold jdg at h ⊢
  split at h
  · cases h
  · rename_i h1
    rw [if_neg h1]
    simp only [not_or, Bool.not_eq_true, Bool.not_eq_false] at h1
    exact ⟨h1.1, rfl, h1.2⟩
theorem jsg_ok {c : Int32} (h : (jsg t len c x).2 = false) : x.2 = false ∧ jsg t len c x = (x.1 + 1, false) ∧ jnxt t len x.1 = c := by
  unfold jsg at h ⊢
  split at h
  · cases h
  · rename_i h1
    rw [if_neg h1]
    simp only [not_or, Bool.not_eq_true, Classical.not_not] at h1
    exact ⟨h1.1, rfl, h1.2⟩
theorem jcs_ok (h : (jcs t len x).2 = false) : x.2 = false ∧ jcs t len x = (x.1 + 2, false) := by
  unfold jcs at h ⊢
  have h1 := jdg_ok h
  have h2 := jdg_ok h1.1
  refine ⟨h2.1, ?_⟩
  rw [h1.2.1, h2.2.1]
theorem jns_ok {m : Int32} (h : (jns t len m x).2 = false) : x.2 = false ∧ x.1 + 1 ≤ (jns t len m x).1 := by
  unfold jns at h ⊢
  split at h
  · rename_i h1
    rw [if_pos h1]
    have h2 := jdg_ok h
    rw [h2.2.1]
    exact ⟨h2.1, by show x.1 + 1 ≤ x.1 + 1 + 1; omega⟩
  · rename_i h1
    rw [if_neg h1]
    have h2 := jdg_ok h
    rw [h2.2.1]
    exact ⟨h2.1, by show x.1 + 1 ≤ x.1 + 1; omega⟩
theorem jp1_ok (h : (jp1 t len x).2 = false) : x.2 = false ∧ jp1 t len x = (x.1 + 1, false) ∧ jpl t len x = jnxt t len x.1 ∧ (jpl t len x = 114 ∨ jpl t len x = 115 ∨ jpl t len x = 100 ∨ jpl t len x = 104) := by
  unfold jp1 at h ⊢
  split at h
  · cases h
  · rename_i h1
    rw [if_neg h1]
    simp only [not_or, Bool.not_eq_true] at h1
    refine ⟨h1.1, rfl, if_neg (by rw [h1.1]; decide), ?_⟩
    have h2 := h1.2
    grind
theorem jqx_ok {l : Int32} (h : (jqx t len l x).2 = false) : x.2 = false ∧ x.1 + 1 ≤ (jqx t len l x).1 := by
  unfold jqx at h ⊢
  split at h
  · rename_i h1
    rw [if_pos h1]
    have h2 := jcs_ok h
    rw [h2.2]
    exact ⟨h2.1, by show x.1 + 1 ≤ x.1 + 2; omega⟩
  · rename_i h1
    rw [if_neg h1]
    split at h
    · rename_i h3
      rw [if_pos h3]
      have a1 := jcs_ok h
      have a2 := jsg_ok a1.1
      have a3 := jcs_ok a2.1
      have a4 := jsg_ok a3.1
      have a5 := jns_ok a4.1
      rw [a1.2, a2.2.1, a3.2, a4.2.1]
      exact ⟨a5.1, by show x.1 + 1 ≤ (jns t len 99 x).1 + 1 + 2 + 1 + 2; omega⟩
    · rename_i h3
      rw [if_neg h3]
      split at h
      · rename_i h4
        rw [if_pos h4]
        have a1 := jdg_ok h
        have a2 := jdg_ok a1.1
        rw [a1.2.1, a2.2.1]
        exact ⟨a2.1, by show x.1 + 1 ≤ x.1 + 1 + 1; omega⟩
      · rename_i h4
        rw [if_neg h4]
        exact jns_ok h
theorem jpx_ok (h : (jpx t len x).2 = false) : x.2 = false ∧ x.1 + 2 ≤ (jpx t len x).1 ∧ jp1 t len x = (x.1 + 1, false) ∧ jpl t len x = jnxt t len x.1 ∧ (jpl t len x = 114 ∨ jpl t len x = 115 ∨ jpl t len x = 104 ∨ (jpl t len x = 100 ∧ ∃ k, k < 4 ∧ jpa t len x = nI k)) := by
  have h1 := jqx_ok h
  have h2 := jp1_ok h1.1
  have h3 := h1.2
  refine ⟨h2.1, ?_, h2.2.1, h2.2.2.1, ?_⟩
  · rw [h2.2.1] at h3
    unfold jpx
    rw [h2.2.1]
    have h4 : x.1 + 1 + 1 ≤ (jqx t len (jpl t len x) (x.1 + 1, false)).1 := h3
    omega
  · rcases h2.2.2.2 with e | e | e | e
    · exact Or.inl e
    · exact Or.inr (Or.inl e)
    · refine Or.inr (Or.inr (Or.inr ⟨e, ?_⟩))
      unfold jpx jqx at h
      rw [e, if_neg (by decide), if_neg (by decide), if_pos rfl] at h
      have h5 := jdg_ok (jdg_ok h).1
      obtain ⟨k, hk, ek⟩ := jin_of (n := 3) rfl (by decide) h5.2.2
      refine ⟨k, by omega, ?_⟩
      unfold jpa jqa
      rw [e, if_neg (by decide), if_neg (by decide), if_pos rfl]
      exact ek
    · exact Or.inr (Or.inr (Or.inl e))
end TM
def jrd (t : Nat → Int32) (len : Nat) : Nat → JX → JX × List JX
  | 0, x => (x, [])
  | d + 1, x => if (jpx t len x).2 = true ∨ ¬ (jpx t len x).1 < len then (jpx t len x, [x]) else if (jsg t len 59 (jpx t len x)).2 = true then (jsg t len 59 (jpx t len x), [x]) else ((jrd t len d (jsg t len 59 (jpx t len x))).1, x :: (jrd t len d (jsg t len 59 (jpx t len x))).2)
def jRd (t : Nat → Int32) (len : Nat) : JX × List JX := jrd t len 61 (0, false)
section JR
variable {t : Nat → Int32} {len d : Nat} {x : JX}
theorem jrd_s1 (h : (jpx t len x).2 = true ∨ ¬ (jpx t len x).1 < len) : jrd t len (d + 1) x = (jpx t len x, [x]) := by
  show (if _ then _ else _) = _
  rw [if_pos h]
theorem jrd_s2 (h : (jpx t len x).2 = false) (h1 : (jpx t len x).1 < len) (h2 : (jsg t len 59 (jpx t len x)).2 = true) : jrd t len (d + 1) x = (jsg t len 59 (jpx t len x), [x]) := by
  show (if _ then _ else (if _ then _ else _)) = _
  rw [if_neg (by rintro (z | z); rw [h] at z; cases z; exact z h1), if_pos h2]
theorem jrd_s3 (h : (jpx t len x).2 = false) (h1 : (jpx t len x).1 < len) (h2 : (jsg t len 59 (jpx t len x)).2 = false) : jrd t len (d + 1) x = ((jrd t len d (jsg t len 59 (jpx t len x))).1, x :: (jrd t len d (jsg t len 59 (jpx t len x))).2) := by
  show (if _ then _ else (if _ then _ else _)) = _
  rw [if_neg (by rintro (z | z); rw [h] at z; cases z; exact z h1), if_neg (by rw [h2]; decide)]
end JR
theorem jrd_len (t : Nat → Int32) (len : Nat) : ∀ d x, (jrd t len d x).2.length ≤ d
  | 0, _ => Nat.le_refl 0
  | d + 1, x => by
    unfold jrd
    split
    · exact Nat.succ_le_succ (Nat.zero_le d)
    · split
      · exact Nat.succ_le_succ (Nat.zero_le d)
      · exact Nat.succ_le_succ (jrd_len t len d _)
def jch (t : Nat → Int32) (len : Nat) : List JX → Prop
  | [] => True
  | x :: L => (jpx t len x).2 = false ∧ x.1 ≤ len ∧ (∀ z ∈ L.head?, z = ((jpx t len x).1 + 1, (jpx t len x).2)) ∧ jch t len L
theorem jrd_head (t : Nat → Int32) (len d : Nat) (x : JX) : (jrd t len (d + 1) x).2.head? = some x := by
  unfold jrd
  split
  · rfl
  · split <;> rfl
theorem jrd_ch (t : Nat → Int32) (len : Nat) : ∀ d x, x.1 ≤ len → len - x.1 < d → (jrd t len d x).1.2 = false → jch t len (jrd t len d x).2
  | 0, _, _, h, _ => absurd h (Nat.not_lt_zero _)
  | d + 1, x, hx, hd, h => by
    unfold jrd at h ⊢
    split
    · rename_i h1
      rw [if_pos h1] at h
      exact ⟨h, hx, ⟨(fun z hz => by cases hz), trivial⟩⟩
    · rename_i h1
      rw [if_neg h1] at h
      simp only [not_or, Bool.not_eq_true, Classical.not_not] at h1
      split
      · rename_i h2
        rw [if_pos h2] at h
        exact ⟨h1.1, hx, ⟨(fun z hz => by cases hz), trivial⟩⟩
      · rename_i h2
        rw [if_neg h2] at h
        have h3 := jsg_ok (by simpa using h2)
        have h4 := (jpx_ok h1.1).2.1
        have h5 : (jsg t len 59 (jpx t len x)).1 = (jpx t len x).1 + 1 := by rw [h3.2.1]
        have h6 := jrd_ch t len d (jsg t len 59 (jpx t len x)) (by omega) (by omega) h
        refine ⟨h1.1, hx, ?_, h6⟩
        intro z hz
        cases d with
        | zero => cases hz
        | succ d =>
          rw [jrd_head] at hz
          cases hz
          rw [h3.2.1, h1.1]
/-! doing a part -/
def jbar (s : Nat → Int32) (l a b c : Int32) : Int32 := if l = 114 then jbr a else if l = 115 then jbs s (tn (s 180)) a b c else if l = 104 then jbp s a else 0
def jdo2 (s : Nat → Int32) (l a b c : Int32) : Nat → Int32 := if l = 114 then upd s (tn a) (1 - s (tn a)) else if l = 115 then jcm s (tn (s 180)) a b c else if l = 100 then upd s (100 + 5 * tn a + 3) (s (100 + 5 * tn a + 3) ^^^ ((1 : Int32) <<< (b &&& 31))) else jhrs s (tn (s 180)) (tn a)
def jdo (s : Nat → Int32) (l a b c : Int32) : Int32 × (Nat → Int32) := if jbar s l a b c < 0 then (jbar s l a b c, s) else (0, jdo2 s l a b c)
section JD
variable {s : Nat → Int32} {a b c : Int32}
theorem jba_r : jbar s 114 a b c = jbr a := if_pos rfl
theorem jba_s : jbar s 115 a b c = jbs s (tn (s 180)) a b c := (if_neg (by decide)).trans (if_pos rfl)
theorem jba_h : jbar s 104 a b c = jbp s a := (if_neg (by decide)).trans ((if_neg (by decide)).trans (if_pos rfl))
theorem jba_d : jbar s 100 a b c = 0 := (if_neg (by decide)).trans ((if_neg (by decide)).trans (if_neg (by decide)))
theorem jd2_r : jdo2 s 114 a b c = upd s (tn a) (1 - s (tn a)) := if_pos rfl
theorem jd2_s : jdo2 s 115 a b c = jcm s (tn (s 180)) a b c := (if_neg (by decide)).trans (if_pos rfl)
theorem jd2_d : jdo2 s 100 a b c = upd s (100 + 5 * tn a + 3) (s (100 + 5 * tn a + 3) ^^^ ((1 : Int32) <<< (b &&& 31))) := (if_neg (by decide)).trans ((if_neg (by decide)).trans (if_pos rfl))
theorem jd2_h : jdo2 s 104 a b c = jhrs s (tn (s 180)) (tn a) := (if_neg (by decide)).trans ((if_neg (by decide)).trans (if_neg (by decide)))
theorem jdo_n {l : Int32} (h : 0 ≤ jbar s l a b c) : jdo s l a b c = (0, jdo2 s l a b c) := if_neg (Int32.not_lt.mpr h)
theorem jdo_b {l : Int32} (h : ¬ 0 ≤ jbar s l a b c) : jdo s l a b c = (jbar s l a b c, s) := if_pos (Int32.not_le.mp h)
end JD
theorem jwf.tn {s : Nat → Int32} {n : Nat} (h : jwf s n) : tn (s 180) = n := by rw [h.2.1]; exact tn_nI (by have := h.1; omega)
theorem jwf.rock {s : Nat → Int32} {n c : Nat} (h : jwf s n) (hc : c < 100) : jwf (upd s c (1 - s c)) n := by
  refine ⟨h.1, by rw [upd_n (by omega)]; exact h.2.1, fun i hi => ?_, fun k hk => ?_⟩
  · by_cases e : i = c
    · subst e
      rw [upd_s]
      rcases h.2.2.1 i hi with z | z
      · rw [z]; exact Or.inr (by decide)
      · rw [z]; exact Or.inl (by decide)
    · rw [upd_n e]; exact h.2.2.1 i hi
  · rw [upd_n (by omega), upd_n (by omega), upd_n (by omega)]
    exact h.2.2.2 k hk
theorem jwf.cm {s : Nat → Int32} {n w c h : Nat} (hw : jwf s n) (hn : n < 8) (h1 : w < 100) (h2 : c < 100) (h3 : h < 100) : jwf (jcm s n (nI w) (nI c) (nI h)) (n + 1) := by
  refine ⟨by omega, ?_, fun i hi => ?_, fun k hk => ?_⟩
  · unfold jcm
    rw [upd_s, upd_n (by omega), upd_n (by omega), upd_n (by omega), upd_n (by omega), upd_n (by omega), hw.2.1, nI_1]
  · unfold jcm
    rw [upd_n (by omega), upd_n (by omega), upd_n (by omega), upd_n (by omega), upd_n (by omega), upd_n (by omega)]
    exact hw.2.2.1 i hi
  · by_cases e : k = n
    · subst e
      unfold jcm
      refine ⟨⟨w, h1, ?_⟩, ⟨c, h2, ?_⟩, ⟨h, h3, ?_⟩⟩
      · rw [upd_n (by omega), upd_n (by omega), upd_n (by omega), upd_n (by omega), upd_n (by omega), upd_s]
      · rw [upd_n (by omega), upd_n (by omega), upd_n (by omega), upd_n (by omega), upd_s]
      · rw [upd_n (by omega), upd_n (by omega), upd_n (by omega), upd_s]
    · have z : ∀ i, i < 5 → jcm s n (nI w) (nI c) (nI h) (140 + 5 * k + i) = s (140 + 5 * k + i) := by
        intro i hi
        unfold jcm
        rw [upd_n (by omega), upd_n (by omega), upd_n (by omega), upd_n (by omega), upd_n (by omega), upd_n (by omega)]
      rw [z 0 (by omega), z 1 (by omega), z 2 (by omega)]
      exact hw.2.2.2 k hk
theorem jbs_wf {s : Nat → Int32} {n : Nat} {w c h : Int32} (hw : jwf s n) (h0 : 0 ≤ jbs s n w c h) : n < 8 ∧ jwf (jcm s n w c h) (n + 1) := by
  have hj := jbs_in h0
  have hn : n < 8 := by
    rcases Nat.lt_or_ge n 8 with z | z
    · exact z
    · exact absurd (by rw [hw.2.1, show n = 8 by have := hw.1; omega]; rfl) hj.2.2.2.2.2.2.2
  obtain ⟨c1, hc1, rfl⟩ := jin_of (n := 99) rfl (by decide) hj.1
  obtain ⟨h1, hh1, rfl⟩ := jin_of (n := 99) rfl (by decide) hj.2.1
  obtain ⟨w1, -, hw1, rfl⟩ := jin_of1 (n := 99) rfl (by decide) hj.2.2.1
  exact ⟨hn, hw.cm hn (by omega) (by omega) (by omega)⟩
theorem jdo_wf {s : Nat → Int32} {n : Nat} {l a b c : Int32} (hw : jwf s n) (hl : l = 114 ∨ l = 115 ∨ l = 104 ∨ (l = 100 ∧ ∃ k, k < 4 ∧ a = nI k)) : ∃ m, jwf (jdo s l a b c).2 m := by
  unfold jdo
  split
  · exact ⟨n, hw⟩
  · rename_i h0
    replace h0 := Int32.not_lt.mp h0
    unfold jbar at h0
    show ∃ m, jwf (jdo2 s l a b c) m
    unfold jdo2
    rw [hw.tn] at h0 ⊢
    rcases hl with e | e | e | ⟨e, k, hk, ek⟩
    · subst e
      rw [if_pos rfl] at h0 ⊢
      obtain ⟨j, hj, rfl⟩ := jbr_in h0
      rw [tn_nI (by omega)]
      exact ⟨n, hw.rock (by omega)⟩
    · subst e
      rw [if_neg (by decide), if_pos rfl] at h0 ⊢
      exact ⟨n + 1, (jbs_wf hw h0).2⟩
    · subst e
      rw [if_neg (by decide), if_neg (by decide), if_neg (by decide)]
      exact ⟨n, hw.hrs _⟩
    · subst e
      rw [if_neg (by decide), if_neg (by decide), if_pos rfl, ek, tn_nI (by omega)]
      exact ⟨n, hw.set (by omega) (by omega) (fun i hi => by omega)⟩
theorem jdo_nrm (t : Nat → Int32) (len : Nat) (s : Nat → Int32) (x : JX) (b c : Int32) : jdo s (jpl t len x) (jpa t len x) (jpb t len x b) (jpd t len x c) = jdo s (jpl t len x) (jpa t len x) (jpb t len x 0) (jpd t len x 0) := by
  by_cases e1 : jpl t len x = 114
  · unfold jdo jbar jdo2; simp [e1]
  · by_cases e2 : jpl t len x = 115
    · unfold jpb jpd jqb jqc; simp [e2]
    · by_cases e3 : jpl t len x = 100
      · unfold jpb jqb jdo jbar jdo2; simp [e3]
      · unfold jdo jbar jdo2; simp [e1, e2, e3]
def jdl (t : Nat → Int32) (len : Nat) : List JX → (Nat → Int32) → Int32 × (Nat → Int32)
  | [], s => (0, s)
  | x :: L, s => if (jdo s (jpl t len x) (jpa t len x) (jpb t len x 0) (jpd t len x 0)).1 = 0 then jdl t len L (jdo s (jpl t len x) (jpa t len x) (jpb t len x 0) (jpd t len x 0)).2 else jdo s (jpl t len x) (jpa t len x) (jpb t len x 0) (jpd t len x 0)
def jdoAll (t : Nat → Int32) (len : Nat) (s : Nat → Int32) : Int32 × Option (Nat → Int32) :=
  if (jRd t len).1.2 = true then (-100 - nI (jRd t len).1.1, none) else if 0 ≤ (jdl t len (jRd t len).2 s).1 then (nI (jRd t len).2.length, some (jdl t len (jRd t len).2 s).2) else ((jdl t len (jRd t len).2 s).1, none)
def jfault (t : Nat → Int32) (len : Nat) : Int32 := if (jRd t len).1.2 = true then nI (jRd t len).1.1 else -5
theorem jcp_at {g s : Nat → Int32} {k : Nat} : jcp g s k k = g k := if_neg (Nat.lt_irrefl k)
