section KP
variable {t : Nat → Int32} {len p : Nat}
theorem jsg_no2 {c : Int32} (h : (jsg t len c (p, false)).2 = true) : jsg t len c (p, false) = (p, true) ∧ jnxt t len p ≠ c := by
  unfold jsg at h ⊢
  split
  · rename_i h1
    refine ⟨rfl, ?_⟩
    rcases h1 with z | z
    · cases z
    · exact z
  · rename_i h1
    rw [if_neg h1] at h
    cases h
theorem pl_hit {c : Int32} (hc : c = 114 ∨ c = 115 ∨ c = 100 ∨ c = 104) {q : Nat} (e : jsg t len c (p, false) = (q, false)) : q = p + 1 ∧ jpl t len (p, false) = c ∧ jp1 t len (p, false) = (p + 1, false) ∧ jah t len p = c := by
  have h := jsg_ok (t := t) (len := len) (x := (p, false)) (c := c) (by rw [e])
  have hn : jnxt t len p = c := h.2.2
  have hl : jpl t len (p, false) = c := (if_neg (fun z => by cases z)).trans hn
  refine ⟨?_, hl, ?_, ?_⟩
  · have := h.2.1
    rw [e] at this
    exact congrArg Prod.fst this
  · refine if_neg ?_
    rintro (z | z)
    · cases z
    · rw [hl] at z
      rcases hc with y | y | y | y
      · exact z.1 y
      · exact z.2.1 y
      · exact z.2.2.1 y
      · exact z.2.2.2 y
  · unfold jah
    by_cases hp : p < len
    · rw [if_pos hp, ← hn]
      exact (if_pos hp).symm
    · rw [jnxt_end hp] at hn
      subst hn
      exact absurd hc (by decide)
theorem jqx_v {l : Int32} {x : JX} (h : x.2 = true) : jqx t len l x = x := by
  unfold jqx
  split
  · exact jcs_v h
  · split
    · have e : jns t len 99 x = x := by
        unfold jns
        rw [if_neg (by unfold jn2; rw [jdg_v h, h]; simp), jdg_v h]
      rw [e, jsg_v h, jcs_v h, jsg_v h, jcs_v h]
    · split
      · rw [jdg_v h, jdg_v h]
      · unfold jns
        rw [if_neg (by unfold jn2; rw [jdg_v h, h]; simp), jdg_v h]
theorem pl_miss (h1 : jnxt t len p ≠ 114) (h2 : jnxt t len p ≠ 115) (h3 : jnxt t len p ≠ 100) (h4 : jnxt t len p ≠ 104) : jpx t len (p, false) = (p, true) := by
  have hl : jpl t len (p, false) = jnxt t len p := if_neg (fun z => by cases z)
  have e : jp1 t len (p, false) = (p, true) := if_pos (Or.inr ⟨by rw [hl]; exact h1, by rw [hl]; exact h2, by rw [hl]; exact h3, by rw [hl]; exact h4⟩)
  unfold jpx
  rw [e]
  exact jqx_v rfl
theorem px_r (hl : jpl t len (p, false) = 114) (e : jp1 t len (p, false) = (p + 1, false)) : jpx t len (p, false) = jcs t len (p + 1, false) ∧ jpa t len (p, false) = jcv t len (p + 1, false) := by
  unfold jpx jpa jqx jqa
  rw [hl, e, if_pos rfl, if_pos rfl]
  exact ⟨rfl, rfl⟩
theorem px_s (hl : jpl t len (p, false) = 115) (e : jp1 t len (p, false) = (p + 1, false)) : jpx t len (p, false) = jqx t len 115 (p + 1, false) ∧ jpa t len (p, false) = jqa t len 115 (p + 1, false) ∧ jpb t len (p, false) 0 = jqb t len 115 (p + 1, false) 0 ∧ jpd t len (p, false) 0 = jqc t len 115 (p + 1, false) 0 := by
  unfold jpx jpa jpb jpd
  rw [hl, e]
  exact ⟨rfl, rfl, rfl, rfl⟩
theorem px_d (hl : jpl t len (p, false) = 100) (e : jp1 t len (p, false) = (p + 1, false)) : jpx t len (p, false) = jdg t len 0 7 (jdg t len 0 3 (p + 1, false)) ∧ jpa t len (p, false) = jdv t len (p + 1, false) ∧ jpb t len (p, false) 0 = jdv t len (jdg t len 0 3 (p + 1, false)) := by
  unfold jpx jpa jpb jqx jqa jqb
  rw [hl, e, if_neg (by decide), if_neg (by decide), if_pos rfl, if_neg (by decide), if_neg (by decide), if_pos rfl, if_neg (by decide), if_neg (by decide), if_pos rfl]
  exact ⟨rfl, rfl, rfl⟩
theorem px_h (hl : jpl t len (p, false) = 104) (e : jp1 t len (p, false) = (p + 1, false)) : jpx t len (p, false) = jns t len 20 (p + 1, false) ∧ jpa t len (p, false) = jnv t len 20 (p + 1, false) := by
  unfold jpx jpa jqx jqa
  rw [hl, e, if_neg (by decide), if_neg (by decide), if_neg (by decide), if_neg (by decide), if_neg (by decide), if_neg (by decide)]
  exact ⟨rfl, rfl⟩
theorem pR_r {a b c nu ce ha wi : Int32} (h : ce = a) : pR 114 a b c nu ce ha wi := ⟨fun _ => h, fun z => absurd z (by decide), fun z => absurd z (by decide), fun z => absurd z (by decide)⟩
theorem pR_s {a b c nu ce ha wi : Int32} (h : nu = a) (h2 : ce = b) (h3 : ha = c) : pR 115 a b c nu ce ha wi := ⟨fun z => absurd z (by decide), fun _ => ⟨h, h2, h3⟩, fun z => absurd z (by decide), fun z => absurd z (by decide)⟩
theorem pR_d {a b c nu ce ha wi : Int32} (h : nu = a) (h2 : wi = b) : pR 100 a b c nu ce ha wi := ⟨fun z => absurd z (by decide), fun z => absurd z (by decide), fun _ => ⟨h, h2⟩, fun z => absurd z (by decide)⟩
theorem pR_h {a b c nu ce ha wi : Int32} (h : nu = a) : pR 104 a b c nu ce ha wi := ⟨fun z => absurd z (by decide), fun z => absurd z (by decide), fun z => absurd z (by decide), fun _ => h⟩
end KP
