section KQ
variable {t : Nat → Int32} {len p : Nat}
theorem jdg_c {lo hi : Int32} : jdg t len lo hi (p, false) = (p, true) ∨ jdg t len lo hi (p, false) = (p + 1, false) := by
  unfold jdg
  split
  · exact Or.inl rfl
  · exact Or.inr rfl
theorem kdg_ge {lo hi : Int32} (h0 : 0 ≤ lo) (h : 0 ≤ kdg t len lo hi p) : jdg t len lo hi (p, false) = (p + 1, false) ∧ kdg t len lo hi p = jdv t len (p, false) ∧ jin (jdv t len (p, false)) lo hi = true := by
  rcases jdg_c (t := t) (len := len) (p := p) (lo := lo) (hi := hi) with e | e
  · exact absurd h (Int32.not_le.mpr ((kdg_neg h0).mpr (by rw [e])))
  · refine ⟨e, ?_, (jdg_ok (by rw [e])).2.2⟩
    unfold kdg
    rw [e]
    rfl
theorem kdg_lt {lo hi : Int32} (h0 : 0 ≤ lo) (h : ¬ 0 ≤ kdg t len lo hi p) : jdg t len lo hi (p, false) = (p, true) ∧ kdg t len lo hi p = -5 := by
  rcases jdg_c (t := t) (len := len) (p := p) (lo := lo) (hi := hi) with e | e
  · refine ⟨e, ?_⟩
    unfold kdg
    rw [e]
    rfl
  · have := (kdg_neg (t := t) (len := len) (p := p) (hi := hi) h0).mp (Int32.not_le.mp h)
    rw [e] at this
    cases this
theorem kcl_1 (e1 : jdg t len 0 9 (p, false) = (p, true)) : kcl t len p = -5 ∧ (jcs t len (p, false)).1 = p := by
  have e : jcs t len (p, false) = (p, true) := by unfold jcs; rw [e1, jdg_w]
  exact ⟨by unfold kcl; rw [e]; rfl, by rw [e]⟩
theorem kcl_2 (e1 : jdg t len 0 9 (p, false) = (p + 1, false)) (e2 : jdg t len 0 9 (p + 1, false) = (p + 1, true)) : kcl t len p = -5 ∧ (jcs t len (p, false)).1 = p + 1 := by
  have e : jcs t len (p, false) = (p + 1, true) := by unfold jcs; rw [e1, e2]
  exact ⟨by unfold kcl; rw [e]; rfl, by rw [e]⟩
theorem kcl_3 (e1 : jdg t len 0 9 (p, false) = (p + 1, false)) (e2 : jdg t len 0 9 (p + 1, false) = (p + 1 + 1, false)) : kcl t len p = 10 * jdv t len (p + 1, false) + jdv t len (p, false) ∧ (jcs t len (p, false)).1 = p + 1 + 1 := by
  have e : jcs t len (p, false) = (p + 1 + 1, false) := by unfold jcs; rw [e1, e2]
  refine ⟨?_, by rw [e]⟩
  unfold kcl
  rw [e]
  show jcv t len (p, false) = _
  unfold jcv
  rw [e1]
theorem nm_fin : ∀ a, a < 10 → ∀ k, k < 10 → jin (nI k) 0 (cmin 9 (99 - 10 * nI a)) = decide (10 * nI a + nI (48 + k) - 48 ≤ 99) ∧ jin (nI k) 0 (cmin 9 (20 - 10 * nI a)) = decide (10 * nI a + nI (48 + k) - 48 ≤ 20) := by decide +kernel
theorem nm_in : ∀ k, k < 10 → jin (nI (48 + k)) 48 57 = true := by decide +kernel
theorem nm_eq {m v c : Int32} (hm : m = 99 ∨ m = 20) (hv : jin v 1 9 = true) : jin (c - 48) 0 (cmin 9 (m - 10 * v)) = (jin c 48 57 && decide (10 * v + c - 48 ≤ m)) := by
  obtain ⟨a, -, ha, rfl⟩ := jin_of1 (n := 9) rfl (by decide) hv
  by_cases h : jin (c - 48) 0 9 = true
  · obtain ⟨k, hk, ek⟩ := jin_of (n := 9) rfl (by decide) h
    have ec : c = nI (48 + k) := by
      have : c = nI k + 48 := by rw [← ek]; grind
      rw [this, show (48 : Int32) = nI 48 from rfl, nI_add, Nat.add_comm]
    rw [ek]
    subst ec
    rw [nm_in k (by omega), Bool.true_and]
    rcases hm with z | z
    · subst z; exact (nm_fin a (by omega) k (by omega)).1
    · subst z; exact (nm_fin a (by omega) k (by omega)).2
  · have h1 : jin (c - 48) 0 (cmin 9 (m - 10 * nI a)) = false := by
      cases e : jin (c - 48) 0 (cmin 9 (m - 10 * nI a))
      · rfl
      · exfalso
        apply h
        unfold jin cmin at e
        simp only [Bool.and_eq_true, decide_eq_true_eq] at e
        unfold jin
        simp only [Bool.and_eq_true, decide_eq_true_eq]
        refine ⟨e.1, ?_⟩
        have e2 := e.2
        split at e2
        · rename_i z
          exact Int32.le_trans e2 (Int32.le_of_lt z)
        · exact e2
    rw [h1]
    cases e : jin c 48 57
    · rfl
    · exfalso
      apply h
      have e' : jin c 0 57 = true := by
        unfold jin at e ⊢
        simp only [Bool.and_eq_true, decide_eq_true_eq] at e ⊢
        exact ⟨Int32.le_trans (by decide) e.1, e.2⟩
      obtain ⟨k, hk, rfl⟩ := jin_of (n := 57) rfl (by decide) e'
      have hk2 : 48 ≤ k := by
        unfold jin at e
        simp only [Bool.and_eq_true, decide_eq_true_eq] at e
        exact (nI_leI (a := 48) (b := k) (by omega) (by omega)).mp e.1
      obtain ⟨j, rfl⟩ : ∃ j, k = j + 48 := ⟨k - 48, by omega⟩
      rw [← nI_add, show nI 48 = 48 from rfl, show nI j + 48 - 48 = nI j by grind]
      exact jin_nI (j := j) (n := 9) (by omega) (by decide)
theorem knm_1 {m : Int32} (e1 : jdg t len 1 9 (p, false) = (p, true)) : knm t len m p = -5 ∧ (jns t len m (p, false)).1 = p := by
  have e0 : jn2 t len m (p, false) = false := by unfold jn2; rw [e1]; rfl
  have e : jns t len m (p, false) = (p, true) := by unfold jns; rw [e0, e1]; rfl
  exact ⟨by unfold knm; rw [e]; rfl, by rw [e]⟩
theorem jn2_eq {m : Int32} (hm : m = 99 ∨ m = 20) (e1 : jdg t len 1 9 (p, false) = (p + 1, false)) : jn2 t len m (p, false) = jin (jdv t len (p + 1, false)) 0 (cmin 9 (m - 10 * jdv t len (p, false))) := by
  have hv := (jdg_ok (t := t) (len := len) (x := (p, false)) (lo := 1) (hi := 9) (by rw [e1])).2.2
  unfold jn2
  rw [e1]
  show (true && jin (jnxt t len (p + 1)) 48 57 && decide (10 * jdv t len (p, false) + jnxt t len (p + 1) - 48 ≤ m)) = jin (jnxt t len (p + 1) - 48) 0 _
  rw [nm_eq hm hv, Bool.true_and]
theorem knm_2 {m : Int32} (hm : m = 99 ∨ m = 20) (e1 : jdg t len 1 9 (p, false) = (p + 1, false)) (e2 : jdg t len 0 (cmin 9 (m - 10 * jdv t len (p, false))) (p + 1, false) = (p + 1, true)) : knm t len m p = jdv t len (p, false) ∧ (jns t len m (p, false)).1 = p + 1 := by
  have e0 : jn2 t len m (p, false) = false := by
    rw [jn2_eq hm e1]
    unfold jdg at e2
    split at e2
    · rename_i h
      rcases h with z | z
      · cases z
      · exact z
    · cases e2
  have e : jns t len m (p, false) = (p + 1, false) := by unfold jns; rw [e0, e1]; rfl
  refine ⟨?_, by rw [e]⟩
  unfold knm jnv
  rw [e, e0]
  rfl
theorem knm_3 {m : Int32} (hm : m = 99 ∨ m = 20) (e1 : jdg t len 1 9 (p, false) = (p + 1, false)) (e2 : jdg t len 0 (cmin 9 (m - 10 * jdv t len (p, false))) (p + 1, false) = (p + 1 + 1, false)) : knm t len m p = 10 * jdv t len (p, false) + jdv t len (p + 1, false) ∧ (jns t len m (p, false)).1 = p + 1 + 1 := by
  have e0 : jn2 t len m (p, false) = true := by
    rw [jn2_eq hm e1]
    exact (jdg_ok (by rw [e2])).2.2
  have e : jns t len m (p, false) = (p + 1 + 1, false) := by unfold jns; rw [e0, e1]; rfl
  refine ⟨?_, by rw [e]⟩
  unfold knm jnv
  rw [e, e0, e1]
  show 10 * jdv t len (p, false) + jnxt t len (p + 1) - 48 = 10 * jdv t len (p, false) + (jnxt t len (p + 1) - 48)
  grind
end KQ
