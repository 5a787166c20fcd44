def pfu (pf : Nat → Nat → Int32) (i : Nat) (f : Nat → Int32) : Nat → Nat → Int32 := fun j => if j = i then f else pf j
theorem pfu_at {pf : Nat → Nat → Int32} {i : Nat} {f : Nat → Int32} : pfu pf i f i = f := if_pos rfl
theorem pfu_self {pf : Nat → Nat → Int32} {i : Nat} : pfu pf i (pf i) = pf := by
  funext j
  unfold pfu
  by_cases h : j = i
  · rw [if_pos h, h]
  · rw [if_neg h]
theorem pfu_pfu {pf : Nat → Nat → Int32} {i : Nat} {f g : Nat → Int32} : pfu (pfu pf i f) i g = pfu pf i g := by
  funext j
  unfold pfu
  by_cases h : j = i
  · rw [if_pos h, if_pos h]
  · rw [if_neg h, if_neg h, if_neg h]
theorem tW_qu {G : bkG} {T i : Nat} {t : Nat → Int32} {ln pc pl : Int32} {pf : Nat → Nat → Int32} {f : Nat → Int32} {M : bkM} (hi : i < 20) : tW G T t ln pc pl (pfu pf i f) M (T + 3 + i) = some (.inr (4, ptF f)) := by rw [tW_q hi, pfu_at]
theorem tS_qu {G : bkG} {T i : Nat} {t : Nat → Int32} {ln pc pl : Int32} {pf : Nat → Nat → Int32} {f g : Nat → Int32} {M : bkM} (hi : i < 20) : bku (tW G T t ln pc pl (pfu pf i f) M) (T + 3 + i) (.inr (4, ptF g)) = tW G T t ln pc pl (pfu pf i g) M := by
  rw [tS_q hi]
  exact congrArg (fun z => tW G T t ln pc pl z M) pfu_pfu
theorem jx_f {y : JX} (h : y.2 = false) : y = (y.1, false) := by
  obtain ⟨a, b⟩ := y
  cases h
  rfl
section KR
variable {t : Nat → Int32} {len p : Nat} {x : JX}
theorem jsg_v {c : Int32} (h : x.2 = true) : jsg t len c x = x := by
  obtain ⟨p, w⟩ := x
  cases h
  exact jsg_w
theorem jcs_v (h : x.2 = true) : jcs t len x = x := by
  obtain ⟨p, w⟩ := x
  cases h
  unfold jcs
  rw [jdg_w, jdg_w]
theorem jdg_v {lo hi : Int32} (h : x.2 = true) : jdg t len lo hi x = x := by
  obtain ⟨p, w⟩ := x
  cases h
  exact jdg_w
theorem kcl_neg : (kcl t len p < 0 ↔ (jcs t len (p, false)).2 = true) := by
  unfold kcl
  by_cases h : (jcs t len (p, false)).2 = true
  · rw [if_pos h]; simp [h]
  · rw [if_neg h]
    refine ⟨fun z => absurd z (Int32.not_lt.mpr ?_), fun z => absurd z h⟩
    have h1 := jdg_ok (show (jdg t len 0 9 (jdg t len 0 9 (p, false))).2 = false by simpa [jcs] using h)
    have h2 := jdg_ok h1.1
    obtain ⟨a, ha, ea⟩ := jin_of (n := 9) rfl (by decide) h1.2.2
    obtain ⟨b, hb, eb⟩ := jin_of (n := 9) rfl (by decide) h2.2.2
    unfold jcv
    rw [ea, eb, show (10 : Int32) = nI 10 from rfl, pk_mul, nI_add]
    exact nI_pos' (by omega)
theorem knm_neg {m : Int32} : (knm t len m p < 0 ↔ (jns t len m (p, false)).2 = true) := by
  unfold knm
  by_cases h : (jns t len m (p, false)).2 = true
  · rw [if_pos h]; simp [h]
  · rw [if_neg h]
    refine ⟨fun z => absurd z (Int32.not_lt.mpr ?_), fun z => absurd z h⟩
    have h0 : (jdg t len 1 9 (p, false)).2 = false := by
      have h' : (jns t len m (p, false)).2 = false := by simpa using h
      unfold jns at h'
      split at h' <;> exact h'
    obtain ⟨a, -, ha, ea⟩ := jin_of1 (n := 9) rfl (by decide) (jdg_ok h0).2.2
    unfold jnv
    split
    · rename_i h1
      unfold jn2 at h1
      simp only [Bool.and_eq_true] at h1
      have e' : jin (jnxt t len (jdg t len 1 9 (p, false)).1) 0 57 = true := by
        have e := h1.1.2
        unfold jin at e ⊢
        simp only [Bool.and_eq_true, decide_eq_true_eq] at e ⊢
        exact ⟨Int32.le_trans (by decide) e.1, e.2⟩
      obtain ⟨k, hk, ek⟩ := jin_of (n := 57) rfl (by decide) e'
      have hk2 : 48 ≤ k := by
        have e := h1.1.2
        unfold jin at e
        simp only [Bool.and_eq_true, decide_eq_true_eq] at e
        rw [ek] at e
        exact (nI_leI (a := 48) (b := k) (by omega) (by omega)).mp e.1
      obtain ⟨j, rfl⟩ : ∃ j, k = j + 48 := ⟨k - 48, by omega⟩
      rw [ea, ek, ← nI_add, show nI 48 = 48 from rfl, show 10 * nI a + (nI j + 48) - 48 = 10 * nI a + nI j by grind, show (10 : Int32) = nI 10 from rfl, pk_mul, nI_add]
      exact nI_pos' (by omega)
    · rw [ea]
      exact nI_pos' (by omega)
theorem knm_ok {m : Int32} (h : ¬ knm t len m p < 0) : ∃ q, jns t len m (p, false) = (q, false) ∧ knm t len m p = jnv t len m (p, false) := by
  have h1 : (jns t len m (p, false)).2 = false := by
    cases e : (jns t len m (p, false)).2
    · rfl
    · exact absurd (knm_neg.mpr e) h
  refine ⟨(jns t len m (p, false)).1, jx_f h1, ?_⟩
  unfold knm
  rw [h1]
  rfl
theorem kcl_ok (h : ¬ kcl t len p < 0) : ∃ q, jcs t len (p, false) = (q, false) ∧ kcl t len p = jcv t len (p, false) := by
  have h1 : (jcs t len (p, false)).2 = false := by
    cases e : (jcs t len (p, false)).2
    · rfl
    · exact absurd (kcl_neg.mpr e) h
  refine ⟨(jcs t len (p, false)).1, jx_f h1, ?_⟩
  unfold kcl
  rw [h1]
  rfl
theorem jsg_ex {c : Int32} (h : ¬ bi (!(jsg t len c (p, false)).2) = 0) : ∃ q, jsg t len c (p, false) = (q, false) := by
  have h1 : (jsg t len c (p, false)).2 = false := by
    cases e : (jsg t len c (p, false)).2
    · rfl
    · rw [e] at h; exact absurd rfl h
  exact ⟨(jsg t len c (p, false)).1, jx_f h1⟩
theorem jsg_no {c : Int32} (h : bi (!(jsg t len c (p, false)).2) = 0) : (jsg t len c (p, false)).2 = true := by
  cases e : (jsg t len c (p, false)).2
  · rw [e] at h; exact absurd h (by decide)
  · rfl
theorem jqs : jqx t len 115 x = jcs t len (jsg t len 62 (jcs t len (jsg t len 58 (jns t len 99 x)))) := by
  unfold jqx
  rw [if_neg (by decide), if_pos rfl]
theorem jqs_1 (h : (jns t len 99 x).2 = true) : jqx t len 115 x = jns t len 99 x := by rw [jqs, jsg_v h, jcs_v h, jsg_v h, jcs_v h]
theorem jqs_2 {y : JX} (e : jns t len 99 x = y) (h : (jsg t len 58 y).2 = true) : jqx t len 115 x = jsg t len 58 y := by rw [jqs, e, jcs_v h, jsg_v h, jcs_v h]
theorem jqs_3 {y z : JX} (e : jns t len 99 x = y) (e2 : jsg t len 58 y = z) (h : (jcs t len z).2 = true) : jqx t len 115 x = jcs t len z := by rw [jqs, e, e2, jsg_v h, jcs_v h]
theorem jqs_4 {y z u : JX} (e : jns t len 99 x = y) (e2 : jsg t len 58 y = z) (e3 : jcs t len z = u) (h : (jsg t len 62 u).2 = true) : jqx t len 115 x = jsg t len 62 u := by rw [jqs, e, e2, e3, jcs_v h]
theorem jqs_5 {y z u v : JX} (e : jns t len 99 x = y) (e2 : jsg t len 58 y = z) (e3 : jcs t len z = u) (e4 : jsg t len 62 u = v) : jqx t len 115 x = jcs t len v := by rw [jqs, e, e2, e3, e4]
end KR
