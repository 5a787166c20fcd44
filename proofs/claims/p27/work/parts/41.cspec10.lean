/-! the class's text: 23 cells at T -/
def ptF (f : Nat → Int32) : List Value := [.int (f 0), .int (f 1), .int (f 2), .int (f 3), .int (f 4)]
def tO (T : Nat) (ln pc pl : Int32) : List Value := [.ref (T + 1), .int ln, .ref (T + 2), .int pc, .int pl]
def tW (G : bkG) (T : Nat) (t : Nat → Int32) (ln pc pl : Int32) (pf : Nat → Nat → Int32) (M : bkM) : bkM := fun x =>
  if x = T then some (.inr (7, tO T ln pc pl)) else if x = T + 1 then some (aC G 60 t) else if x = T + 2 then some (aQ G 7 20 (fun i => some (T + 3 + i))) else if T + 3 ≤ x ∧ x < T + 23 then some (.inr (4, ptF (pf (x - T - 3)))) else M x
section TWS
variable {G : bkG} {T : Nat} {t t' : Nat → Int32} {ln pc pl ln' pc' pl' : Int32} {pf : Nat → Nat → Int32} {M : bkM}
theorem tW_o : tW G T t ln pc pl pf M T = some (.inr (7, tO T ln pc pl)) := if_pos rfl
theorem tW_c : tW G T t ln pc pl pf M (T + 1) = some (aC G 60 t) := by
  unfold tW
  rw [if_neg (by omega), if_pos rfl]
theorem tW_p : tW G T t ln pc pl pf M (T + 2) = some (aQ G 7 20 (fun i => some (T + 3 + i))) := by
  unfold tW
  rw [if_neg (by omega), if_neg (by omega), if_pos rfl]
theorem tW_q {i : Nat} (hi : i < 20) : tW G T t ln pc pl pf M (T + 3 + i) = some (.inr (4, ptF (pf i))) := by
  unfold tW
  rw [if_neg (by omega), if_neg (by omega), if_neg (by omega), if_pos (by omega), show T + 3 + i - T - 3 = i by omega]
theorem tW_out {x : Nat} (h : x < T ∨ T + 23 ≤ x) : tW G T t ln pc pl pf M x = M x := by
  unfold tW
  rw [if_neg (by omega), if_neg (by omega), if_neg (by omega), if_neg (by omega)]
theorem tS_o : bku (tW G T t ln pc pl pf M) T (.inr (7, tO T ln' pc' pl')) = tW G T t ln' pc' pl' pf M := by
  funext x
  by_cases h : x = T
  · subst h; rw [bku_at, tW_o]
  · rw [bku_ne h]
    unfold tW
    rw [if_neg h, if_neg h]
theorem tS_c : bku (tW G T t ln pc pl pf M) (T + 1) (aC G 60 t') = tW G T t' ln pc pl pf M := by
  funext x
  by_cases h : x = T + 1
  · subst h; rw [bku_at, tW_c]
  · rw [bku_ne h]
    unfold tW
    rw [if_neg h, if_neg h]
theorem tS_q {i : Nat} (hi : i < 20) {f : Nat → Int32} : bku (tW G T t ln pc pl pf M) (T + 3 + i) (.inr (4, ptF f)) = tW G T t ln pc pl (fun j => if j = i then f else pf j) M := by
  funext x
  by_cases h : x = T + 3 + i
  · subst h
    rw [bku_at, tW_q hi, if_pos rfl]
  · rw [bku_ne h]
    unfold tW
    by_cases h1 : T + 3 ≤ x ∧ x < T + 23
    · have e0 : ¬ x = T := by omega
      have e1 : ¬ x = T + 1 := by omega
      have e2 : ¬ x = T + 2 := by omega
      have e3 : ¬ x - T - 3 = i := by omega
      simp only [e0, e1, e2, e3, h1, if_false]
    · rw [if_neg h1, if_neg h1]
end TWS
theorem ptF_0 {f : Nat → Int32} {v : Int32} : (ptF f).set 0 (.int v) = ptF (upd f 0 v) := by simp [ptF, upd]
theorem ptF_1 {f : Nat → Int32} {v : Int32} : (ptF f).set 1 (.int v) = ptF (upd f 1 v) := by simp [ptF, upd]
theorem ptF_2 {f : Nat → Int32} {v : Int32} : (ptF f).set 2 (.int v) = ptF (upd f 2 v) := by simp [ptF, upd]
theorem ptF_3 {f : Nat → Int32} {v : Int32} : (ptF f).set 3 (.int v) = ptF (upd f 3 v) := by simp [ptF, upd]
theorem ptF_4 {f : Nat → Int32} {v : Int32} : (ptF f).set 4 (.int v) = ptF (upd f 4 v) := by simp [ptF, upd]
section PS
variable {t : Nat → Int32} {len p : Nat}
theorem jsg_t {c : Int32} (h : p < len) (e : t p = c) : jsg t len c (p, false) = (p + 1, false) := if_neg (by rintro (z | z); cases z; exact z (by unfold jnxt; rw [if_pos h]; exact e))
theorem jsg_f {c : Int32} (hc : c ≠ -1) (h : ¬ p < len ∨ ¬ t p = c) : jsg t len c (p, false) = (p, true) := by
  refine if_pos (Or.inr ?_)
  show ¬ jnxt t len p = c
  unfold jnxt
  by_cases z : p < len
  · rw [if_pos z]
    rcases h with q | q
    · exact absurd z q
    · exact q
  · rw [if_neg z]
    exact fun e => hc e.symm
theorem jdg_t {lo hi : Int32} (h : p < len) (h1 : lo ≤ t p - 48) (h2 : t p - 48 ≤ hi) : jdg t len lo hi (p, false) = (p + 1, false) ∧ jdv t len (p, false) = t p - 48 := by
  have e : jnxt t len p = t p := if_pos h
  refine ⟨if_neg ?_, by unfold jdv; rw [e]⟩
  rintro (z | z)
  · cases z
  · rw [e] at z
    unfold jin at z
    simp [h1, h2] at z
theorem jdg_f {lo hi : Int32} (h0 : 0 ≤ lo) (h : ¬ p < len ∨ ¬ lo ≤ t p - 48 ∨ ¬ t p - 48 ≤ hi) : jdg t len lo hi (p, false) = (p, true) := by
  refine if_pos (Or.inr ?_)
  show jin (jnxt t len p - 48) lo hi = false
  by_cases z : p < len
  · rw [show jnxt t len p = t p from if_pos z]
    rcases h with q | q | q
    · exact absurd z q
    · unfold jin; simp [q]
    · unfold jin; simp [q]
  · rw [jnxt_end z]
    exact jin_neg h0
theorem jdg_w {lo hi : Int32} : jdg t len lo hi (p, true) = (p, true) := if_pos (Or.inl rfl)
theorem jsg_w {c : Int32} : jsg t len c (p, true) = (p, true) := if_pos (Or.inl rfl)
def kdg (t : Nat → Int32) (len : Nat) (lo hi : Int32) (p : Nat) : Int32 := if (jdg t len lo hi (p, false)).2 = true then -5 else jdv t len (p, false)
def kcl (t : Nat → Int32) (len p : Nat) : Int32 := if (jcs t len (p, false)).2 = true then -5 else jcv t len (p, false)
def knm (t : Nat → Int32) (len : Nat) (m : Int32) (p : Nat) : Int32 := if (jns t len m (p, false)).2 = true then -5 else jnv t len m (p, false)
theorem kdg_neg {lo hi : Int32} (h0 : 0 ≤ lo) : (kdg t len lo hi p < 0 ↔ (jdg t len lo hi (p, false)).2 = true) := by
  unfold kdg
  by_cases h : (jdg t len lo hi (p, false)).2 = true
  · rw [if_pos h]; simp [h]
  · rw [if_neg h]
    have e := jdg_ok (by simpa using h)
    have e2 := e.2.2
    unfold jin at e2
    simp only [Bool.and_eq_true, decide_eq_true_eq] at e2
    exact ⟨fun z => absurd z (Int32.not_lt.mpr (Int32.le_trans h0 e2.1)), fun z => absurd z h⟩
theorem jnx_pair (x : JX) : x = (x.1, x.2) := rfl
/-- the sign ahead: 0 behind the last -/
def jah (t : Nat → Int32) (len p : Nat) : Int32 := if p < len then t p else 0
theorem jah_t {c : Int32} (h0 : c ≠ 0) (e : jah t len p = c) : p < len ∧ t p = c := by
  unfold jah at e
  by_cases z : p < len
  · rw [if_pos z] at e; exact ⟨z, e⟩
  · rw [if_neg z] at e; exact absurd e.symm h0
theorem jah_f {c : Int32} (e : ¬ jah t len p = c) : ¬ p < len ∨ ¬ t p = c := by
  unfold jah at e
  by_cases z : p < len
  · rw [if_pos z] at e; exact Or.inr e
  · exact Or.inl z
theorem jah_d {lo : Int32} (h0 : 0 ≤ lo) (h : ¬ jah t len p - 48 < lo) : p < len ∧ jah t len p = t p := by
  unfold jah at h ⊢
  by_cases z : p < len
  · exact ⟨z, if_pos z⟩
  · rw [if_neg z] at h
    exact absurd (Int32.lt_of_lt_of_le (by decide) h0) h
theorem jah_e {lo hi : Int32} (h : jah t len p - 48 < lo ∨ ¬ jah t len p - 48 ≤ hi) : ¬ p < len ∨ ¬ lo ≤ t p - 48 ∨ ¬ t p - 48 ≤ hi := by
  unfold jah at h
  by_cases z : p < len
  · rw [if_pos z] at h
    rcases h with q | q
    · exact Or.inr (Or.inl (Int32.not_le.mpr q))
    · exact Or.inr (Or.inr q)
  · exact Or.inl z
end PS
def tOK (t : Nat → Int32) : Prop := ∀ j, j < 60 → narrow .char (.int (t j)) = .int (t j) ∧ fits .char (.int (t j)) = true
theorem tOK.ah {t : Nat → Int32} {len p : Nat} (ht : tOK t) (h60 : len ≤ 60) : narrow .char (.int (jah t len p)) = .int (jah t len p) ∧ fits .char (.int (jah t len p)) = true := by
  unfold jah
  by_cases z : p < len
  · rw [if_pos z]; exact ht p (by omega)
  · rw [if_neg z]; exact ⟨rfl, rfl⟩
