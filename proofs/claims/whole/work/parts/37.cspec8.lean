/-! a ship more, a State copied -/
def cbg (s : Nat → Int32) (n : Nat) (w c h : Int32) : Nat → Int32 := upd (upd (upd (upd (upd s (140 + 5 * n + 0) w) (140 + 5 * n + 1) c) (140 + 5 * n + 2) h) (140 + 5 * n + 3) 0) (140 + 5 * n + 4) 0
theorem shF_bg {s : Nat → Int32} {n : Nat} {w c h : Int32} : shF (cbg s n w c h) n = [.int w, .int c, .int h, .int 0, .int 0] := by simp [shF, cbg, upd]
theorem cbg_o {s : Nat → Int32} {n m : Nat} {w c h : Int32} (hm : m < 140 + 5 * n ∨ 145 + 5 * n ≤ m) : cbg s n w c h m = s m := by
  unfold cbg
  rw [upd_n (by omega), upd_n (by omega), upd_n (by omega), upd_n (by omega), upd_n (by omega)]
theorem cbg_cm {s : Nat → Int32} {n : Nat} {w c h : Int32} : upd (cbg s n w c h) 180 (cbg s n w c h 180 + 1) = jcm s n w c h := rfl
def cgp (go : Nat → Int32) (n p : Nat) : Nat → Int32 := fun i => if p < i ∧ i ≤ n then go (i - 1) else go i
theorem cgp_n (go : Nat → Int32) (n : Nat) : cgp go n n = go := by funext i; exact if_neg (by omega)
theorem cgp_at {go : Nat → Int32} {n p : Nat} : cgp go n (p + 1) p = go p := if_neg (by omega)
theorem cgp_up {go : Nat → Int32} {n p : Nat} (h : p < n) : upd (cgp go n (p + 1)) (p + 1) (go p) = cgp go n p := by
  funext i
  by_cases e : i = p + 1
  · subst e
    rw [upd_s]
    exact (if_pos (by omega)).symm
  · rw [upd_n e]
    unfold cgp
    by_cases z : p + 1 < i ∧ i ≤ n
    · rw [if_pos z, if_pos (by omega)]
    · rw [if_neg z, if_neg (by omega)]
theorem jins_pos {w : Nat → Nat} {k : Nat} : ∀ (L : List Nat) (p : Nat), p ≤ L.length → (∀ i (h : i < L.length), i < p → ¬ w L[i] < w k) → (∀ h : p < L.length, w L[p] < w k) → jins w k L = L.take p ++ k :: L.drop p
  | [], p, hp, _, _ => by
    have : p = 0 := by simpa using hp
    subst this
    rfl
  | x :: L, 0, _, _, h2 => by
    show (if w x < w k then k :: x :: L else x :: jins w k L) = _
    have h3 : w x < w k := h2 (by simp)
    rw [if_pos h3]
    rfl
  | x :: L, p + 1, hp, h1, h2 => by
    show (if w x < w k then k :: x :: L else x :: jins w k L) = _
    have h3 : ¬ w x < w k := h1 0 (by simp) (by omega)
    rw [if_neg h3, jins_pos L p (by simpa using hp) (fun i h hi => by have := h1 (i + 1) (by simpa using h) (by omega); simpa using this) (fun h => by have := h2 (by simpa using h); simpa using this)]
    rfl
theorem jall_mono {w : Nat → Nat} {n i j : Nat} (hij : i ≤ j) (hj : j < (jall w n).length) : w (jall w n)[j] ≤ w ((jall w n)[i]'(by omega)) := by
  rcases Nat.lt_or_ge i j with z | z
  · have h := List.pairwise_iff_getElem.mp (jall_sorted w n) i j (by omega) hj z
    unfold jbw at h
    simp only [Bool.or_eq_true, Bool.and_eq_true, decide_eq_true_eq] at h
    omega
  · have : i = j := by omega
    subst this
    exact Nat.le_refl _
theorem jwn_cm {s : Nat → Int32} {n w : Nat} {c h : Int32} (hn : n < 8) (hw : w < 100) : (∀ k, k < n → jwn (jcm s n (nI w) c h) k = jwn s k) ∧ jwn (jcm s n (nI w) c h) n = w := by
  refine ⟨fun k hk => ?_, ?_⟩
  · unfold jwn
    rw [← cbg_cm, upd_n (by omega), cbg_o (by omega)]
  · unfold jwn
    rw [← cbg_cm, upd_n (by omega)]
    unfold cbg
    rw [upd_n (by omega), upd_n (by omega), upd_n (by omega), upd_n (by omega), upd_s, tn_nI (by omega)]
theorem cjall_cm {s : Nat → Int32} {n w p : Nat} {c h : Int32} {go : Nat → Int32} (hn : n < 8) (hw : w < 100) (hg : cjall s n go) (hp : p ≤ n) (h1 : ∀ i (_ : i < (jall (jwn s) n).length), p ≤ i → jwn s (jall (jwn s) n)[i] < w) (h2 : p = 0 ∨ ∃ hq : p - 1 < (jall (jwn s) n).length, ¬ jwn s (jall (jwn s) n)[p - 1] < w) : cjall (jcm s n (nI w) c h) (n + 1) (upd (cgp go n p) p (nI n)) := by
  obtain ⟨e1, e2⟩ := jwn_cm (s := s) (c := c) (h := h) hn hw
  have eL : jall (jwn (jcm s n (nI w) c h)) n = jall (jwn s) n := jall_congr n e1
  have hl := jall_len (jwn s) n
  have ew : ∀ i (hi : i < (jall (jwn s) n).length), jwn (jcm s n (nI w) c h) (jall (jwn s) n)[i] = jwn s (jall (jwn s) n)[i] := fun i hi => e1 _ (jall_mem.mp (List.getElem_mem hi))
  have eJ : jall (jwn (jcm s n (nI w) c h)) (n + 1) = (jall (jwn s) n).take p ++ n :: (jall (jwn s) n).drop p := by
    show jins _ n (jall _ n) = _
    rw [eL]
    refine jins_pos _ p (by omega) (fun i hi hip => ?_) (fun hi => ?_)
    · rw [ew i hi, e2]
      rcases h2 with z | ⟨hq, z⟩
      · omega
      · have := jall_mono (w := jwn s) (n := n) (i := i) (j := p - 1) (by omega) hq
        omega
    · rw [ew p hi, e2]
      exact h1 p hi (Nat.le_refl _)
  unfold cjall
  rw [eJ]
  intro i hi
  have hlen : ((jall (jwn s) n).take p).length = p := by rw [List.length_take]; omega
  rcases Nat.lt_trichotomy i p with z | z | z
  · rw [List.getElem_append_left (by omega), List.getElem_take, upd_n (by omega)]
    show (if p < i ∧ i ≤ n then _ else _) = _
    rw [if_neg (by omega)]
    exact hg i (by omega)
  · subst z
    rw [upd_s]
    refine congrArg nI ?_
    rw [List.getElem_append_right (by omega)]
    simp [hlen]
  · rw [upd_n (by omega)]
    show (if p < i ∧ i ≤ n then _ else _) = _
    have hi2 : i < n + 1 := by
      simp only [List.length_append, List.length_cons, List.length_drop, hlen] at hi
      omega
    rw [if_pos ⟨z, by omega⟩, hg (i - 1) (by omega)]
    refine congrArg nI ?_
    rw [List.getElem_append_right (by omega)]
    simp only [hlen]
    obtain ⟨j, rfl⟩ : ∃ j, i = p + 1 + j := ⟨i - p - 1, by omega⟩
    have a : p + 1 + j - p = j + 1 := by omega
    simp only [a, List.getElem_cons_succ, List.getElem_drop]
    congr 1
    omega
/-! copying, cell by cell -/
def cmx (s s' : Nat → Int32) (t : Nat) : Nat → Int32 := fun m => if jow m = 1 ∨ (6 ≤ jow m ∧ jow m < t) then s' m else s m
theorem cmx_in {s s' : Nat → Int32} {t m : Nat} (h : jow m = 1 ∨ (6 ≤ jow m ∧ jow m < t)) : cmx s s' t m = s' m := if_pos h
theorem cmx_step {s s' : Nat → Int32} {t m : Nat} (h : jow m ≠ t) : cmx s s' (t + 1) m = cmx s s' t m := by
  unfold cmx
  by_cases e : jow m = 1 ∨ (6 ≤ jow m ∧ jow m < t)
  · rw [if_pos e, if_pos (by omega)]
  · rw [if_neg e, if_neg (by omega)]
theorem sW_congr {G : bkG} {B b : Nat} {s s' go : Nat → Int32} {M : bkM} (h : ∀ m, m < 183 → s' m = s m) : sW G B b s go M = sW G B b s' go M := by
  funext x
  unfold sW
  by_cases hin : b ≤ x ∧ x < b + 22
  · rw [if_pos hin, if_pos hin]
    exact congrArg some (sE_congr (by omega) (fun m hm _ => h m hm)).symm
  · rw [if_neg hin, if_neg hin]
theorem sS_mx {G : bkG} {B b t : Nat} {s s' go : Nat → Int32} {M : bkM} (ht : 6 ≤ t) (h2 : t < 22) : bku (sW G B b (cmx s s' t) go M) (b + t) (sE G B b s' go t) = sW G B b (cmx s s' (t + 1)) go M := by
  have e := sW_set (G := G) (B := B) (b := b) (go := go) (M := M) (s := cmx s s' t) (s' := cmx s s' (t + 1)) h2 (fun m _ hm => cmx_step hm)
  rw [sE_congr (s' := cmx s s' (t + 1)) (s := s') h2 (fun m _ hm => cmx_in (by omega))] at e
  exact e
theorem jrow_mx {s s' : Nat → Int32} : (fun j => if j < 10 then jrow s' j else jrow s j) = jrow (cmx s s' 6) := by
  funext y
  unfold jrow
  by_cases hy : y < 10
  · rw [if_pos hy, if_pos hy, if_pos hy]
    refine congrArg nI (jset_cong fun k hk => ?_)
    unfold jrp2
    rw [cmx_in (Or.inl (jow_r (by omega)))]
  · rw [if_neg hy, if_neg hy, if_neg hy]
theorem cmx_6 {s s' : Nat → Int32} {m : Nat} (h : jow m ≠ 1) : cmx s s' 6 m = s m := if_neg (by omega)
