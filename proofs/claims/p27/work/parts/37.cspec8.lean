/-! a ship more, a State copied -/
def cbg (s : Nat → Int32) (n : Nat) (w c h : Int32) : Nat → Int32 := upd (upd (upd (upd (upd s (140 + 5 * n + 0) w) (140 + 5 * n + 1) c) (140 + 5 * n + 2) h) (140 + 5 * n + 3) 0) (140 + 5 * n + 4) 0
theorem shF_bg {s go : Nat → Int32} {n : Nat} {w c h : Int32} : [.int w, .int c, .int h, .int 0, .int 0, .int (go n)] = shF (cbg s n w c h) (upd go (8 + n) 0) n := by
  have e : ¬ n = 8 + n := by omega
  simp [shF, cbg, upd, e]
theorem cbg_o {s : Nat → Int32} {n m : Nat} {w c h : Int32} (hm : m < 140 + 5 * n ∨ 145 + 5 * n ≤ m) : cbg s n w c h m = s m := by
  unfold cbg
  rw [upd_n (by omega), upd_n (by omega), upd_n (by omega), upd_n (by omega), upd_n (by omega)]
theorem cbg_cm {s : Nat → Int32} {n : Nat} {w c h : Int32} : upd (cbg s n w c h) 180 (cbg s n w c h 180 + 1) = jcm s n w c h := rfl
theorem cgo_cm {s : Nat → Int32} {n : Nat} {w c h : Int32} {go : Nat → Int32} (hn : n < 8) (hg : cgo s n go) : cgo (jcm s n w c h) (n + 1) (upd go (8 + n) 0) := by
  intro i hi
  rw [← cbg_cm, upd_n (show 140 + 5 * i + 3 ≠ 180 by omega)]
  by_cases e : i = n
  · subst e
    rw [upd_s, if_pos (by omega)]
    unfold cbg
    rw [upd_n (by omega), upd_s]
  · rw [upd_n (by omega), hg i hi]
    by_cases z : i < n
    · rw [if_pos z, if_pos (by omega), cbg_o (by omega)]
    · rw [if_neg z, if_neg (by omega)]
/-! copying, cell by cell -/
def cmx (s s' : Nat → Int32) (t : Nat) : Nat → Int32 := fun m => if jow m = 1 ∨ (5 ≤ jow m ∧ jow m < t) then s' m else s m
theorem cmx_in {s s' : Nat → Int32} {t m : Nat} (h : jow m = 1 ∨ (5 ≤ jow m ∧ jow m < t)) : cmx s s' t m = s' m := if_pos h
theorem cmx_step {s s' : Nat → Int32} {t m : Nat} (h : jow m ≠ t) : cmx s s' (t + 1) m = cmx s s' t m := by
  unfold cmx
  by_cases e : jow m = 1 ∨ (5 ≤ jow m ∧ jow m < t)
  · rw [if_pos e, if_pos (by omega)]
  · rw [if_neg e, if_neg (by omega)]
theorem sS_mx {G : bkG} {B b t : Nat} {s s' go : Nat → Int32} {M : bkM} (ht : 5 ≤ t) (h2 : t < 21) : bku (sW G B b (cmx s s' t) go M) (b + t) (sE G B b s' go t) = sW G B b (cmx s s' (t + 1)) go M := by
  have e := sW_set (G := G) (B := B) (b := b) (go := go) (M := M) (s := cmx s s' t) (s' := cmx s s' (t + 1)) h2 (fun m _ hm => cmx_step hm)
  rw [sE_congr (s' := cmx s s' (t + 1)) (s := s') h2 (fun m _ hm => cmx_in (by omega))] at e
  exact e
theorem jrow_mx {s s' : Nat → Int32} : (fun j => if j < 10 then jrow s' j else jrow s j) = jrow (cmx s s' 5) := by
  funext y
  unfold jrow
  by_cases hy : y < 10
  · rw [if_pos hy, if_pos hy, if_pos hy]
    refine congrArg nI (jset_cong fun k hk => ?_)
    unfold jrp2
    rw [cmx_in (Or.inl (jow_r (by omega)))]
  · rw [if_neg hy, if_neg hy, if_neg hy]
def cmg (go go' : Nat → Int32) (t : Nat) : Nat → Int32 := fun k => if 8 ≤ k ∧ k < 8 + t then go' k else go k
theorem cmg_0 {go go' : Nat → Int32} : cmg go go' 0 = go := by
  funext k
  exact if_neg (by omega)
theorem cmx_6 {s s' : Nat → Int32} {m : Nat} (h : jow m ≠ 1) : cmx s s' 5 m = s m := if_neg (by omega)
