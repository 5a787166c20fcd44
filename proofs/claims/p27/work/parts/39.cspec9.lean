/-! a State in order -/
def cOK (s : Nat → Int32) (n : Nat) (go : Nat → Int32) : Prop := jwf s n ∧ jlf s ∧ cgo s n go
theorem cOK.set {s : Nat → Int32} {n m : Nat} {x : Int32} {go : Nat → Int32} (h : cOK s n go) (hj : jwf (upd s m x) n) (hm : m < 100 ∨ 120 ≤ m) (hm2 : ∀ k, k < 8 → m ≠ 140 + 5 * k + 3) : cOK (upd s m x) n go :=
  ⟨hj, jlf_o (fun i _ _ => upd_n (by omega)) h.2.1, cgo_congr (fun k hk => upd_n (Ne.symm (hm2 k (by have := h.1.1; omega)))) h.2.2⟩
theorem cOK.m {s : Nat → Int32} {n : Nat} {go g0 : Nat → Int32} (h : cOK s n go) : cOK s n (jgm g0 go) := ⟨h.1, h.2.1, h.2.2.m⟩
theorem cOK.rock {s : Nat → Int32} {n c : Nat} {go : Nat → Int32} (h : cOK s n go) (hc : c < 100) : cOK (upd s c (1 - s c)) n go := h.set (h.1.rock hc) (Or.inl hc) (fun k hk => by omega)
theorem cOK.dark {s : Nat → Int32} {n l : Nat} {x : Int32} {go : Nat → Int32} (h : cOK s n go) (hl : l < 4) : cOK (upd s (100 + 5 * l + 3) x) n go := by
  refine ⟨h.1.set (by omega) (by omega) (fun k hk => by omega), ?_, cgo_congr (fun k hk => upd_n (by omega)) h.2.2⟩
  intro i hi
  rw [upd_n (by omega), upd_n (by omega), upd_n (by omega), upd_n (by omega)]
  exact h.2.1 i hi
theorem cOK.cm {s : Nat → Int32} {n w c h : Nat} {go go' : Nat → Int32} (k : cOK s n go) (hn : n < 8) (h1 : w < 100) (h2 : c < 100) (h3 : h < 100) (hg : cgo (jcm s n (nI w) (nI c) (nI h)) (n + 1) go') : cOK (jcm s n (nI w) (nI c) (nI h)) (n + 1) go' :=
  ⟨k.1.cm hn h1 h2 h3, jlf_o (fun i _ _ => by rw [← cbg_cm, upd_n (by omega), cbg_o (by omega)]) k.2.1, hg⟩
theorem cOK.hrs {s : Nat → Int32} {n : Nat} {go g : Nat → Int32} (h : cOK s n go) (k : Nat) (hg : cgo (jhrs s n k) n g) : cOK (jhrs s n k) n g := ⟨h.1.hrs k, jhrs_lf h.2.1 k, hg⟩
theorem jbr_z (v : Int32) : jbr v = 0 ∨ jbr v < 0 := by unfold jbr; split <;> (try split) <;> first | exact Or.inl rfl | exact Or.inr (by decide)
theorem jbs_z (s : Nat → Int32) (n : Nat) (w c h : Int32) : jbs s n w c h = 0 ∨ jbs s n w c h < 0 := by unfold jbs; split <;> (try split) <;> (try split) <;> (try split) <;> first | exact Or.inl rfl | exact Or.inr (by decide)
theorem jbp_z (s : Nat → Int32) (v : Int32) : jbp s v = 0 ∨ jbp s v < 0 := by unfold jbp; split <;> (try split) <;> first | exact Or.inl rfl | exact Or.inr (by decide)
def pR (l a b c nu ce ha wi : Int32) : Prop := (l = 114 → ce = a) ∧ (l = 115 → nu = a ∧ ce = b ∧ ha = c) ∧ (l = 100 → nu = a ∧ wi = b) ∧ (l = 104 → nu = a)
def jlc (l a : Int32) : Prop := l = 114 ∨ l = 115 ∨ l = 104 ∨ (l = 100 ∧ ∃ k, k < 4 ∧ a = nI k)
