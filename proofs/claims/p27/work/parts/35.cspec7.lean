theorem jgf_o {n m : Nat} (h : ∀ k, m ≠ 140 + 5 * k + 1 ∧ m ≠ 140 + 5 * k + 3 ∧ m ≠ 140 + 5 * k + 4) (h4 : ∀ l, l < 4 → m ≠ 120 + 5 * l + 1 ∧ m ≠ 120 + 5 * l + 3) : ∀ (L : List Nat) (s : Nat → Int32), jgf s n L m = s m
  | [], _ => rfl
  | x :: L, s => by
    show jgf (jgx s n x) n L m = s m
    rw [jgf_o h h4 L (jgx s n x)]
    exact jgx_o (h x).1 (h x).2.1 (h x).2.2 h4
theorem jgf_wf {n : Nat} : ∀ (L : List Nat) (s : Nat → Int32), (∀ k ∈ L, k < 8) → jwf s n → jwf (jgf s n L) n
  | [], _, _, h => h
  | x :: L, s, hl, h => jgf_wf L (jgx s n x) (fun k hk => hl k (List.mem_cons_of_mem _ hk)) (jgx_wf h (hl x List.mem_cons_self))
theorem jgf_lf {n : Nat} : ∀ (L : List Nat) (s : Nat → Int32), jlf s → jlf (jgf s n L)
  | [], _, h => h
  | x :: L, s, h => jgf_lf L (jgx s n x) (jgx_lf h)
theorem jgf_mon {n : Nat} {s0 : Nat → Int32} : ∀ (L : List Nat) (s : Nat → Int32), (∀ k ∈ L, k < 8) → jwf s n → jmon s0 s → jmon s0 (jgf s n L)
  | [], _, _, _, h => h
  | x :: L, s, hl, hw, h => jgf_mon L (jgx s n x) (fun k hk => hl k (List.mem_cons_of_mem _ hk)) (jgx_wf hw (hl x List.mem_cons_self)) (jgx_mon h hw (hl x List.mem_cons_self))
theorem jall8 {s : Nat → Int32} {n : Nat} (hw : jwf s n) {w : Nat → Nat} : ∀ k ∈ jall w n, k < 8 := fun k hk => by have := jall_mem.mp hk; have := hw.1; omega
theorem cke_o2 {s : Nat → Int32} {m : Nat} (h : m < 120 ∨ 140 ≤ m) : ∀ i, i ≤ 4 → ckes s i m = s m
  | 0, _ => rfl
  | i + 1, hi => by
    show cke (ckes s i) i m = s m
    rw [cke_o (by omega) (by omega) (by omega), cke_o2 h i (by omega)]
theorem cfg_o2 {s : Nat → Int32} {m : Nat} (h : m < 100 ∨ 120 ≤ m) : ∀ i, i ≤ 4 → cfgs s i m = s m
  | 0, _ => rfl
  | i + 1, hi => by
    show cfg (cfgs s i) i m = s m
    rw [cfg_o (by omega), cfg_o2 h i (by omega)]
theorem jhour_ef (s : Nat → Int32) (n : Nat) : upd (cfgs (ckes (jgoA s n) 4) 4) 181 (cfgs (ckes (jgoA s n) 4) 4 181 + 1) = jhour s n := by
  unfold jhour
  rw [jkp_ef _ 4 (by omega)]
theorem jhour_sh {s : Nat → Int32} {n k w : Nat} : jhour s n (140 + 5 * k + w) = if 140 + 5 * k + w = 181 then jhour s n (140 + 5 * k + w) else jgoA s n (140 + 5 * k + w) := by
  split
  · rfl
  · rename_i h
    rw [← jhour_ef, upd_n h, cfg_o2 (by omega) 4 (by omega), cke_o2 (by omega) 4 (by omega)]
theorem jhour_worth (s : Nat → Int32) (n : Nat) : ∀ k, k < 8 → jwn (jhour s n) k = jwn s k := by
  intro k hk
  unfold jwn
  rw [jhour_sh, if_neg (by omega), ← jgf_A, jgf_o (fun i => by omega) (fun l hl => by omega)]
theorem cgo.hour {s g : Nat → Int32} {n : Nat} (hn : n ≤ 8) (h : cgo (jgoA s n) n g) : cgo (jhour s n) n g := cgo_congr (fun k hk => by rw [jhour_sh, if_neg (by omega)]) h
theorem cfgs_lf {s : Nat → Int32} (h : jlf s) : ∀ i, i ≤ 4 → jlf (cfgs s i)
  | 0, _ => h
  | i + 1, hi => by
    have ih := cfgs_lf h i (by omega)
    intro l hl
    obtain ⟨h0, h1, h2, g, hg, eg⟩ := ih l hl
    show (∃ v, v ≤ 7 ∧ cfg (cfgs s i) i _ = nI v) ∧ (∃ v, v ≤ 3 ∧ cfg (cfgs s i) i _ = nI v) ∧ (∃ v, v ≤ 9 ∧ cfg (cfgs s i) i _ = nI v) ∧ (∃ v, v ≤ 9 ∧ cfg (cfgs s i) i _ = nI v)
    rw [cfg_o (by omega), cfg_o (by omega), cfg_o (by omega)]
    refine ⟨h0, h1, h2, ?_⟩
    by_cases e : l = i
    · subst e
      unfold cfg
      rw [upd_s, eg]
      by_cases z : g = 0
      · subst z
        exact ⟨0, by omega, if_pos (by decide)⟩
      · refine ⟨g - 1, by omega, ?_⟩
        rw [if_neg (nI_nle (by omega) (by omega))]
        obtain ⟨k, rfl⟩ : ∃ k, g = k + 1 := ⟨g - 1, by omega⟩
        rw [← nI_1, Nat.add_sub_cancel]
        grind
    · rw [cfg_o (by omega)]
      exact ⟨g, hg, eg⟩
theorem jlf_o {s s' : Nat → Int32} (h : ∀ m, 100 ≤ m → m < 120 → s' m = s m) (hf : jlf s) : jlf s' := by
  intro l hl
  rw [h _ (by omega) (by omega), h _ (by omega) (by omega), h _ (by omega) (by omega), h _ (by omega) (by omega)]
  exact hf l hl
theorem jhour_lf {s : Nat → Int32} {n : Nat} (hf : jlf s) : jlf (jhour s n) := by
  rw [← jhour_ef]
  refine jlf_o (fun m _ _ => upd_n (by omega)) (cfgs_lf (jlf_o (fun m _ _ => cke_o2 (by omega) 4 (by omega)) ?_) 4 (by omega))
  rw [← jgf_A]
  exact jgf_lf _ _ hf
theorem jhrs_lf {s : Nat → Int32} {n : Nat} (hf : jlf s) : ∀ h, jlf (jhrs s n h)
  | 0 => hf
  | h + 1 => jhour_lf (jhrs_lf hf h)
theorem jhrs_worth (s : Nat → Int32) (n : Nat) : ∀ h k, k < 8 → jwn (jhrs s n h) k = jwn s k
  | 0, _, _ => rfl
  | h + 1, k, hk => by
    show jwn (jhour (jhrs s n h) n) k = _
    rw [jhour_worth _ _ k hk, jhrs_worth s n h k hk]
theorem jhour_st {s : Nat → Int32} {n : Nat} : ∀ k, k < 8 → jst (jhour s n) 2 k = jst (jgoA s n) 2 k := by
  intro k hk
  unfold jst
  rw [jhour_sh, if_neg (by omega)]
theorem jwc_congr {s0 s s' : Nat → Int32} {n : Nat} (hn : n ≤ 8) (h : ∀ k, k < 8 → jst s' 2 k = jst s 2 k) : jwc s0 s' n = jwc s0 s n := jct_cong fun k hk => by rw [h k (by omega)]
theorem sO_7 {B b : Nat} {s : Nat → Int32} {v : Int32} : (sO B b s).set 7 (.int v) = sO B b (upd s 181 v) := by simp [sO, upd]
theorem sO_6 {B b : Nat} {s : Nat → Int32} {v : Int32} : (sO B b s).set 6 (.int v) = sO B b (upd s 182 v) := by simp [sO, upd]
theorem sO_5 {B b : Nat} {s : Nat → Int32} {v : Int32} : (sO B b s).set 5 (.int v) = sO B b (upd s 180 v) := by simp [sO, upd]
