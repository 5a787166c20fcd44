/-! an hour of the class -/
def jgx (s : Nat → Int32) (n k : Nat) : Nat → Int32 := if s (140 + 5 * k + 3) = 0 then jgoes s n k else s
def jwx (s : Nat → Int32) (k : Nat) : Nat := jnx (tn (s (140 + 5 * k + 1))) (tn (s (140 + 5 * k + 2)))
def jwk (s : Nat → Int32) (n k : Nat) : Bool := decide (s (140 + 5 * k + 3) = 0) && (decide (jsin s n (nI (jwx s k)) = -5) && decide (jlon s (jwx s k) = 0) && decide (s (jwx s k) = 1))
theorem jgo_o {s : Nat → Int32} {n k c h m : Nat} (h1 : m ≠ 140 + 5 * k + 1) (h2 : m ≠ 140 + 5 * k + 3) (h3 : m ≠ 140 + 5 * k + 4) (h4 : ∀ l, l < 4 → m ≠ 120 + 5 * l + 1 ∧ m ≠ 120 + 5 * l + 3) : jgo s n k c h m = s m := by
  have hr := jnr_lt (jnx c h)
  unfold jgo
  split
  · rw [upd_n h3]
  · split
    · show upd (upd (upd (upd s _ _) _ _) _ _) _ _ m = _
      rw [upd_n (h4 _ hr).2, upd_n (h4 _ hr).1, upd_n h2, upd_n h1]
    · rw [upd_n h2, upd_n h1]
theorem jgx_o {s : Nat → Int32} {n k m : Nat} (h1 : m ≠ 140 + 5 * k + 1) (h2 : m ≠ 140 + 5 * k + 3) (h3 : m ≠ 140 + 5 * k + 4) (h4 : ∀ l, l < 4 → m ≠ 120 + 5 * l + 1 ∧ m ≠ 120 + 5 * l + 3) : jgx s n k m = s m := by
  unfold jgx
  split
  · exact jgo_o h1 h2 h3 h4
  · rfl
theorem jgx_cond {s : Nat → Int32} {n k j : Nat} (h : j ≠ k) : jgx s n k (140 + 5 * j + 3) = s (140 + 5 * j + 3) := jgx_o (by omega) (by omega) (by omega) (fun l hl => by omega)
theorem jgx_worth {s : Nat → Int32} {n k : Nat} : jwn (jgx s n k) = jwn s := by
  funext j
  unfold jwn
  rw [jgx_o (by omega) (by omega) (by omega) (fun l hl => by omega)]
theorem jgx_lf {s : Nat → Int32} {n k : Nat} (hf : jlf s) : jlf (jgx s n k) := by
  intro l hl
  have e : ∀ w, w < 5 → jgx s n k (100 + 5 * l + w) = s (100 + 5 * l + w) := fun w hw => jgx_o (by omega) (by omega) (by omega) (fun l hl => by omega)
  rw [e 0 (by omega), e 1 (by omega), e 2 (by omega), e 4 (by omega)]
  exact hf l hl
theorem jgx_wf {s : Nat → Int32} {n k : Nat} (h : jwf s n) (hk : k < 8) : jwf (jgx s n k) n := by
  unfold jgx
  split
  · exact h.goes hk
  · exact h
theorem jgx_self {s : Nat → Int32} {n k : Nat} (hw : jwf s n) (hk : k < 8) : jst (jgx s n k) 2 k = (jwk s n k || jst s 2 k) := by
  obtain ⟨-, ⟨c, hc, ec⟩, ⟨h, hh, eh⟩⟩ := hw.2.2.2 k hk
  have hx := jnx_lt hc hh
  have hr := jnr_lt (jnx c h)
  have e0 : jwx s k = jnx c h := by unfold jwx; rw [ec, eh, tn_nI (by omega), tn_nI (by omega)]
  by_cases h0 : s (140 + 5 * k + 3) = 0
  · have eg : jgx s n k = jgo s n k c h := by
      unfold jgx
      rw [if_pos h0]
      unfold jgoes
      rw [ec, eh, tn_nI (by omega), tn_nI (by omega)]
    have e2 : jst s 2 k = false := by unfold jst; rw [h0]; decide
    rw [e2, Bool.or_false]
    unfold jst
    rw [eg]
    unfold jwk jgo
    rw [e0]
    simp only [h0, decide_true, Bool.true_and]
    split
    · rename_i h1
      rw [upd_n (by omega), h0]
      by_cases a : jsin s n (nI (jnx c h)) = -5
      · rcases h1 with z | z
        · exact absurd a z
        · simp [z.2]
      · simp [a]
    · rename_i h1
      simp only [not_or, Classical.not_not] at h1
      split
      · rename_i h2
        show decide (upd (upd (upd (upd s _ _) _ _) _ _) _ _ (140 + 5 * k + 3) = 2) = _
        rw [upd_n (by omega), upd_n (by omega), upd_s]
        have h3 : jlon s (jnx c h) = 0 := by
          by_cases z : jlon s (jnx c h) = 0
          · exact z
          · exact absurd ⟨h2, z⟩ h1.2
        simp [h1.1, h2, h3]
      · rename_i h2
        rw [upd_s]
        simp only [h2, decide_false, Bool.and_false]
        split <;> decide
  · have eg : jgx s n k = s := if_neg h0
    rw [eg]
    unfold jwk
    simp [h0]
theorem jgo_w {s : Nat → Int32} {n k c h : Nat} (h1 : ¬ (¬ jsin s n (nI (jnx c h)) = -5 ∨ (s (jnx c h) = 1 ∧ ¬ jlon s (jnx c h) = 0))) (h2 : s (jnx c h) = 1) : jgo s n k c h = upd (upd (upd (upd s (140 + 5 * k + 1) (nI (jnx c h))) (140 + 5 * k + 3) 2) (120 + 5 * jnr (jnx c h) + 1) (upd (upd s (140 + 5 * k + 1) (nI (jnx c h))) (140 + 5 * k + 3) 2 (120 + 5 * jnr (jnx c h) + 1) + upd (upd s (140 + 5 * k + 1) (nI (jnx c h))) (140 + 5 * k + 3) 2 (140 + 5 * k + 0))) (120 + 5 * jnr (jnx c h) + 3) (upd (upd s (140 + 5 * k + 1) (nI (jnx c h))) (140 + 5 * k + 3) 2 (120 + 5 * jnr (jnx c h) + 3) + 1) := by
  unfold jgo
  rw [if_neg h1, if_pos h2]
  show upd _ _ (upd _ (120 + 5 * jnr (jnx c h) + 1) _ (120 + 5 * jnr (jnx c h) + 3) + 1) = _
  rw [upd_n (k := 120 + 5 * jnr (jnx c h) + 1) (j := 120 + 5 * jnr (jnx c h) + 3) (by omega)]
theorem jgo_m {s : Nat → Int32} {n k c h : Nat} (h0 : s (140 + 5 * k + 3) = 0) (eh : s (140 + 5 * k + 2) = nI h) (h1 : ¬ (¬ jsin s n (nI (jnx c h)) = -5 ∨ (s (jnx c h) = 1 ∧ ¬ jlon s (jnx c h) = 0))) (h2 : ¬ s (jnx c h) = 1) : jgo s n k c h = (if nI (jnx c h) = s (140 + 5 * k + 2) then upd (upd s (140 + 5 * k + 1) (nI (jnx c h))) (140 + 5 * k + 3) 1 else upd s (140 + 5 * k + 1) (nI (jnx c h))) := by
  unfold jgo
  rw [if_neg h1, if_neg h2, eh]
  split
  · rfl
  · have e := upd_self (upd s (140 + 5 * k + 1) (nI (jnx c h))) (140 + 5 * k + 3)
    rw [upd_n (f := s) (by omega), h0] at e
    exact e
theorem jct_flip {p q : Nat → Bool} {k : Nat} : ∀ {n : Nat}, k < n → p k = false → q k = true → (∀ j, j < n → j ≠ k → q j = p j) → jct q n = jct p n + 1
  | 0, h, _, _, _ => absurd h (Nat.not_lt_zero _)
  | n + 1, h, h1, h2, h3 => by
    show jct q n + (if q n then 1 else 0) = jct p n + (if p n then 1 else 0) + 1
    by_cases e : k = n
    · subst e
      rw [jct_cong (fun j hj => h3 j (by omega) (by omega)), if_pos h2, if_neg (by rw [h1]; decide)]
    · rw [jct_flip (n := n) (by omega) h1 h2 (fun j hj hne => h3 j (by omega) hne), h3 n (by omega) (fun z => e z.symm)]
      omega
def jmon (s0 s : Nat → Int32) : Prop := ∀ k, k < 8 → jst s0 2 k = true → jst s 2 k = true
def jwc (s0 s : Nat → Int32) (n : Nat) : Nat := jct (fun k => jst s 2 k && !jst s0 2 k) n
theorem jgx_mon {s0 s : Nat → Int32} {n k : Nat} (h : jmon s0 s) (hw : jwf s n) (hk : k < 8) : jmon s0 (jgx s n k) := by
  intro j hj8 hj
  by_cases e : j = k
  · subst e
    rw [jgx_self hw hk, h j hj8 hj, Bool.or_true]
  · have := h j hj8 hj
    unfold jst at this ⊢
    rw [jgx_cond e]
    exact this
theorem jgx_wc {s0 s : Nat → Int32} {n k : Nat} (h : jmon s0 s) (hw : jwf s n) (hk : k < n) : jwc s0 (jgx s n k) n = jwc s0 s n + (if jwk s n k = true then 1 else 0) := by
  have hk8 : k < 8 := by have := hw.1; omega
  have ho : ∀ j, j ≠ k → jst (jgx s n k) 2 j = jst s 2 j := fun j hj => by unfold jst; rw [jgx_cond hj]
  unfold jwc
  by_cases e : jwk s n k = true
  · rw [if_pos e]
    have h0 : s (140 + 5 * k + 3) = 0 := by
      unfold jwk at e
      simp only [Bool.and_eq_true, decide_eq_true_eq] at e
      exact e.1
    have h1 : jst s 2 k = false := by unfold jst; rw [h0]; decide
    have h2 : jst s0 2 k = false := by
      cases z : jst s0 2 k
      · rfl
      · rw [h k hk8 z] at h1; cases h1
    refine jct_flip hk (by rw [h1]; rfl) (by rw [jgx_self hw hk8, e, h2]; rfl) (fun j _ hj => by rw [ho j hj])
  · rw [if_neg e, Nat.add_zero]
    refine jct_cong fun j _ => ?_
    by_cases z : j = k
    · subst z
      rw [jgx_self hw hk8, show jwk s n j = false by simpa using e, Bool.false_or]
    · rw [ho j z]
def jgf (s : Nat → Int32) (n : Nat) (L : List Nat) : Nat → Int32 := L.foldl (fun s k => jgx s n k) s
theorem jgf_snoc (s : Nat → Int32) (n : Nat) (L : List Nat) (i : Nat) (h : i < L.length) : jgf s n (L.take (i + 1)) = jgx (jgf s n (L.take i)) n L[i] := by
  unfold jgf
  rw [List.take_succ_eq_append_getElem h, List.foldl_append]
  rfl
theorem jgf_all {n : Nat} : ∀ (L : List Nat) (s s1 : Nat → Int32), L.Nodup → (∀ k ∈ L, s1 (140 + 5 * k + 3) = s (140 + 5 * k + 3)) → jgf s1 n L = (L.filter (jsea s)).foldl (fun s k => jgoes s n k) s1
  | [], _, _, _, _ => rfl
  | x :: L, s, s1, hd, h => by
    obtain ⟨h1, h2⟩ := List.nodup_cons.mp hd
    have ih := jgf_all (n := n) L s (jgx s1 n x) h2 (fun k hk => by rw [jgx_cond (j := k) (k := x) (show k ≠ x from fun e => h1 (by rw [← e]; exact hk))]; exact h k (List.mem_cons_of_mem _ hk))
    show jgf (jgx s1 n x) n L = _
    rw [ih]
    have hx := h x List.mem_cons_self
    by_cases z : s (140 + 5 * x + 3) = 0
    · rw [List.filter_cons_of_pos (by unfold jsea; simp [z])]
      show _ = ((L.filter (jsea s)).foldl (fun s k => jgoes s n k) (jgoes s1 n x))
      rw [show jgx s1 n x = jgoes s1 n x from if_pos (hx.trans z)]
    · rw [List.filter_cons_of_neg (by unfold jsea; simp [z]), show jgx s1 n x = s1 from if_neg (fun q => z (hx.symm.trans q))]
theorem jall_nodup (w : Nat → Nat) (n : Nat) : (jall w n).Nodup := (jall_perm w n).nodup_iff.mpr List.nodup_range
theorem jgf_A (s : Nat → Int32) (n : Nat) : jgf s n (jall (jwn s) n) = jgoA s n := jgf_all _ s s (jall_nodup _ _) (fun _ _ => rfl)
/-! the keepers earn, the fog grows thin -/
def cke (s : Nat → Int32) (l : Nat) : Nat → Int32 := jkB s l (jkP s l)
def cfg (s : Nat → Int32) (l : Nat) : Nat → Int32 := upd s (100 + 5 * l + 4) (if s (100 + 5 * l + 4) ≤ 0 then s (100 + 5 * l + 4) else s (100 + 5 * l + 4) - 1)
def ckes (s : Nat → Int32) : Nat → Nat → Int32
  | 0 => s
  | l + 1 => cke (ckes s l) l
def cfgs (s : Nat → Int32) : Nat → Nat → Int32
  | 0 => s
  | l + 1 => cfg (cfgs s l) l
theorem cke_o {s : Nat → Int32} {l m : Nat} (h0 : m ≠ 120 + 5 * l + 0) (h1 : m ≠ 120 + 5 * l + 1) (h4 : m ≠ 120 + 5 * l + 4) : cke s l m = s m := by
  unfold cke jkB
  rw [upd_n h4, upd_n h1, upd_n h0]
theorem cfg_o {s : Nat → Int32} {l m : Nat} (h : m ≠ 100 + 5 * l + 4) : cfg s l m = s m := upd_n h
theorem cke_cfg {s : Nat → Int32} {l i : Nat} (hl : l < 4) (hi : i < 4) : cke (cfg s i) l = cfg (cke s l) i := by
  have e : ∀ m, 120 ≤ m → cfg s i m = s m := fun m hm => cfg_o (by omega)
  funext m
  by_cases hm : m = 100 + 5 * i + 4
  · subst hm
    rw [cke_o (by omega) (by omega) (by omega)]
    unfold cfg
    rw [upd_s, upd_s, cke_o (by omega) (by omega) (by omega)]
  · rw [cfg_o hm]
    have eP : jkP (cfg s i) l = jkP s l := by unfold jkP; rw [e _ (by omega), e _ (by omega), e _ (by omega)]
    unfold cke
    rw [eP]
    have a0 : cfg s i (120 + 5 * l) = s (120 + 5 * l) := e _ (by omega)
    have a1 : cfg s i (120 + 5 * l + 1) = s (120 + 5 * l + 1) := e _ (by omega)
    have a4 : cfg s i (120 + 5 * l + 4) = s (120 + 5 * l + 4) := e _ (by omega)
    have a9 : cfg s i 182 = s 182 := e _ (by omega)
    have am : cfg s i m = s m := cfg_o hm
    unfold jkB upd
    simp [a0, a1, a4, a9, am]
theorem jkp1_ef (s : Nat → Int32) (l : Nat) : jkp1 s l = cfg (cke s l) l := by
  unfold jkp1 cfg
  refine congrArg (upd _ _) ?_
  show cke s l (100 + 5 * l + 4) - (if cke s l (100 + 5 * l + 4) ≤ 0 then 0 else 1) = _
  split
  · rw [Int32.sub_zero]
  · rfl
theorem cke_cfgs {s : Nat → Int32} {l : Nat} (hl : l < 4) : ∀ i, i ≤ 4 → cke (cfgs s i) l = cfgs (cke s l) i
  | 0, _ => rfl
  | i + 1, h => by
    show cke (cfg (cfgs s i) i) l = cfg (cfgs (cke s l) i) i
    rw [cke_cfg hl (by omega), cke_cfgs hl i (by omega)]
theorem jkp_ef (s : Nat → Int32) : ∀ i, i ≤ 4 → jkp s i = cfgs (ckes s i) i
  | 0, _ => rfl
  | i + 1, h => by
    show jkp1 (jkp s i) i = cfg (cfgs (cke (ckes s i) i) i) i
    rw [jkp1_ef, jkp_ef s i (by omega), cke_cfgs (by omega) i (by omega)]
