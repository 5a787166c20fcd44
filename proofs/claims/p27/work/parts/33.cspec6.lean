/-! an hour of the class -/
def jgx (s : Nat → Int32) (n k : Nat) : Nat → Int32 := if s (140 + 5 * k + 3) = 0 then jgoes s n k else s
def jwx (s : Nat → Int32) (k : Nat) : Nat := jnx (tn (s (140 + 5 * k + 1))) (tn (s (140 + 5 * k + 2)))
def jwk (s : Nat → Int32) (n k : Nat) : Bool := decide (s (140 + 5 * k + 3) = 0) && (decide (jsin s n (nI (jwx s k)) = -5) && decide (jlon s (jwx s k) = 0) && decide (s (jwx s k) = 1))
theorem jgo_o {s : Nat → Int32} {n k c h m : Nat} (h1 : m ≠ 140 + 5 * k + 1) (h2 : m ≠ 140 + 5 * k + 3) (h3 : m ≠ 140 + 5 * k + 4) (h4 : ∀ l, l < 4 → m ≠ 120 + 5 * l + 1 ∧ m ≠ 120 + 5 * l + 3) : jgo s n k c h m = s m := by
  have hr := jnr_lt (jnx c h)
  unfold jgo
  split
  · rw [upd_n h3]
  · split
    · show upd (upd (upd (upd s _ _) _ _) _ _) _ _ m = _
      rw [upd_n (h4 _ hr).2, upd_n (h4 _ hr).1, upd_n h2, upd_n h1]
    · rw [upd_n h2, upd_n h1]
theorem jgx_o {s : Nat → Int32} {n k m : Nat} (h1 : m ≠ 140 + 5 * k + 1) (h2 : m ≠ 140 + 5 * k + 3) (h3 : m ≠ 140 + 5 * k + 4) (h4 : ∀ l, l < 4 → m ≠ 120 + 5 * l + 1 ∧ m ≠ 120 + 5 * l + 3) : jgx s n k m = s m := by
  unfold jgx
  split
  · exact jgo_o h1 h2 h3 h4
  · rfl
theorem jgx_cond {s : Nat → Int32} {n k j : Nat} (h : j ≠ k) : jgx s n k (140 + 5 * j + 3) = s (140 + 5 * j + 3) := jgx_o (by omega) (by omega) (by omega) (fun l hl => by omega)
theorem jgx_worth {s : Nat → Int32} {n k : Nat} : jwn (jgx s n k) = jwn s := by
  funext j
  unfold jwn
  rw [jgx_o (by omega) (by omega) (by omega) (fun l hl => by omega)]
theorem jgx_lf {s : Nat → Int32} {n k : Nat} (hf : jlf s) : jlf (jgx s n k) := by
  intro l hl
  have e : ∀ w, w < 5 → jgx s n k (100 + 5 * l + w) = s (100 + 5 * l + w) := fun w hw => jgx_o (by omega) (by omega) (by omega) (fun l hl => by omega)
  rw [e 0 (by omega), e 1 (by omega), e 2 (by omega), e 4 (by omega)]
  exact hf l hl
theorem jgx_wf {s : Nat → Int32} {n k : Nat} (h : jwf s n) (hk : k < 8) : jwf (jgx s n k) n := by
  unfold jgx
  split
  · exact h.goes hk
  · exact h
theorem jgx_self {s : Nat → Int32} {n k : Nat} (hw : jwf s n) (hk : k < 8) : jst (jgx s n k) 2 k = (jwk s n k || jst s 2 k) := by
  obtain ⟨-, ⟨c, hc, ec⟩, ⟨h, hh, eh⟩⟩ := hw.2.2.2 k hk
  have hx := jnx_lt hc hh
  have hr := jnr_lt (jnx c h)
  have e0 : jwx s k = jnx c h := by unfold jwx; rw [ec, eh, tn_nI (by omega), tn_nI (by omega)]
  by_cases h0 : s (140 + 5 * k + 3) = 0
  · have eg : jgx s n k = jgo s n k c h := by
      unfold jgx
      rw [if_pos h0]
      unfold jgoes
      rw [ec, eh, tn_nI (by omega), tn_nI (by omega)]
    have e2 : jst s 2 k = false := by unfold jst; rw [h0]; decide
    rw [e2, Bool.or_false]
    unfold jst
    rw [eg]
    unfold jwk jgo
    rw [e0]
    simp only [h0, decide_true, Bool.true_and]
    split
    · rename_i h1
      rw [upd_n (by omega), h0]
      by_cases a : jsin s n (nI (jnx c h)) = -5
      · rcases h1 with z | z
        · exact absurd a z
        · simp [z.2]
      · simp [a]
    · rename_i h1
      simp only [not_or, Classical.not_not] at h1
      split
      · rename_i h2
        show decide (upd (upd (upd (upd s _ _) _ _) _ _) _ _ (140 + 5 * k + 3) = 2) = _
        rw [upd_n (by omega), upd_n (by omega), upd_s]
        have h3 : jlon s (jnx c h) = 0 := by
          by_cases z : jlon s (jnx c h) = 0
          · exact z
          · exact absurd ⟨h2, z⟩ h1.2
        simp [h1.1, h2, h3]
      · rename_i h2
        rw [upd_s]
        simp only [h2, decide_false, Bool.and_false]
        split <;> decide
  · have eg : jgx s n k = s := if_neg h0
    rw [eg]
    unfold jwk
    simp [h0]
theorem jgo_w {s : Nat → Int32} {n k c h : Nat} (h1 : ¬ (¬ jsin s n (nI (jnx c h)) = -5 ∨ (s (jnx c h) = 1 ∧ ¬ jlon s (jnx c h) = 0))) (h2 : s (jnx c h) = 1) : jgo s n k c h = upd (upd (upd (upd s (140 + 5 * k + 1) (nI (jnx c h))) (140 + 5 * k + 3) 2) (120 + 5 * jnr (jnx c h) + 1) (upd (upd s (140 + 5 * k + 1) (nI (jnx c h))) (140 + 5 * k + 3) 2 (120 + 5 * jnr (jnx c h) + 1) + upd (upd s (140 + 5 * k + 1) (nI (jnx c h))) (140 + 5 * k + 3) 2 (140 + 5 * k + 0))) (120 + 5 * jnr (jnx c h) + 3) (upd (upd s (140 + 5 * k + 1) (nI (jnx c h))) (140 + 5 * k + 3) 2 (120 + 5 * jnr (jnx c h) + 3) + 1) := by
  unfold jgo
  rw [if_neg h1, if_pos h2]
  show upd _ _ (upd _ (120 + 5 * jnr (jnx c h) + 1) _ (120 + 5 * jnr (jnx c h) + 3) + 1) = _
  rw [upd_n (k := 120 + 5 * jnr (jnx c h) + 1) (j := 120 + 5 * jnr (jnx c h) + 3) (by omega)]
theorem jgo_m {s : Nat → Int32} {n k c h : Nat} (h0 : s (140 + 5 * k + 3) = 0) (eh : s (140 + 5 * k + 2) = nI h) (h1 : ¬ (¬ jsin s n (nI (jnx c h)) = -5 ∨ (s (jnx c h) = 1 ∧ ¬ jlon s (jnx c h) = 0))) (h2 : ¬ s (jnx c h) = 1) : jgo s n k c h = (if nI (jnx c h) = s (140 + 5 * k + 2) then upd (upd s (140 + 5 * k + 1) (nI (jnx c h))) (140 + 5 * k + 3) 1 else upd s (140 + 5 * k + 1) (nI (jnx c h))) := by
  unfold jgo
  rw [if_neg h1, if_neg h2, eh]
  split
  · rfl
  · have e := upd_self (upd s (140 + 5 * k + 1) (nI (jnx c h))) (140 + 5 * k + 3)
    rw [upd_n (f := s) (by omega), h0] at e
    exact e
theorem jct_flip {p q : Nat → Bool} {k : Nat} : ∀ {n : Nat}, k < n → p k = false → q k = true → (∀ j, j < n → j ≠ k → q j = p j) → jct q n = jct p n + 1
  | 0, h, _, _, _ => absurd h (Nat.not_lt_zero _)
  | n + 1, h, h1, h2, h3 => by
    show jct q n + (if q n then 1 else 0) = jct p n + (if p n then 1 else 0) + 1
    by_cases e : k = n
    · subst e
      rw [jct_cong (fun j hj => h3 j (by omega) (by omega)), if_pos h2, if_neg (by rw [h1]; decide)]
    · rw [jct_flip (n := n) (by omega) h1 h2 (fun j hj hne => h3 j (by omega) hne), h3 n (by omega) (fun z => e z.symm)]
      omega
def jmon (s0 s : Nat → Int32) : Prop := ∀ k, k < 8 → jst s0 2 k = true → jst s 2 k = true
def jwc (s0 s : Nat → Int32) (n : Nat) : Nat := jct (fun k => jst s 2 k && !jst s0 2 k) n
theorem jgx_mon {s0 s : Nat → Int32} {n k : Nat} (h : jmon s0 s) (hw : jwf s n) (hk : k < 8) : jmon s0 (jgx s n k) := by
  intro j hj8 hj
  by_cases e : j = k
  · subst e
    rw [jgx_self hw hk, h j hj8 hj, Bool.or_true]
  · have := h j hj8 hj
    unfold jst at this ⊢
    rw [jgx_cond e]
    exact this
theorem jgx_wc {s0 s : Nat → Int32} {n k : Nat} (h : jmon s0 s) (hw : jwf s n) (hk : k < n) : jwc s0 (jgx s n k) n = jwc s0 s n + (if jwk s n k = true then 1 else 0) := by
  have hk8 : k < 8 := by have := hw.1; omega
  have ho : ∀ j, j ≠ k → jst (jgx s n k) 2 j = jst s 2 j := fun j hj => by unfold jst; rw [jgx_cond hj]
  unfold jwc
  by_cases e : jwk s n k = true
  · rw [if_pos e]
    have h0 : s (140 + 5 * k + 3) = 0 := by
      unfold jwk at e
      simp only [Bool.and_eq_true, decide_eq_true_eq] at e
      exact e.1
    have h1 : jst s 2 k = false := by unfold jst; rw [h0]; decide
    have h2 : jst s0 2 k = false := by
      cases z : jst s0 2 k
      · rfl
      · rw [h k hk8 z] at h1; cases h1
    refine jct_flip hk (by rw [h1]; rfl) (by rw [jgx_self hw hk8, e, h2]; rfl) (fun j _ hj => by rw [ho j hj])
  · rw [if_neg e, Nat.add_zero]
    refine jct_cong fun j _ => ?_
    by_cases z : j = k
    · subst z
      rw [jgx_self hw hk8, show jwk s n j = false by simpa using e, Bool.false_or]
    · rw [ho j z]
def jgf (s : Nat → Int32) (n : Nat) (L : List Nat) : Nat → Int32 := L.foldl (fun s k => jgx s n k) s
theorem jgf_snoc (s : Nat → Int32) (n : Nat) (L : List Nat) (i : Nat) (h : i < L.length) : jgf s n (L.take (i + 1)) = jgx (jgf s n (L.take i)) n L[i] := by
  unfold jgf
  rw [List.take_succ_eq_append_getElem h, List.foldl_append]
  rfl
theorem jgf_all {n : Nat} : ∀ (L : List Nat) (s s1 : Nat → Int32), L.Nodup → (∀ k ∈ L, s1 (140 + 5 * k + 3) = s (140 + 5 * k + 3)) → jgf s1 n L = (L.filter (jsea s)).foldl (fun s k => jgoes s n k) s1
  | [], _, _, _, _ => rfl
  | x :: L, s, s1, hd, h => by
    obtain ⟨h1, h2⟩ := List.nodup_cons.mp hd
    have ih := jgf_all (n := n) L s (jgx s1 n x) h2 (fun k hk => by rw [jgx_cond (j := k) (k := x) (show k ≠ x from fun e => h1 (by rw [← e]; exact hk))]; exact h k (List.mem_cons_of_mem _ hk))
    show jgf (jgx s1 n x) n L = _
    rw [ih]
    have hx := h x List.mem_cons_self
    by_cases z : s (140 + 5 * x + 3) = 0
    · rw [List.filter_cons_of_pos (by unfold jsea; simp [z])]
      show _ = ((L.filter (jsea s)).foldl (fun s k => jgoes s n k) (jgoes s1 n x))
      rw [show jgx s1 n x = jgoes s1 n x from if_pos (hx.trans z)]
    · rw [List.filter_cons_of_neg (by unfold jsea; simp [z]), show jgx s1 n x = s1 from if_neg (fun q => z (hx.symm.trans q))]
theorem jall_nodup (w : Nat → Nat) (n : Nat) : (jall w n).Nodup := (jall_perm w n).nodup_iff.mpr List.nodup_range
theorem jgf_A (s : Nat → Int32) (n : Nat) : jgf s n (jall (jwn s) n) = jgoA s n := jgf_all _ s s (jall_nodup _ _) (fun _ _ => rfl)
/-! the keepers earn, the fog grows thin -/
def cke (s : Nat → Int32) (l : Nat) : Nat → Int32 := jkB s l (jkP s l)
def cfg (s : Nat → Int32) (l : Nat) : Nat → Int32 := upd s (100 + 5 * l + 4) (if s (100 + 5 * l + 4) ≤ 0 then s (100 + 5 * l + 4) else s (100 + 5 * l + 4) - 1)
def ckes (s : Nat → Int32) : Nat → Nat → Int32
  | 0 => s
  | l + 1 => cke (ckes s l) l
def cfgs (s : Nat → Int32) : Nat → Nat → Int32
  | 0 => s
  | l + 1 => cfg (cfgs s l) l
theorem cke_o {s : Nat → Int32} {l m : Nat} (h0 : m ≠ 120 + 5 * l + 0) (h1 : m ≠ 120 + 5 * l + 1) (h4 : m ≠ 120 + 5 * l + 4) : cke s l m = s m := by
  unfold cke jkB
  rw [upd_n h4, upd_n h1, upd_n h0]
theorem cfg_o {s : Nat → Int32} {l m : Nat} (h : m ≠ 100 + 5 * l + 4) : cfg s l m = s m := upd_n h
theorem cke_cfg {s : Nat → Int32} {l i : Nat} (hl : l < 4) (hi : i < 4) : cke (cfg s i) l = cfg (cke s l) i := by
  have e : ∀ m, 120 ≤ m → cfg s i m = s m := fun m hm => cfg_o (by omega)
  funext m
  by_cases hm : m = 100 + 5 * i + 4
  · subst hm
    rw [cke_o (by omega) (by omega) (by omega)]
    unfold cfg
    rw [upd_s, upd_s, cke_o (by omega) (by omega) (by omega)]
  · rw [cfg_o hm]
    have eP : jkP (cfg s i) l = jkP s l := by unfold jkP; rw [e _ (by omega), e _ (by omega), e _ (by omega)]
    unfold cke
    rw [eP]
    have a0 : cfg s i (120 + 5 * l) = s (120 + 5 * l) := e _ (by omega)
    have a1 : cfg s i (120 + 5 * l + 1) = s (120 + 5 * l + 1) := e _ (by omega)
    have a4 : cfg s i (120 + 5 * l + 4) = s (120 + 5 * l + 4) := e _ (by omega)
    have a9 : cfg s i 182 = s 182 := e _ (by omega)
    have am : cfg s i m = s m := cfg_o hm
    unfold jkB upd
    simp [a0, a1, a4, a9, am]
theorem jkp1_ef (s : Nat → Int32) (l : Nat) : jkp1 s l = cfg (cke s l) l := by
  unfold jkp1 cfg
  refine congrArg (upd _ _) ?_
  show cke s l (100 + 5 * l + 4) - (if cke s l (100 + 5 * l + 4) ≤ 0 then 0 else 1) = _
  split
  · rw [Int32.sub_zero]
  · rfl
theorem cke_cfgs {s : Nat → Int32} {l : Nat} (hl : l < 4) : ∀ i, i ≤ 4 → cke (cfgs s i) l = cfgs (cke s l) i
  | 0, _ => rfl
  | i + 1, h => by
    show cke (cfg (cfgs s i) i) l = cfg (cfgs (cke s l) i) i
    rw [cke_cfg hl (by omega), cke_cfgs hl i (by omega)]
theorem jkp_ef (s : Nat → Int32) : ∀ i, i ≤ 4 → jkp s i = cfgs (ckes s i) i
  | 0, _ => rfl
  | i + 1, h => by
    show jkp1 (jkp s i) i = cfg (cfgs (cke (ckes s i) i) i) i
    rw [jkp1_ef, jkp_ef s i (by omega), cke_cfgs (by omega) i (by omega)]
/-! the ships at sea go in their order -/
theorem jord_len8 {s : Nat → Int32} {n : Nat} (hn : n ≤ 8) : (jord s n).length ≤ 8 := by
  have h := List.length_filter_le (jsea s) (jall (jwn s) n)
  rw [jall_len] at h
  exact Nat.le_trans h hn
theorem jord_nodup (s : Nat → Int32) (n : Nat) : (jord s n).Nodup := (jall_nodup (jwn s) n).filter _
theorem jord_sorted (s : Nat → Int32) (n : Nat) : (jord s n).Pairwise (fun x y => jbw (jwn s) x y = true) := (jall_sorted (jwn s) n).filter _
theorem jgf_O (s : Nat → Int32) (n : Nat) : jgf s n (jord s n) = jgoA s n := by
  rw [jgf_all _ s s (jord_nodup s n) (fun _ _ => rfl)]
  unfold jgoA jord
  rw [List.filter_filter]
  simp only [Bool.and_self]
theorem jgf_cond {n k : Nat} : ∀ (L : List Nat) (s : Nat → Int32), k ∉ L → jgf s n L (140 + 5 * k + 3) = s (140 + 5 * k + 3)
  | [], _, _ => rfl
  | x :: L, s, h => by
    show jgf (jgx s n x) n L _ = _
    rw [jgf_cond L (jgx s n x) (fun q => h (List.mem_cons_of_mem _ q))]
    exact jgx_cond (fun e => h (by rw [e]; exact List.mem_cons_self))
theorem jgf_worth {n : Nat} : ∀ (L : List Nat) (s : Nat → Int32), jwn (jgf s n L) = jwn s
  | [], _ => rfl
  | x :: L, s => by
    show jwn (jgf (jgx s n x) n L) = _
    rw [jgf_worth L (jgx s n x), jgx_worth]
theorem cgo.gone {s go : Nat → Int32} {n k : Nat} {v : Int32} (h : cgo s n go) (hk : k < 8) : cgo s n (upd go k v) := fun i hi => by rw [upd_n (by omega)]; exact h i hi
theorem cgo.at {s s' go g : Nat → Int32} {n k : Nat} (h : cgo s n go) (hk : k < n) (hs : ∀ j, j ≠ k → s' (140 + 5 * j + 3) = s (140 + 5 * j + 3)) (hg : ∀ j, j < 8 → j ≠ k → g (8 + j) = go (8 + j)) (he : g (8 + k) = s' (140 + 5 * k + 3)) : cgo s' n g := by
  intro i hi
  by_cases e : i = k
  · subst e
    rw [he, if_pos hk]
  · rw [hg i hi e, h i hi, hs i e]
/-- the next to go: of those that may, the first in the order -/
def jpk (w : Nat → Nat) (p : Nat → Bool) (m : Nat) : Option Nat → Prop
  | none => ∀ j, j < m → p j = false
  | some k => k < m ∧ p k = true ∧ ∀ j, j < m → p j = true → j = k ∨ jbw w k j = true
section JPK
variable {w : Nat → Nat} {p : Nat → Bool} {m k : Nat} {o : Option Nat}
theorem jpk_f (h : jpk w p m o) (hp : p m = false) : jpk w p (m + 1) o := by
  cases o with
  | none =>
    intro j hj
    by_cases e : j = m
    · rw [e]; exact hp
    · exact h j (by omega)
  | some k =>
    refine ⟨by have := h.1; omega, h.2.1, fun j hj hpj => ?_⟩
    by_cases e : j = m
    · rw [e, hp] at hpj; cases hpj
    · exact h.2.2 j (by omega) hpj
theorem jpk_k (h : jpk w p m (some k)) (hw : w m ≤ w k) : jpk w p (m + 1) (some k) := by
  obtain ⟨h1, h2, h3⟩ := h
  refine ⟨by omega, h2, fun j hj hpj => ?_⟩
  by_cases e : j = m
  · subst e
    refine Or.inr ?_
    unfold jbw
    simp only [Bool.or_eq_true, Bool.and_eq_true, decide_eq_true_eq]
    omega
  · exact h3 j (by omega) hpj
theorem jpk_n (h : jpk w p m none) (hp : p m = true) : jpk w p (m + 1) (some m) := by
  refine ⟨by omega, hp, fun j hj hpj => ?_⟩
  by_cases e : j = m
  · exact Or.inl e
  · rw [h j (by omega)] at hpj; cases hpj
theorem jpk_b (h : jpk w p m (some k)) (hp : p m = true) (hw : w k < w m) : jpk w p (m + 1) (some m) := by
  obtain ⟨h1, h2, h3⟩ := h
  refine ⟨by omega, hp, fun j hj hpj => ?_⟩
  by_cases e : j = m
  · exact Or.inl e
  · refine Or.inr ?_
    have h4 : j = k ∨ jbw w k j = true := h3 j (by omega) hpj
    unfold jbw at h4 ⊢
    simp only [Bool.or_eq_true, Bool.and_eq_true, decide_eq_true_eq] at h4 ⊢
    rcases h4 with e2 | h4
    · subst e2; omega
    · omega
end JPK
def jgv (s : Nat → Int32) (n : Nat) : Option Nat → Nat → Int32
  | none => s
  | some k => jgx s n k
def jwv (s : Nat → Int32) (n : Nat) : Option Nat → Bool
  | none => false
  | some k => jwk s n k
def jgu (g : Nat → Int32) : Option Nat → Nat → Int32
  | none => g
  | some k => upd g k 1
theorem jpk_next {s g : Nat → Int32} {n t : Nat} {o : Option Nat} (hn : n ≤ 8) (hg : cgo (jgf s n ((jord s n).take t)) n g) (hf : ∀ k, k < 8 → g k = if k ∈ (jord s n).take t then 1 else 0) (h : jpk (jwn (jgf s n ((jord s n).take t))) (fun j => decide (g (8 + j) = 0) && decide (g j = 0)) 8 o) : o = (jord s n)[t]? := by
  rw [jgf_worth] at h
  have hp : ∀ j, j < 8 → ((decide (g (8 + j) = 0) && decide (g j = 0)) = true ↔ j ∈ (jord s n).drop t) := by
    intro j hj
    have hgo := hg.eq hj (v := 0) (by decide)
    simp only [Bool.and_eq_true, decide_eq_true_eq]
    rw [hgo, hf j hj]
    constructor
    · rintro ⟨⟨h1, h2⟩, h3⟩
      have h4 : j ∉ (jord s n).take t := by
        intro z
        rw [if_pos z] at h3
        exact absurd h3 (by decide)
      rw [jgf_cond _ _ h4] at h2
      have h5 : j ∈ jord s n := jord_mem.mpr ⟨h1, by unfold jsea; rw [h2]; decide⟩
      rw [← List.take_append_drop t (jord s n)] at h5
      exact (List.mem_append.mp h5).resolve_left h4
    · intro z
      have h5 := jord_mem.mp (List.mem_of_mem_drop z)
      have h4 : j ∉ (jord s n).take t := by
        have hnd := jord_nodup s n
        rw [← List.take_append_drop t (jord s n)] at hnd
        intro q
        exact (List.nodup_append.mp hnd).2.2 j q j z rfl
      rw [jgf_cond _ _ h4, if_neg h4]
      refine ⟨⟨h5.1, ?_⟩, rfl⟩
      have := h5.2
      unfold jsea at this
      simpa using this
  rcases Nat.lt_or_ge t (jord s n).length with ht | ht
  · have hd : (jord s n).drop t = (jord s n)[t] :: (jord s n).drop (t + 1) := List.drop_eq_getElem_cons ht
    have hm : (jord s n)[t] ∈ (jord s n).drop t := by rw [hd]; exact List.mem_cons_self
    have hl8 : (jord s n)[t] < 8 := by have := (jord_mem.mp (List.mem_of_mem_drop hm)).1; omega
    have hpt := (hp _ hl8).mpr hm
    rw [List.getElem?_eq_getElem ht]
    cases o with
    | none =>
      have h0 : (decide (g (8 + (jord s n)[t]) = 0) && decide (g (jord s n)[t] = 0)) = false := h _ hl8
      rw [h0] at hpt
      cases hpt
    | some k =>
      obtain ⟨h1, h2, h3⟩ := h
      have hk := (hp k h1).mp h2
      rw [hd] at hk
      rcases List.mem_cons.mp hk with e | hk
      · rw [e]
      · exfalso
        obtain ⟨i, hi, rfl⟩ := List.getElem_of_mem hk
        rw [List.length_drop] at hi
        rw [List.getElem_drop] at h3
        have hs := List.pairwise_iff_getElem.mp (jord_sorted s n) t (t + 1 + i) ht (by omega) (by omega)
        rcases h3 _ hl8 hpt with e | hb
        · have hnd := List.pairwise_iff_getElem.mp (jord_nodup s n) t (t + 1 + i) ht (by omega) (by omega)
          exact hnd e
        · have := jbw_asym hs
          rw [this] at hb
          cases hb
  · have hd : (jord s n).drop t = [] := List.drop_eq_nil_of_le ht
    rw [List.getElem?_eq_none ht]
    cases o with
    | none => rfl
    | some k =>
      have hk := (hp k h.1).mp h.2.1
      rw [hd] at hk
      cases hk
theorem jgv_take {s : Nat → Int32} {n t : Nat} : jgv (jgf s n ((jord s n).take t)) n (jord s n)[t]? = jgf s n ((jord s n).take (t + 1)) := by
  rcases Nat.lt_or_ge t (jord s n).length with ht | ht
  · rw [List.getElem?_eq_getElem ht, jgf_snoc _ _ _ _ ht]
    rfl
  · rw [List.getElem?_eq_none ht, List.take_of_length_le ht, List.take_of_length_le (by omega)]
    rfl
theorem jgu_take {s g : Nat → Int32} {n t : Nat} (hf : ∀ k, k < 8 → g k = if k ∈ (jord s n).take t then 1 else 0) : ∀ k, k < 8 → jgu g (jord s n)[t]? k = if k ∈ (jord s n).take (t + 1) then 1 else 0 := by
  intro k hk
  rcases Nat.lt_or_ge t (jord s n).length with ht | ht
  · rw [List.getElem?_eq_getElem ht, List.take_succ_eq_append_getElem ht]
    show upd g (jord s n)[t] 1 k = _
    by_cases e : k = (jord s n)[t]
    · rw [e, upd_s, if_pos (List.mem_append.mpr (Or.inr (List.mem_singleton.mpr rfl)))]
    · rw [upd_n e, hf k hk]
      by_cases z : k ∈ (jord s n).take t
      · rw [if_pos z, if_pos (List.mem_append.mpr (Or.inl z))]
      · rw [if_neg z, if_neg (fun q => (List.mem_append.mp q).elim z (fun y => e (List.mem_singleton.mp y)))]
  · rw [List.getElem?_eq_none ht, List.take_of_length_le (by omega)]
    have := hf k hk
    rw [List.take_of_length_le ht] at this
    exact this
theorem jwv_wc {s0 s : Nat → Int32} {n : Nat} {o : Option Nat} (h : jmon s0 s) (hw : jwf s n) (ho : ∀ k, o = some k → k < n) : jwc s0 (jgv s n o) n = jwc s0 s n + (if jwv s n o = true then 1 else 0) := by
  cases o with
  | none => rfl
  | some k => exact jgx_wc h hw (ho k rfl)
theorem jgv_mon {s0 s : Nat → Int32} {n : Nat} {o : Option Nat} (h : jmon s0 s) (hw : jwf s n) (ho : ∀ k, o = some k → k < n) : jmon s0 (jgv s n o) := by
  cases o with
  | none => exact h
  | some k => exact jgx_mon h hw (by have := ho k rfl; have := hw.1; omega)
