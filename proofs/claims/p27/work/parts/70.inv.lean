/-! what holds of every state of the game -/
def jnu (f : Nat → Nat) : Nat → Nat
  | 0 => 0
  | n + 1 => jnu f n + f n
theorem jnu_cong {f g : Nat → Nat} : ∀ {n : Nat}, (∀ k, k < n → f k = g k) → jnu f n = jnu g n
  | 0, _ => rfl
  | n + 1, h => by
    show jnu f n + f n = jnu g n + g n
    rw [jnu_cong (fun k hk => h k (by omega)), h n (by omega)]
theorem jnu_bump {f : Nat → Nat} {r a : Nat} : ∀ {n : Nat}, r < n → jnu (fun l => if l = r then f l + a else f l) n = jnu f n + a
  | 0, h => absurd h (Nat.not_lt_zero _)
  | n + 1, h => by
    show jnu (fun l => if l = r then f l + a else f l) n + (if n = r then f n + a else f n) = jnu f n + f n + a
    by_cases e : n = r
    · subst e
      rw [if_pos rfl, jnu_cong (g := f) (fun k hk => if_neg (by omega))]
      omega
    · rw [if_neg e, jnu_bump (by omega)]
      omega
theorem jnu_le {f : Nat → Nat} {B : Nat} : ∀ {n : Nat}, (∀ k, k < n → f k ≤ B) → jnu f n ≤ B * n
  | 0, _ => Nat.zero_le _
  | n + 1, h => by
    have h1 := jnu_le (n := n) (fun k hk => h k (by omega))
    have h2 := h n (by omega)
    show jnu f n + f n ≤ B * (n + 1)
    rw [Nat.mul_succ]
    omega
theorem jnu_ge {f : Nat → Nat} {k : Nat} : ∀ {n : Nat}, k < n → f k ≤ jnu f n
  | 0, h => absurd h (Nat.not_lt_zero _)
  | n + 1, h => by
    show f k ≤ jnu f n + f n
    by_cases e : k = n
    · subst e; omega
    · have := jnu_ge (f := f) (k := k) (n := n) (by omega)
      omega
def jnw (s : Nat → Int32) (n : Nat) : Nat := jnu (fun k => if jst s 2 k = true then jwn s k else 0) n
def jiR (s : Nat → Int32) : Prop := ∀ l, l < 4 → s (jhm l) = 0 ∧ s (100 + 5 * l + 1) ≠ 0
def jiH (s : Nat → Int32) (h : Nat) : Prop := s 181 = nI h ∧ ∃ w, w ≤ 9 ∧ s 182 = nI w
def jiK (Q : Nat → Nat → Nat → Prop) (s : Nat → Int32) (n : Nat) : Prop := ∃ C D K W P : Nat → Nat, (∀ l, l < 4 → (s (120 + 5 * l + 0) = nI (C l) ∧ s (120 + 5 * l + 1) = nI (D l) ∧ s (120 + 5 * l + 2) = nI (K l) ∧ s (120 + 5 * l + 3) = nI (W l) ∧ s (120 + 5 * l + 4) = nI (P l)) ∧ K l ≤ 3 ∧ Q l (C l) (D l)) ∧ jnu W 4 = jct (jst s 2) n ∧ jnu (fun l => D l + P l) 4 = jnw s n
def jq0 (h : Nat) : Nat → Nat → Nat → Prop := fun _ c d => c ≤ 9 * h ∧ (c = 0 ∨ d = 0)
def jq1 (h : Nat) : Nat → Nat → Nat → Prop := fun _ c _ => c ≤ 9 * h
def jq2 (h i : Nat) : Nat → Nat → Nat → Prop := fun l c d => if l < i then c ≤ 9 * (h + 1) ∧ (c = 0 ∨ d = 0) else c ≤ 9 * h
def jiS (s : Nat → Int32) (n : Nat) (U : Nat → Nat) : Prop := ∀ k, k < n → 1 ≤ jwn s k ∧ (∃ u, u ≤ U k ∧ s (140 + 5 * k + 4) = nI u) ∧ ((s (140 + 5 * k + 3) = 0 ∧ s (140 + 5 * k + 1) ≠ s (140 + 5 * k + 2)) ∨ (s (140 + 5 * k + 3) = 1 ∧ s (140 + 5 * k + 1) = s (140 + 5 * k + 2)) ∨ s (140 + 5 * k + 3) = 2)
def jiD (s : Nat → Int32) (n : Nat) : Prop := ∀ j k, j < n → k < n → j ≠ k → s (140 + 5 * j + 3) = 0 → s (140 + 5 * k + 3) = 0 → s (140 + 5 * j + 1) ≠ s (140 + 5 * k + 1)
def jI (s : Nat → Int32) (n h : Nat) : Prop := jiR s ∧ jiH s h ∧ jiK (jq0 h) s n ∧ jiS s n (fun _ => h) ∧ jiD s n
theorem jiK.mono {Q Q' : Nat → Nat → Nat → Prop} {s : Nat → Int32} {n : Nat} (h : jiK Q s n) (q : ∀ l c d, l < 4 → Q l c d → Q' l c d) : jiK Q' s n := by
  obtain ⟨C, D, K, W, P, h1, h2, h3⟩ := h
  exact ⟨C, D, K, W, P, fun l hl => ⟨(h1 l hl).1, (h1 l hl).2.1, q l _ _ hl (h1 l hl).2.2⟩, h2, h3⟩
theorem jiK.cg {Q : Nat → Nat → Nat → Prop} {s s' : Nat → Int32} {n n' : Nat} (h : jiK Q s n) (e : ∀ m, 120 ≤ m → m < 140 → s' m = s m) (e1 : jct (jst s' 2) n' = jct (jst s 2) n) (e2 : jnw s' n' = jnw s n) : jiK Q s' n' := by
  obtain ⟨C, D, K, W, P, h1, h2, h3⟩ := h
  refine ⟨C, D, K, W, P, fun l hl => ⟨?_, (h1 l hl).2⟩, h2.trans e1.symm, h3.trans e2.symm⟩
  rw [e _ (by omega) (by omega), e _ (by omega) (by omega), e _ (by omega) (by omega), e _ (by omega) (by omega), e _ (by omega) (by omega)]
  exact (h1 l hl).1
theorem jnw_cong {s s' : Nat → Int32} {n : Nat} (h : ∀ k, k < n → jst s' 2 k = jst s 2 k ∧ jwn s' k = jwn s k) : jnw s' n = jnw s n := jnu_cong fun k hk => by rw [(h k hk).1, (h k hk).2]
theorem jiK.ships {Q : Nat → Nat → Nat → Prop} {s s' : Nat → Int32} {n : Nat} (h : jiK Q s n) (e : ∀ m, 120 ≤ m → m < 140 → s' m = s m) (e2 : ∀ k, k < n → jst s' 2 k = jst s 2 k ∧ jwn s' k = jwn s k) : jiK Q s' n := h.cg e (jct_cong fun k hk => (e2 k hk).1) (jnw_cong e2)
theorem jiS.mono {s : Nat → Int32} {n : Nat} {U V : Nat → Nat} (h : jiS s n U) (q : ∀ k, k < n → U k ≤ V k) : jiS s n V := fun k hk => by
  obtain ⟨h1, ⟨u, h2, h3⟩, h4⟩ := h k hk
  exact ⟨h1, ⟨u, Nat.le_trans h2 (q k hk), h3⟩, h4⟩
theorem jiS.cg {s s' : Nat → Int32} {n : Nat} {U : Nat → Nat} (h : jiS s n U) (e : ∀ k w, k < n → w < 5 → s' (140 + 5 * k + w) = s (140 + 5 * k + w)) : jiS s' n U := fun k hk => by
  unfold jwn
  rw [e k 0 hk (by omega), e k 1 hk (by omega), e k 2 hk (by omega), e k 3 hk (by omega), e k 4 hk (by omega)]
  exact h k hk
theorem jiD.cg {s s' : Nat → Int32} {n : Nat} (h : jiD s n) (e : ∀ k w, k < n → w < 5 → s' (140 + 5 * k + w) = s (140 + 5 * k + w)) : jiD s' n := fun j k hj hk => by
  rw [e j 1 hj (by omega), e j 3 hj (by omega), e k 1 hk (by omega), e k 3 hk (by omega)]
  exact h j k hj hk
theorem jst_cg {s s' : Nat → Int32} {k : Nat} {v : Int32} (e : s' (140 + 5 * k + 3) = s (140 + 5 * k + 3)) : jst s' v k = jst s v k := by unfold jst; rw [e]
theorem jwn_cg {s s' : Nat → Int32} {k : Nat} (e : s' (140 + 5 * k + 0) = s (140 + 5 * k + 0)) : jwn s' k = jwn s k := by unfold jwn; rw [e]
/-- what finds, or finds none -/
theorem jfind_sp (p : Nat → Bool) : ∀ m k, (jfind p k m = -5 ∧ ∀ j, k ≤ j → j < k + m → p j = false) ∨ ∃ j, k ≤ j ∧ j < k + m ∧ p j = true ∧ (∀ i, k ≤ i → i < j → p i = false) ∧ jfind p k m = nI j
  | 0, k => Or.inl ⟨rfl, fun j h1 h2 => absurd h2 (by omega)⟩
  | m + 1, k => by
    show ((if p k then nI k else jfind p (k + 1) m) = -5 ∧ _) ∨ ∃ j, _ ∧ _ ∧ _ ∧ _ ∧ (if p k then nI k else jfind p (k + 1) m) = nI j
    by_cases h : p k = true
    · rw [if_pos h]
      exact Or.inr ⟨k, Nat.le_refl _, by omega, h, fun i h1 h2 => absurd h2 (by omega), rfl⟩
    · rw [if_neg h]
      have hf : p k = false := by simpa using h
      rcases jfind_sp p m (k + 1) with ⟨e, g⟩ | ⟨j, g1, g2, g3, g4, e⟩
      · refine Or.inl ⟨e, fun j h1 h2 => ?_⟩
        rcases Nat.eq_or_lt_of_le h1 with z | z
        · rw [← z]; exact hf
        · exact g j z (by omega)
      · refine Or.inr ⟨j, by omega, by omega, g3, fun i h1 h2 => ?_, e⟩
        rcases Nat.eq_or_lt_of_le h1 with z | z
        · rw [← z]; exact hf
        · exact g4 i z h2
theorem nI_n5 {j : Nat} (h : j < 2 ^ 31) : nI j ≠ -5 := fun e => nI_pos h (by rw [e]; decide)
theorem jsin_no {s : Nat → Int32} {n : Nat} {c : Int32} (hn : n ≤ 8) (h : jsin s n c = -5) : ∀ j, j < n → s (140 + 5 * j + 3) = 0 → s (140 + 5 * j + 1) ≠ c := by
  intro j hj h0 hc
  rcases jfind_sp (fun k => decide (s (140 + 5 * k + 3) = 0) && decide (s (140 + 5 * k + 1) = c)) n 0 with ⟨-, g⟩ | ⟨i, -, g2, -, -, e⟩
  · have := g j (Nat.zero_le _) (by omega)
    rw [h0, hc] at this
    simp at this
  · exact nI_n5 (j := i) (by omega) (e.symm.trans h)
theorem jsin_at {s : Nat → Int32} {n k : Nat} {c : Int32} (hn : n ≤ 8) (hk : k < n) (hD : jiD s n) (h0 : s (140 + 5 * k + 3) = 0) (hc : s (140 + 5 * k + 1) = c) : jsin s n c = nI k := by
  rcases jfind_sp (fun k => decide (s (140 + 5 * k + 3) = 0) && decide (s (140 + 5 * k + 1) = c)) n 0 with ⟨-, g⟩ | ⟨i, -, g2, g3, -, e⟩
  · have := g k (Nat.zero_le _) (by omega)
    rw [h0, hc] at this
    simp at this
  · simp only [Bool.and_eq_true, decide_eq_true_eq] at g3
    by_cases z : i = k
    · subst z; exact e
    · exact absurd (g3.2.trans hc.symm) (hD i k (by omega) hk z g3.1 h0)
theorem jsin_is {s : Nat → Int32} {n : Nat} {c : Int32} (h : jsin s n c ≠ -5) : ∃ k, k < n ∧ jsin s n c = nI k ∧ s (140 + 5 * k + 3) = 0 ∧ s (140 + 5 * k + 1) = c := by
  rcases jfind_sp (fun k => decide (s (140 + 5 * k + 3) = 0) && decide (s (140 + 5 * k + 1) = c)) n 0 with ⟨e, -⟩ | ⟨i, -, g2, g3, -, e⟩
  · exact absurd e h
  · simp only [Bool.and_eq_true, decide_eq_true_eq] at g3
    exact ⟨i, by omega, e, g3.1, g3.2⟩
/-! a ship goes -/
theorem ji_goes {s : Nat → Int32} {n k h : Nat} {U : Nat → Nat} (hw : jwf s n) (hk : k < n) (h0 : s (140 + 5 * k + 3) = 0) (hK : jiK (jq1 h) s n) (hS : jiS s n U) (hD : jiD s n) : jiK (jq1 h) (jgoes s n k) n ∧ jiS (jgoes s n k) n (fun j => if j = k then U j + 1 else U j) ∧ jiD (jgoes s n k) n := by
  have hn8 := hw.1
  obtain ⟨⟨w, hw9, ew⟩, ⟨c, hc, ec⟩, ⟨d, hd, ed⟩⟩ := hw.2.2.2 k (by omega)
  have hx := jnx_lt hc hd
  have hr := jnr_lt (jnx c d)
  unfold jgoes
  rw [ec, ed, tn_nI (by omega), tn_nI (by omega)]
  generalize hxe : jnx c d = x at *
  generalize hre : jnr x = r at *
  unfold jgo
  rw [hxe]
  split
  · refine ⟨hK.ships (fun m h1 h2 => upd_n (by omega)) (fun j hj => ⟨jst_cg (upd_n (by omega)), jwn_cg (upd_n (by omega))⟩), fun j hj => ?_, fun i j hi hj => ?_⟩
    · obtain ⟨g1, ⟨u, g2, g3⟩, g4⟩ := hS j hj
      rw [jwn_cg (s := s) (upd_n (by omega)), upd_n (show 140 + 5 * j + 3 ≠ 140 + 5 * k + 4 by omega), upd_n (show 140 + 5 * j + 1 ≠ 140 + 5 * k + 4 by omega), upd_n (show 140 + 5 * j + 2 ≠ 140 + 5 * k + 4 by omega)]
      refine ⟨g1, ?_, g4⟩
      by_cases e : j = k
      · subst e
        rw [upd_s, g3, nI_1]
        exact ⟨u + 1, by simp only [if_true]; omega, rfl⟩
      · rw [upd_n (by omega)]
        exact ⟨u, by simp only [if_neg e]; exact g2, g3⟩
    · rw [upd_n (by omega), upd_n (by omega), upd_n (by omega), upd_n (by omega)]
      exact hD i j hi hj
  · rename_i hgo
    have hno : jsin s n (nI x) = -5 := Classical.byContradiction fun z => hgo (Or.inl z)
    split
    · rw [hre]
      have R : ∀ m, m ≠ 140 + 5 * k + 1 → m ≠ 140 + 5 * k + 3 → m ≠ 120 + 5 * r + 1 → m ≠ 120 + 5 * r + 3 → (let s2 := upd (upd s (140 + 5 * k + 1) (nI x)) (140 + 5 * k + 3) 2; let s3 := upd s2 (120 + 5 * r + 1) (s2 (120 + 5 * r + 1) + s2 (140 + 5 * k + 0)); upd s3 (120 + 5 * r + 3) (s3 (120 + 5 * r + 3) + 1)) m = s m := fun m a1 a2 a3 a4 => by
        show upd _ _ _ m = s m
        rw [upd_n a4, upd_n a3, upd_n a2, upd_n a1]
      have R3 : (let s2 := upd (upd s (140 + 5 * k + 1) (nI x)) (140 + 5 * k + 3) 2; let s3 := upd s2 (120 + 5 * r + 1) (s2 (120 + 5 * r + 1) + s2 (140 + 5 * k + 0)); upd s3 (120 + 5 * r + 3) (s3 (120 + 5 * r + 3) + 1)) (140 + 5 * k + 3) = 2 := by
        show upd _ _ _ (140 + 5 * k + 3) = 2
        rw [upd_n (by omega), upd_n (by omega), upd_s]
      have RD : (let s2 := upd (upd s (140 + 5 * k + 1) (nI x)) (140 + 5 * k + 3) 2; let s3 := upd s2 (120 + 5 * r + 1) (s2 (120 + 5 * r + 1) + s2 (140 + 5 * k + 0)); upd s3 (120 + 5 * r + 3) (s3 (120 + 5 * r + 3) + 1)) (120 + 5 * r + 1) = s (120 + 5 * r + 1) + s (140 + 5 * k + 0) := by
        show upd _ _ _ (120 + 5 * r + 1) = _
        rw [upd_n (by omega), upd_s, upd_n (by omega), upd_n (by omega), upd_n (by omega), upd_n (by omega)]
      have RW : (let s2 := upd (upd s (140 + 5 * k + 1) (nI x)) (140 + 5 * k + 3) 2; let s3 := upd s2 (120 + 5 * r + 1) (s2 (120 + 5 * r + 1) + s2 (140 + 5 * k + 0)); upd s3 (120 + 5 * r + 3) (s3 (120 + 5 * r + 3) + 1)) (120 + 5 * r + 3) = s (120 + 5 * r + 3) + 1 := by
        show upd _ _ _ (120 + 5 * r + 3) = _
        rw [upd_s, upd_n (by omega), upd_n (by omega), upd_n (by omega)]
      generalize (let s2 := upd (upd s (140 + 5 * k + 1) (nI x)) (140 + 5 * k + 3) 2; let s3 := upd s2 (120 + 5 * r + 1) (s2 (120 + 5 * r + 1) + s2 (140 + 5 * k + 0)); upd s3 (120 + 5 * r + 3) (s3 (120 + 5 * r + 3) + 1)) = s' at *
      have ewn : s (140 + 5 * k + 0) = nI (jwn s k) := jwn_s hw (by omega)
      have hst : jst s 2 k = false := by unfold jst; rw [h0]; decide
      have hst' : jst s' 2 k = true := by unfold jst; rw [R3]; decide
      have hoth : ∀ j, j ≠ k → jst s' 2 j = jst s 2 j := fun j hj => jst_cg (R _ (by omega) (by omega) (by omega) (by omega))
      have hwn : ∀ j, jwn s' j = jwn s j := fun j => jwn_cg (R _ (by omega) (by omega) (by omega) (by omega))
      refine ⟨?_, fun j hj => ?_, fun i j hi hj => ?_⟩
      · obtain ⟨C, D, K, W, P, g1, g2, g3⟩ := hK
        refine ⟨C, fun l => if l = r then D l + jwn s k else D l, K, fun l => if l = r then W l + 1 else W l, P, fun l hl => ⟨⟨?_, ?_, ?_, ?_, ?_⟩, (g1 l hl).2⟩, ?_, ?_⟩
        · rw [R _ (by omega) (by omega) (by omega) (by omega)]; exact (g1 l hl).1.1
        · by_cases e : l = r
          · subst e
            simp only [if_true]
            rw [RD, (g1 l hl).1.2.1, ewn, nI_add]
          · simp only [if_neg e]
            rw [R _ (by omega) (by omega) (by omega) (by omega)]; exact (g1 l hl).1.2.1
        · rw [R _ (by omega) (by omega) (by omega) (by omega)]; exact (g1 l hl).1.2.2.1
        · by_cases e : l = r
          · subst e
            simp only [if_true]
            rw [RW, (g1 l hl).1.2.2.2.1, nI_1]
          · simp only [if_neg e]
            rw [R _ (by omega) (by omega) (by omega) (by omega)]; exact (g1 l hl).1.2.2.2.1
        · rw [R _ (by omega) (by omega) (by omega) (by omega)]; exact (g1 l hl).1.2.2.2.2
        · rw [jnu_bump hr, g2, jct_flip hk hst hst' (fun j _ hne => hoth j hne)]
        · have e1 : jnu (fun l => (if l = r then D l + jwn s k else D l) + P l) 4 = jnu (fun l => D l + P l) 4 + jwn s k := by
            rw [← jnu_bump (f := fun l => D l + P l) (a := jwn s k) hr]
            exact jnu_cong fun l hl => by
              by_cases e : l = r
              · rw [if_pos e, if_pos e]; omega
              · rw [if_neg e, if_neg e]
          have e2 : jnw s' n = jnw s n + jwn s k := by
            unfold jnw
            rw [← jnu_bump (f := fun i => if jst s 2 i = true then jwn s i else 0) (a := jwn s k) hk]
            exact jnu_cong fun i hi => by
              by_cases e : i = k
              · subst e
                rw [if_pos hst', if_pos rfl, hst, hwn]
                simp
              · rw [if_neg e, hoth i e, hwn]
          rw [e1, g3, e2]
      · obtain ⟨a1, ⟨u, a2, a3⟩, a4⟩ := hS j hj
        rw [hwn]
        refine ⟨a1, ⟨u, ?_, by rw [R _ (by omega) (by omega) (by omega) (by omega)]; exact a3⟩, ?_⟩
        · show u ≤ if j = k then U j + 1 else U j
          split <;> omega
        · by_cases e : j = k
          · subst e
            exact Or.inr (Or.inr R3)
          · rw [R (140 + 5 * j + 3) (by omega) (by omega) (by omega) (by omega), R (140 + 5 * j + 1) (by omega) (by omega) (by omega) (by omega), R (140 + 5 * j + 2) (by omega) (by omega) (by omega) (by omega)]
            exact a4
      · intro hij z1 z2
        have n1 : i ≠ k := fun e => by subst e; rw [R3] at z1; exact absurd z1 (by decide)
        have n2 : j ≠ k := fun e => by subst e; rw [R3] at z2; exact absurd z2 (by decide)
        rw [R _ (by omega) (by omega) (by omega) (by omega)] at z1
        rw [R _ (by omega) (by omega) (by omega) (by omega)] at z2
        rw [R (140 + 5 * i + 1) (by omega) (by omega) (by omega) (by omega), R (140 + 5 * j + 1) (by omega) (by omega) (by omega) (by omega)]
        exact hD i j hi hj hij z1 z2
    · have R : ∀ m, m ≠ 140 + 5 * k + 1 → m ≠ 140 + 5 * k + 3 → upd (upd s (140 + 5 * k + 1) (nI x)) (140 + 5 * k + 3) (if nI x = nI d then 1 else 0) m = s m := fun m a1 a2 => by rw [upd_n a2, upd_n a1]
      have R1 : upd (upd s (140 + 5 * k + 1) (nI x)) (140 + 5 * k + 3) (if nI x = nI d then 1 else 0) (140 + 5 * k + 1) = nI x := by rw [upd_n (by omega), upd_s]
      have R3 : upd (upd s (140 + 5 * k + 1) (nI x)) (140 + 5 * k + 3) (if nI x = nI d then 1 else 0) (140 + 5 * k + 3) = if nI x = nI d then 1 else 0 := upd_s
      generalize upd (upd s (140 + 5 * k + 1) (nI x)) (140 + 5 * k + 3) (if nI x = nI d then 1 else 0) = s' at *
      refine ⟨hK.ships (fun m a1 a2 => R m (by omega) (by omega)) (fun j hj => ⟨?_, jwn_cg (R _ (by omega) (by omega))⟩), fun j hj => ?_, fun i j hi hj hij z1 z2 => ?_⟩
      · by_cases e : j = k
        · subst e
          unfold jst
          rw [R3, h0]
          split <;> decide
        · exact jst_cg (R _ (by omega) (by omega))
      · obtain ⟨a1, ⟨u, a2, a3⟩, a4⟩ := hS j hj
        rw [jwn_cg (s := s) (R _ (by omega) (by omega))]
        refine ⟨a1, ⟨u, ?_, by rw [R _ (by omega) (by omega)]; exact a3⟩, ?_⟩
        · show u ≤ if j = k then U j + 1 else U j
          split <;> omega
        · by_cases e : j = k
          · subst e
            rw [R1, R3, R (140 + 5 * j + 2) (by omega) (by omega), ed]
            by_cases q : nI x = nI d
            · rw [if_pos q]; exact Or.inr (Or.inl ⟨rfl, q⟩)
            · rw [if_neg q]; exact Or.inl ⟨rfl, q⟩
          · rw [R (140 + 5 * j + 3) (by omega) (by omega), R (140 + 5 * j + 1) (by omega) (by omega), R (140 + 5 * j + 2) (by omega) (by omega)]
            exact a4
      · have hfree := jsin_no hn8 hno
        by_cases e1 : i = k
        · subst e1
          rw [R1, R (140 + 5 * j + 1) (by omega) (by omega)]
          rw [R (140 + 5 * j + 3) (by omega) (by omega)] at z2
          exact fun q => hfree j hj z2 q.symm
        · rw [R (140 + 5 * i + 1) (by omega) (by omega)]
          rw [R (140 + 5 * i + 3) (by omega) (by omega)] at z1
          by_cases e2 : j = k
          · subst e2
            rw [R1]
            exact hfree i hi z1
          · rw [R (140 + 5 * j + 1) (by omega) (by omega)]
            rw [R (140 + 5 * j + 3) (by omega) (by omega)] at z2
            exact hD i j hi hj hij z1 z2
theorem jgoes_c {s : Nat → Int32} {n k j : Nat} (h : j ≠ k) : jgoes s n k (140 + 5 * j + 3) = s (140 + 5 * j + 3) := by
  unfold jgoes
  exact jgo_o (by omega) (by omega) (by omega) (fun l hl => by omega)
theorem ji_goL {n h : Nat} : ∀ (L : List Nat) (s : Nat → Int32) (U : Nat → Nat), jwf s n → L.Nodup → (∀ k ∈ L, k < n ∧ s (140 + 5 * k + 3) = 0) → jiK (jq1 h) s n → jiS s n U → jiD s n → jiK (jq1 h) (L.foldl (fun s k => jgoes s n k) s) n ∧ jiS (L.foldl (fun s k => jgoes s n k) s) n (fun j => if j ∈ L then U j + 1 else U j) ∧ jiD (L.foldl (fun s k => jgoes s n k) s) n
  | [], s, U, _, _, _, hK, hS, hD => ⟨hK, hS.mono (fun k _ => by simp), hD⟩
  | k :: L, s, U, hw, hN, hL, hK, hS, hD => by
    have hk := hL k List.mem_cons_self
    obtain ⟨g1, g2, g3⟩ := ji_goes hw hk.1 hk.2 hK hS hD
    have hN2 := List.nodup_cons.mp hN
    have := hw.1
    obtain ⟨a1, a2, a3⟩ := ji_goL L (jgoes s n k) _ (hw.goes (by omega)) hN2.2 (fun j hj => ⟨(hL j (List.mem_cons_of_mem _ hj)).1, by rw [jgoes_c (fun e => hN2.1 (by rw [← e]; exact hj))]; exact (hL j (List.mem_cons_of_mem _ hj)).2⟩) g1 g2 g3
    refine ⟨a1, a2.mono (fun j _ => ?_), a3⟩
    by_cases e : j = k
    · subst e
      rw [if_neg hN2.1, if_pos rfl, if_pos List.mem_cons_self]
      exact Nat.le_refl _
    · rw [if_neg e]
      by_cases q : j ∈ L
      · rw [if_pos q, if_pos (List.mem_cons_of_mem _ q)]; exact Nat.le_refl _
      · rw [if_neg q]; split <;> omega
