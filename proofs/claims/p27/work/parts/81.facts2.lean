/-! what hangs together: ships, sums, what would be -/
theorem jany_iff {p : Nat → Bool} : ∀ m, jany p m = true ↔ ∃ k, k < m ∧ p k = true
  | 0 => ⟨fun h => absurd h (by show ¬ false = true; decide), fun ⟨k, h, _⟩ => absurd h (Nat.not_lt_zero _)⟩
  | m + 1 => by
    show (jany p m || p m) = true ↔ _
    rw [Bool.or_eq_true, jany_iff m]
    constructor
    · rintro (⟨k, h1, h2⟩ | h)
      · exact ⟨k, by omega, h2⟩
      · exact ⟨m, by omega, h⟩
    · rintro ⟨k, h1, h2⟩
      rcases Nat.eq_or_lt_of_le (Nat.le_of_lt_succ h1) with z | z
      · subst z; exact Or.inr h2
      · exact Or.inl ⟨k, z, h2⟩
def joc (s : Nat → Int32) (c : Nat) : Nat → Bool := fun k => decide (s (140 + 5 * k + 3) = 0) && decide (s (140 + 5 * k + 1) = nI c)
theorem joc_sin {s : Nat → Int32} {n c : Nat} (hn : n ≤ 8) : decide (¬ jsin s n (nI c) = -5) = jany (joc s c) n := by
  rcases jfind_sp (joc s c) n 0 with ⟨e, g⟩ | ⟨j, h1, h2, h3, -, e⟩
  · have e' : jsin s n (nI c) = -5 := e
    rw [decide_eq_false (fun z => z e')]
    cases q : jany (joc s c) n
    · rfl
    · obtain ⟨k, hk, hp⟩ := (jany_iff n).mp q
      rw [g k (Nat.zero_le _) (by omega)] at hp
      cases hp
  · have e' : jsin s n (nI c) = nI j := e
    have hne : ¬ jsin s n (nI c) = -5 := fun z => nI_n5 (j := j) (by omega) (e'.symm.trans z)
    rw [decide_eq_true hne]
    exact ((jany_iff n).mpr ⟨j, by omega, h3⟩).symm
theorem joc_cnt {s : Nat → Int32} {n : Nat} (hw : jwf s n) (hD : jiD s n) : ∀ m, m ≤ n → jct (fun c => jany (joc s c) m) 100 = jct (jst s 0) m
  | 0, _ => by
    have : ∀ k, jct (fun _ => false) k = 0 := fun k => by
      induction k with
      | zero => rfl
      | succ k ih => show jct (fun _ => false) k + 0 = 0; rw [ih]
    exact this 100
  | m + 1, hm => by
    have ih := joc_cnt hw hD m (by omega)
    have hn8 := hw.1
    show _ = jct (jst s 0) m + (if jst s 0 m = true then 1 else 0)
    by_cases h0 : s (140 + 5 * m + 3) = 0
    · obtain ⟨-, ⟨x, hx, ex⟩, -⟩ := hw.2.2.2 m (by omega)
      have hst : jst s 0 m = true := decide_eq_true h0
      rw [if_pos hst, ← ih]
      refine jct_flip (p := fun c => jany (joc s c) m) (q := fun c => jany (joc s c) (m + 1)) (k := x) (n := 100) hx ?_ ?_ fun c hc hne => ?_
      · show jany (joc s x) m = false
        cases q : jany (joc s x) m
        · rfl
        · exfalso
          obtain ⟨k, hk, hp⟩ := (jany_iff m).mp q
          unfold joc at hp
          simp only [Bool.and_eq_true, decide_eq_true_eq] at hp
          exact hD k m (by omega) (by omega) (by omega) hp.1 h0 (hp.2.trans ex.symm)
      · exact (jany_iff (m + 1)).mpr ⟨m, by omega, by unfold joc; rw [decide_eq_true h0, decide_eq_true ex]; rfl⟩
      · show (jany (joc s c) m || joc s c m) = jany (joc s c) m
        have : joc s c m = false := by
          unfold joc
          rw [decide_eq_true h0, decide_eq_false (fun z => hne ((nI_eq (by omega) (by omega)).mp (z.symm.trans ex))), Bool.and_false]
        rw [this, Bool.or_false]
    · have hst : ¬ jst s 0 m = true := fun z => h0 (of_decide_eq_true z)
      have e1 : jct (jst s 0) m + (if jst s 0 m = true then 1 else 0) = jct (jst s 0) m := by rw [if_neg hst]; rfl
      have e2 : jct (fun c => jany (joc s c) (m + 1)) 100 = jct (fun c => jany (joc s c) m) 100 := jct_cong fun c _ => by
        show (jany (joc s c) m || joc s c m) = jany (joc s c) m
        have : joc s c m = false := by unfold joc; rw [decide_eq_false h0, Bool.false_and]
        rw [this, Bool.or_false]
      exact e2.trans (ih.trans e1.symm)
theorem hf_ships {s : Nat → Int32} {n : Nat} (hw : jwf s n) (hD : jiD s n) : jct (fun c => decide (¬ jsin s n (nI c) = -5)) 100 = jct (jst s 0) n := by
  rw [← joc_cnt hw hD n (Nat.le_refl _)]
  exact jct_cong (p := fun c => decide (¬ jsin s n (nI c) = -5)) (q := fun c => jany (joc s c) n) (n := 100) fun c _ => joc_sin hw.1
/-! ranks -/
def jrs (s : Nat → Int32) (n : Nat) : Nat → Nat
  | 0 => 0
  | k + 1 => if jst s 0 k = true then jrs s n k ||| 2 ^ jrk s n k else jrs s n k
theorem jb_or8 : ∀ a, a < 256 → ∀ r, r < 8 → nI a ||| ((1 : Int32) <<< (nI r &&& 31)) = nI (a ||| 2 ^ r) := by decide +kernel
theorem jb_sh8 : ∀ m, m ≤ 8 → (1 : Int32) <<< (nI m &&& 31) = nI (2 ^ m) ∧ (1 : Int32) <<< (nI m &&& 31) - 1 = nI (2 ^ m - 1) := by decide +kernel
theorem jrs_bit {s : Nat → Int32} {n b : Nat} : ∀ k, (jrs s n k).testBit b = true ↔ ∃ i, i < k ∧ jst s 0 i = true ∧ jrk s n i = b
  | 0 => by
    show Nat.testBit 0 b = true ↔ _
    rw [Nat.zero_testBit]
    exact ⟨fun h => absurd h (by decide), fun ⟨i, h, _⟩ => absurd h (Nat.not_lt_zero _)⟩
  | k + 1 => by
    have ih := jrs_bit (s := s) (n := n) (b := b) k
    by_cases q : jst s 0 k = true
    · have e : jrs s n (k + 1) = jrs s n k ||| 2 ^ jrk s n k := if_pos q
      rw [e, Nat.testBit_or, Bool.or_eq_true, ih, Nat.testBit_two_pow]
      constructor
      · rintro (⟨i, h1, h2, h3⟩ | h)
        · exact ⟨i, by omega, h2, h3⟩
        · exact ⟨k, by omega, q, by simpa using h⟩
      · rintro ⟨i, h1, h2, h3⟩
        rcases Nat.eq_or_lt_of_le (Nat.le_of_lt_succ h1) with z | z
        · subst z; exact Or.inr (by simpa using h3)
        · exact Or.inl ⟨i, z, h2, h3⟩
    · have e : jrs s n (k + 1) = jrs s n k := if_neg q
      rw [e, ih]
      constructor
      · rintro ⟨i, h1, h2, h3⟩
        exact ⟨i, by omega, h2, h3⟩
      · rintro ⟨i, h1, h2, h3⟩
        rcases Nat.eq_or_lt_of_le (Nat.le_of_lt_succ h1) with z | z
        · subst z; exact absurd h2 q
        · exact ⟨i, z, h2, h3⟩
theorem jrs_256 {s : Nat → Int32} {n : Nat} (hw : jwf s n) : ∀ k, k ≤ n → jrs s n k < 256
  | 0, _ => by show 0 < 256; omega
  | k + 1, hk => by
    have ih := jrs_256 hw k (by omega)
    by_cases q : jst s 0 k = true
    · have e : jrs s n (k + 1) = jrs s n k ||| 2 ^ jrk s n k := if_pos q
      have hr := jrk_lt hw.wo (k := k) (by omega) q
      have h8 := jct_le (jsea s) n
      have := hw.1
      rw [e]
      exact Nat.or_lt_two_pow (n := 8) ih (Nat.pow_lt_pow_right (by omega) (by omega))
    · have e : jrs s n (k + 1) = jrs s n k := if_neg q
      rw [e]; exact ih
theorem jrs_end {s : Nat → Int32} {n : Nat} (hw : jwf s n) : jrs s n n = 2 ^ jct (jst s 0) n - 1 := by
  apply Nat.eq_of_testBit_eq
  intro b
  rw [Nat.testBit_two_pow_sub_one]
  rw [Bool.eq_iff_iff, jrs_bit, decide_eq_true_eq]
  constructor
  · rintro ⟨i, h1, h2, h3⟩
    rw [← h3]
    exact jrk_lt hw.wo h1 h2
  · intro hb
    have hl : b < (jord s n).length := by rw [jord_len]; exact hb
    have hm := jord_mem.mp (List.getElem_mem hl)
    exact ⟨_, hm.1, hm.2, jrk_at hw.wo hl⟩
/-! sums -/
theorem jsm_n {f : Nat → Int32} {g : Nat → Nat} : ∀ m, (∀ l, l < m → f l = nI (g l)) → jsm f m = nI (jnu g m)
  | 0, _ => rfl
  | m + 1, h => by
    show jsm f m + f m = nI (jnu g m + g m)
    rw [jsm_n m (fun l hl => h l (by omega)), h m (by omega), nI_add]
theorem jnu_add {f g : Nat → Nat} : ∀ m, jnu (fun l => f l + g l) m = jnu f m + jnu g m
  | 0 => rfl
  | m + 1 => by
    show jnu (fun l => f l + g l) m + (f m + g m) = jnu f m + f m + (jnu g m + g m)
    rw [jnu_add m]
    omega
theorem hf_wrecks {Q : Nat → Nat → Nat → Prop} {s : Nat → Int32} {n : Nat} (hK : jiK Q s n) : jsm (fun l => s (120 + 5 * l + 3)) 4 = nI (jct (jst s 2) n) := by
  obtain ⟨C, D, K, W, P, g1, g2, g3⟩ := hK
  rw [jsm_n (g := W) 4 (fun l hl => (g1 l hl).1.2.2.2.1), g2]
theorem hf_owed {Q : Nat → Nat → Nat → Prop} {s : Nat → Int32} {n : Nat} (hK : jiK Q s n) : jsm (fun l => s (120 + 5 * l + 1)) 4 + jsm (fun l => s (120 + 5 * l + 4)) 4 = nI (jnw s n) := by
  obtain ⟨C, D, K, W, P, g1, g2, g3⟩ := hK
  rw [jsm_n (g := D) 4 (fun l hl => (g1 l hl).1.2.1), jsm_n (g := P) 4 (fun l hl => (g1 l hl).1.2.2.2.2), nI_add, ← jnu_add, g3]
theorem hf_all {s : Nat → Int32} : ∀ n, (∀ k, k < n → s (140 + 5 * k + 3) = 0 ∨ s (140 + 5 * k + 3) = 1 ∨ s (140 + 5 * k + 3) = 2) → jct (jst s 0) n + jct (jst s 1) n + jct (jst s 2) n = n
  | 0, _ => rfl
  | n + 1, h => by
    have ih := hf_all (s := s) n (fun k hk => h k (by omega))
    show jct (jst s 0) n + (if jst s 0 n = true then 1 else 0) + (jct (jst s 1) n + (if jst s 1 n = true then 1 else 0)) + (jct (jst s 2) n + (if jst s 2 n = true then 1 else 0)) = n + 1
    unfold jst at *
    rcases h n (by omega) with e | e | e
    · rw [e]
      have a1 : (if decide ((0 : Int32) = 0) = true then 1 else 0) = 1 := rfl
      have a2 : (if decide ((0 : Int32) = 1) = true then 1 else 0) = 0 := rfl
      have a3 : (if decide ((0 : Int32) = 2) = true then 1 else 0) = 0 := rfl
      rw [a1, a2, a3]; omega
    · rw [e]
      have a1 : (if decide ((1 : Int32) = 0) = true then 1 else 0) = 0 := rfl
      have a2 : (if decide ((1 : Int32) = 1) = true then 1 else 0) = 1 := rfl
      have a3 : (if decide ((1 : Int32) = 2) = true then 1 else 0) = 0 := rfl
      rw [a1, a2, a3]; omega
    · rw [e]
      have a1 : (if decide ((2 : Int32) = 0) = true then 1 else 0) = 0 := rfl
      have a2 : (if decide ((2 : Int32) = 1) = true then 1 else 0) = 0 := rfl
      have a3 : (if decide ((2 : Int32) = 2) = true then 1 else 0) = 1 := rfl
      rw [a1, a2, a3]; omega
theorem jds_0 : ∀ a, a < 100 → ∀ b, b < 100 → (jds a b = 0 ↔ a = b) := by decide +kernel
theorem hs_5 {s : Nat → Int32} {n k : Nat} (hw : jwf s n) (hk : k < n) : jshipOf s n (nI k) 5 = 0 ↔ s (140 + 5 * k + 1) = s (140 + 5 * k + 2) := by
  have hn := hw.1
  obtain ⟨-, ⟨c, hc, ec⟩, ⟨d, hd, ed⟩⟩ := hw.2.2.2 k (by omega)
  have e : jshipOf s n (nI k) 5 = jds c d := by
    have t5 : tn 5 = 5 := by decide
    unfold jshipOf
    rw [if_neg (by rw [hw.2.1]; unfold jin; rw [decide_eq_true (nI_pos' (by omega)), Bool.true_and]; intro z; exact absurd z (by rw [show nI n - 1 = nI (n - 1) from pk_sub (b := 1) (by omega)]; rw [decide_eq_true ((nI_leI (by omega) (by omega)).mpr (by omega))]; decide)), if_neg (by decide), tn_nI (by omega), t5, if_neg (by omega), if_pos rfl, ec, ed, tn_nI (by omega), tn_nI (by omega)]
  rw [e, jds_0 c hc d hd, ec, ed]
  exact ⟨fun z => by rw [z], fun z => (nI_eq (by omega) (by omega)).mp z⟩
/-! what would be -/
theorem jhrs_add (s : Nat → Int32) (n a : Nat) : ∀ b, jhrs s n (a + b) = jhrs (jhrs s n a) n b
  | 0 => rfl
  | b + 1 => by
    show jhour (jhrs s n (a + b)) n = jhour (jhrs (jhrs s n a) n b) n
    rw [jhrs_add s n a b]
theorem hw_sub {s : Nat → Int32} {n : Nat} {k : Nat} (hk : k < 8) (a b : Nat) (h : jwr s n a k = true) : jwr s n (a + b) k = true := by
  rw [jwr_eq hk] at h ⊢
  simp only [Bool.and_eq_true, decide_eq_true_eq] at h ⊢
  refine ⟨h.1, ?_⟩
  rw [jhrs_add, jhrs_keep hk (by rw [h.2]; decide), h.2]
theorem hw_12 {s : Nat → Int32} {n : Nat} : jifp s n 12 = nI (jset (jwr s n 12) n) ∧ jifp s n 3 = nI (jset (jwr s n 3) n) := by
  have t12 : tn 12 = 12 := by decide
  have t3 : tn 3 = 3 := by decide
  unfold jifp
  rw [if_neg (by decide), if_neg (by decide), t12, t3]
  exact ⟨rfl, rfl⟩
theorem hw_and {s : Nat → Int32} {n : Nat} (hn : n ≤ 8) : jifp s n 3 &&& (jifp s n 12 ^^^ (-1)) = 0 := by
  rw [hw_12.1, hw_12.2, jset_andnot _ _ hn]
  rw [jset_none n (fun k hk => ?_)]
  · rfl
  · cases q : jwr s n 3 k
    · rfl
    · rw [show jwr s n 12 k = true from hw_sub (by omega) 3 9 q]; rfl
theorem nr_goes {s : Nat → Int32} {n k : Nat} (hw : jwf s n) (hk : k < 8) (hr : ∀ c, c < 100 → s c = 0) : (∀ c, c < 100 → jgoes s n k c = 0) ∧ ∀ j, s (140 + 5 * j + 3) ≠ 2 → jgoes s n k (140 + 5 * j + 3) ≠ 2 := by
  obtain ⟨-, ⟨c, hc, ec⟩, ⟨d, hd, ed⟩⟩ := hw.2.2.2 k hk
  have hx := jnx_lt hc hd
  refine ⟨fun c hc => ?_, fun j hj => ?_⟩
  · unfold jgoes
    rw [jgo_o (by omega) (by omega) (by omega) (fun l hl => by omega)]
    exact hr c hc
  · by_cases e : j = k
    · subst e
      unfold jgoes
      rw [ec, ed, tn_nI (by omega), tn_nI (by omega)]
      have h1 : ¬ s (jnx c d) = 1 := by rw [hr _ hx]; decide
      unfold jgo
      split
      · rw [upd_n (by omega)]; exact hj
      · first | rw [upd_s] | rw [if_neg h1, upd_s]
        split <;> decide
    · rw [jgoes_c e]; exact hj
theorem nr_goL {n : Nat} : ∀ (L : List Nat) (s : Nat → Int32), jwf s n → (∀ k ∈ L, k < 8) → (∀ c, c < 100 → s c = 0) → (∀ c, c < 100 → (L.foldl (fun s k => jgoes s n k) s) c = 0) ∧ ∀ j, s (140 + 5 * j + 3) ≠ 2 → (L.foldl (fun s k => jgoes s n k) s) (140 + 5 * j + 3) ≠ 2
  | [], s, _, _, hr => ⟨hr, fun _ h => h⟩
  | k :: L, s, hw, hL, hr => by
    have h1 := nr_goes hw (hL k List.mem_cons_self) hr
    have h2 := nr_goL L (jgoes s n k) (hw.goes (hL k List.mem_cons_self)) (fun j hj => hL j (List.mem_cons_of_mem _ hj)) h1.1
    exact ⟨h2.1, fun j hj => h2.2 j (h1.2 j hj)⟩
theorem nr_hrs {s : Nat → Int32} {n : Nat} (hw : jwf s n) (hr : ∀ c, c < 100 → s c = 0) {j : Nat} (hj : j < 8) (h : s (140 + 5 * j + 3) ≠ 2) : ∀ t, (∀ c, c < 100 → jhrs s n t c = 0) ∧ jhrs s n t (140 + 5 * j + 3) ≠ 2
  | 0 => ⟨hr, h⟩
  | t + 1 => by
    have ih := nr_hrs hw hr hj h t
    have hwt := hw.hrs t
    have g := nr_goL (jord (jhrs s n t) n) (jhrs s n t) hwt (fun k hk => by have := (jord_mem.mp hk).1; have := hw.1; omega) ih.1
    refine ⟨fun c hc => ?_, ?_⟩
    · show jhour (jhrs s n t) n c = 0
      rw [jhour_lo hc]
      exact ih.1 c hc
    · show jhour (jhrs s n t) n (140 + 5 * j + 3) ≠ 2
      rw [jhour_sh, if_neg (by omega)]
      exact g.2 j ih.2
theorem hw_none {s : Nat → Int32} {n : Nat} (hw : jwf s n) (h : ¬ 0 < jsm s 100) : jifp s n 12 = 0 := by
  have hz := jsm_rocks (s := s) 100 hw.2.2.1
  have hl := jct_le (fun c => decide (s c = 1)) 100
  have h0 : jct (fun c => decide (s c = 1)) 100 = 0 := by
    rcases Nat.eq_zero_or_pos (jct (fun c => decide (s c = 1)) 100) with z | z
    · exact z
    · exfalso
      apply h
      rw [hz]
      exact (nI_ltI (a := 0) (by omega) (by omega)).mpr z
  have hr : ∀ c, c < 100 → s c = 0 := fun c hc => by
    rcases hw.2.2.1 c hc with e | e
    · exact e
    · exfalso
      have h1 : jct (fun c => decide (s c = 1)) (c + 1) = jct (fun c => decide (s c = 1)) c + (if decide (s c = 1) = true then 1 else 0) := rfl
      have h2 : jct (fun c => decide (s c = 1)) (c + 1) ≤ jct (fun c => decide (s c = 1)) 100 := jct_mono (by omega)
      rw [if_pos (decide_eq_true e)] at h1
      omega
  rw [hw_12.1, jset_none n (fun k hk => ?_)]
  · rfl
  · have := hw.1
    rw [jwr_eq (by omega)]
    by_cases q : s (140 + 5 * k + 3) = 0
    · rw [decide_eq_false (nr_hrs hw hr (j := k) (by omega) (by rw [q]; decide) 12).2, Bool.and_false]
    · rw [decide_eq_false q, Bool.false_and]
