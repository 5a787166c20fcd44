/-! what hangs together: cells and lights -/
def jlz (s : Nat → Int32) (c : Nat) : Nat := jset (fun l => jlb s l c) 4
theorem jlz_16 (s : Nat → Int32) (c : Nat) : jlz s c < 16 := jset_lt _ 4
theorem jlon_z (s : Nat → Int32) (c : Nat) : jlon s c = nI (jlz s c) := jlon_set s c 4 (by omega)
theorem hc_2 {s : Nat → Int32} {n c : Nat} (hc : c < 100) : jcellOf s n (nI c) 2 = nI (jlz s c) := by
  unfold jcellOf
  rw [if_neg (by rw [jin_99 hc]; decide), if_neg (by decide), if_neg (by decide), if_pos rfl, tn_nI (by omega), jlon_z]
theorem hc_0 {s : Nat → Int32} {n c : Nat} (hc : c < 100) : jcellOf s n (nI c) 0 = s c := by
  unfold jcellOf
  rw [if_neg (by rw [jin_99 hc]; decide), if_pos rfl, tn_nI (by omega)]
theorem hc_1 {s : Nat → Int32} {n c : Nat} (hc : c < 100) : jcellOf s n (nI c) 1 = jsin s n (nI c) := by
  unfold jcellOf
  rw [if_neg (by rw [jin_99 hc]; decide), if_neg (by decide), if_pos rfl]
theorem hc_3 {s : Nat → Int32} {n c : Nat} (hc : c < 100) : jcellOf s n (nI c) 3 = nI (jnr c) := by
  unfold jcellOf
  rw [if_neg (by rw [jin_99 hc]; decide), if_neg (by decide), if_neg (by decide), if_neg (by decide), if_pos rfl, tn_nI (by omega)]
theorem jlt_0 {s : Nat → Int32} {c : Nat} (hf : jlf s) : jlt s c (nI 0) (nI 0) = jany (fun l => jlb s l c) 4 := by
  have h : ∀ l, l < 4 → jlit s l c (s 181 + nI 0) (jmx (s (100 + 5 * l + 4) - nI 0)) = jlb s l c := fun l hl => by
    obtain ⟨-, -, -, g, hg, e⟩ := hf l hl
    unfold jlb
    rw [e, pk_sub (Nat.zero_le _), Nat.sub_zero, nI_0, Int32.add_zero]
    have : jmx (nI g) = nI g := if_pos (nI_pos' (by omega))
    rw [this]
  unfold jlt jany jany jany jany jany
  rw [h 0 (by omega), h 1 (by omega), h 2 (by omega), h 3 (by omega)]
theorem hc_lit {s : Nat → Int32} {c : Nat} (hf : jlf s) (hc : c < 100) : jlitIn s (nI c) = 0 ↔ ¬ nI (jlz s c) ≤ 0 := by
  have h16 := jlz_16 s c
  have e1 : jlitIn s (nI c) = jfind (fun j => jlt s c (nI j) (nI j)) 0 41 := by
    unfold jlitIn
    rw [if_neg (by rw [jin_99 hc]; decide), tn_nI (by omega)]
  have e2 : (nI (jlz s c) ≤ 0) ↔ jany (fun l => jlb s l c) 4 = false := by
    rw [← jset_any _ 4 (by omega)]
    show nI (jlz s c) ≤ 0 ↔ nI (jlz s c) = 0
    constructor
    · intro q
      rcases Nat.eq_zero_or_pos (jlz s c) with z | z
      · rw [z]; rfl
      · exact absurd q (nI_nle z (by omega))
    · intro q
      rw [q]
      exact Int32.le_refl 0
  rw [e1, e2]
  show (if jlt s c (nI 0) (nI 0) = true then nI 0 else jfind (fun j => jlt s c (nI j) (nI j)) (0 + 1) 40) = 0 ↔ _
  rw [jlt_0 hf]
  by_cases q : jany (fun l => jlb s l c) 4 = true
  · rw [if_pos q, q]
    exact ⟨fun _ => by decide, fun _ => rfl⟩
  · rw [if_neg q]
    have q2 : jany (fun l => jlb s l c) 4 = false := by simpa using q
    rw [q2]
    refine ⟨fun z => ?_, fun z => absurd rfl z⟩
    rcases jfind_sp (fun j => jlt s c (nI j) (nI j)) 40 (0 + 1) with ⟨e, -⟩ | ⟨j, h1, h2, -, -, e⟩
    · rw [e] at z; exact absurd z (by decide)
    · rw [e] at z; exact absurd z (nI_ne0 (by omega) (by omega))
theorem fs_all : ∀ k, k ≤ 8 → (¬ Op.cmpValue (FP.fcmp (FP.fdiv (FP.i2f (nI k)) 1090519040) FP.fconst0) .l < 0) ∧ (¬ 0 < Op.cmpValue (FP.fcmp (FP.fdiv (FP.i2f (nI k)) 1090519040) FP.fconst1) .g) ∧ (k = 0 ∨ ¬ Op.cmpValue (FP.fcmp (FP.fdiv (FP.i2f (nI k)) 1090519040) FP.fconst0) .l ≤ 0) := by decide +kernel
theorem hc_sh {s : Nat → Int32} {c : Nat} (hc : c < 100) : jshare s (nI c) = FP.fdiv (FP.i2f (nI (jsh s c))) 1090519040 := by
  unfold jshare
  rw [if_neg (by rw [jin_99 hc]; decide), tn_nI (by omega)]
theorem hc_s0 {s : Nat → Int32} {c : Nat} (hc : c < 100) : ¬ Op.cmpValue (FP.fcmp (jshare s (nI c)) FP.fconst0) .l < 0 := by rw [hc_sh hc]; exact (fs_all _ (jct_le _ 8)).1
theorem hc_s1 {s : Nat → Int32} {c : Nat} (hc : c < 100) : ¬ 0 < Op.cmpValue (FP.fcmp (jshare s (nI c)) FP.fconst1) .g := by rw [hc_sh hc]; exact (fs_all _ (jct_le _ 8)).2.1
theorem hc_s2 {s : Nat → Int32} {c : Nat} (hf : jlf s) (hc : c < 100) (h : ¬ nI (jlz s c) = 0) : ¬ Op.cmpValue (FP.fcmp (jshare s (nI c)) FP.fconst0) .l ≤ 0 := by
  rw [hc_sh hc]
  refine (fs_all _ (jct_le _ 8)).2.2.resolve_left fun z => h ?_
  have h1 : jct (fun j => jlt s c (nI j) 0) 1 ≤ jct (fun j => jlt s c (nI j) 0) 8 := jct_mono (by omega)
  have h2 : jct (fun j => jlt s c (nI j) 0) 8 = 0 := z
  have h3 : jct (fun j => jlt s c (nI j) 0) 1 = 0 + (if jlt s c (nI 0) (nI 0) = true then 1 else 0) := rfl
  have h4 : jany (fun l => jlb s l c) 4 = false := by
    rw [← jlt_0 hf]
    cases e : jlt s c (nI 0) (nI 0)
    · rfl
    · rw [e, if_pos rfl] at h3; omega
  exact (jset_any _ 4 (by omega)).mpr h4
theorem jct_bi (p : Nat → Bool) (j : Nat) : nI (jct p j) + bi (p j) = nI (jct p (j + 1)) := by
  show _ = nI (jct p j + if p j = true then 1 else 0)
  cases p j
  · show nI (jct p j) + 0 = nI (jct p j + 0)
    rw [Int32.add_zero, Nat.add_zero]
  · show nI (jct p j) + 1 = nI (jct p j + 1)
    exact nI_1 _
theorem hc_bit {s : Nat → Int32} {c l : Nat} (hl : l < 4) : (nI (jlz s c) >>> (nI l &&& 31)) &&& 1 = bi (jlb s l c) := by
  have h16 := jlz_16 s c
  rw [jb_bit _ (by omega) l (by omega)]
  unfold jlz
  rw [jset_bit, decide_eq_true hl, Bool.true_and]
  cases jlb s l c <;> rfl
theorem jin_w6 {w : Nat} (h : w < 5) : jin (nI w) 0 6 = true := jin_nI (j := w) (n := 6) (by omega) (by decide)
theorem jin_w4 {w : Nat} (h : w < 5) : jin (nI w) 0 4 = true := jin_nI (j := w) (n := 4) (by omega) (by decide)
theorem hs_1 {s : Nat → Int32} {n k w : Nat} (hw : jwf s n) (hk : k < n) (hw5 : w < 5) : jshipOf s n (nI k) (nI w) = s (140 + 5 * k + w) := by
  have hn := hw.1
  unfold jshipOf
  rw [if_neg (by rw [hw.2.1]; unfold jin; rw [decide_eq_true (nI_pos' (by omega)), Bool.true_and]; intro z; exact absurd z (by rw [show nI n - 1 = nI (n - 1) from pk_sub (b := 1) (by omega)]; rw [decide_eq_true ((nI_leI (by omega) (by omega)).mpr (by omega))]; decide)), if_neg (by rw [jin_w6 (by omega)]; decide), tn_nI (by omega), tn_nI (by omega), if_pos hw5]
/-! a light -/
theorem hm_eq : ∀ l, l < 4 → 22 + 5 * nI (l % 2) + 50 * nI (l / 2) = nI (jhm l) := by decide +kernel
theorem hm_nr : ∀ l, l < 4 → jnr (jhm l) = l := by decide +kernel
theorem hm_wd : ∀ l, l < 4 → jwd l (jhm l) = -5 := by decide +kernel
theorem hm_lb {s : Nat → Int32} {l : Nat} (hl : l < 4) : jlb s l (jhm l) = true := by
  unfold jlb jlit
  rw [decide_eq_true (hm_wd l hl), Bool.true_or]
theorem hm_why {s : Nat → Int32} {l : Nat} (hl : l < 4) : jwhy s (nI l) (nI (jhm l)) = 0 := by
  have := jhm_lt l
  unfold jwhy
  rw [if_neg (by rw [jin_3 hl, jin_99 (jhm_lt l)]; decide), tn_nI (by omega), tn_nI (by omega)]
  exact if_pos (hm_wd l hl)
theorem hl_w {s : Nat → Int32} {l w : Nat} (hl : l < 4) (hw : w < 5) : jlightOf s (nI l) (nI w) = s (100 + 5 * l + w) := by
  unfold jlightOf
  rw [if_neg (by rw [jin_3 hl]; decide), if_neg (by rw [jin_w6 (by omega)]; decide), tn_nI (by omega), tn_nI (by omega), if_pos hw]
theorem hl_5 {s : Nat → Int32} {l : Nat} (hl : l < 4) : jlightOf s (nI l) 5 = jbm s l (s 181) := by
  have t5 : tn 5 = 5 := by decide
  unfold jlightOf
  rw [if_neg (by rw [jin_3 hl]; decide), if_neg (by decide), tn_nI (by omega), t5, if_neg (by omega), if_pos rfl]
theorem hl_6 {s : Nat → Int32} {l : Nat} (hl : l < 4) : jlightOf s (nI l) 6 = nI (jct (fun c => jlb s l c) 100) := by
  have t6 : tn 6 = 6 := by decide
  unfold jlightOf
  rw [if_neg (by rw [jin_3 hl]; decide), if_neg (by decide), tn_nI (by omega), t6, if_neg (by omega), if_neg (by omega)]
theorem hk_w {s : Nat → Int32} {l w : Nat} (hl : l < 4) (hw : w < 5) : jkeeperOf s (nI l) (nI w) = s (120 + 5 * l + w) := by
  unfold jkeeperOf
  rw [if_neg (by rw [jin_3 hl]; decide), if_neg (by rw [jin_w4 (by omega)]; decide), tn_nI (by omega), tn_nI (by omega)]
theorem hl_beam {s : Nat → Int32} {l h : Nat} (hf : jlf s) (hl : l < 4) (e : s 181 = nI h) (hh : h ≤ 100000) : ∃ b, b < 8 ∧ jbm s l (s 181) = nI b := by
  obtain ⟨⟨v, hv, e0⟩, ⟨p, hp, e1⟩, -⟩ := hf l hl
  have hm : h * p ≤ 100000 * 3 := Nat.mul_le_mul hh hp
  refine ⟨(v + h * p) % 8, Nat.mod_lt _ (by omega), ?_⟩
  unfold jbm
  rw [e0, e1, e, nI_mul, nI_add]
  exact bk_rem (a := v + h * p) (d := 8) (by omega) (by omega) (by omega)
theorem jds_pos : ∀ l, l < 4 → ∀ c, c < 100 → c = jhm l ∨ 0 < jds (jhm l) c := by decide +kernel
theorem hl_one {s : Nat → Int32} {l g r : Nat} (hl : l < 4) (eg : s (100 + 5 * l + 4) = nI g) (er : s (100 + 5 * l + 2) = nI r) (hg : g < 1000) (hr : r < 1000) (h : ¬ nI g < nI r) : jlightOf s (nI l) 6 = 1 := by
  rw [hl_6 hl]
  have hle : r ≤ g := Nat.not_lt.mp fun z => h ((nI_ltI (by omega) (by omega)).mpr z)
  have hb : ∀ c, c < 100 → jlb s l c = decide (c = jhm l) := fun c hc => by
    unfold jlb jlit
    by_cases e : c = jhm l
    · subst e
      rw [decide_eq_true (hm_wd l hl), Bool.true_or]
      simp
    · have e1 : jwd l c ≠ -5 := fun z => e ((cwd_own l hl c hc).mp z)
      have hp := (jds_pos l hl c hc).resolve_left e
      have e2 : ¬ jds (jhm l) c ≤ s (100 + 5 * l + 2) - s (100 + 5 * l + 4) := by
        rw [er, eg]
        intro z
        rcases Nat.eq_or_lt_of_le hle with q | q
        · subst q
          rw [pk_sub (Nat.le_refl _), Nat.sub_self] at z
          exact absurd (Int32.lt_of_lt_of_le hp z) (by decide)
        · exact absurd (Int32.lt_trans hp (Int32.lt_of_le_of_lt z (pk_sneg (by omega) q))) (by decide)
      rw [decide_eq_false e1, decide_eq_false e2, decide_eq_false e]
      simp
  rw [jct_cong hb]
  have : ∀ l, l < 4 → jct (fun c => decide (c = jhm l)) 100 = 1 := by decide +kernel
  rw [this l hl]
  rfl
theorem jbst_is {s : Nat → Int32} {n k : Nat} : ∀ m, m ≤ 4 → (jbst s n k m).1 = -5 ∨ ∃ l, l < m ∧ jcl s k l = true ∧ (jbst s n k m).1 = nI l
  | 0, _ => Or.inl rfl
  | m + 1, hm => by
    have ih := jbst_is (s := s) (n := n) (k := k) m (by omega)
    have ih' : (jbst s n k m).1 = -5 ∨ ∃ l, l < m + 1 ∧ jcl s k l = true ∧ (jbst s n k m).1 = nI l := by
      rcases ih with e | ⟨l, h1, h2, e⟩
      · exact Or.inl e
      · exact Or.inr ⟨l, by omega, h2, e⟩
    by_cases hc : jcl s k m = true
    · have e : jbst s n k (m + 1) = (if (jbst s n k m).2 < jw10 (jly s k m) n then nI m else (jbst s n k m).1, if (jbst s n k m).2 < jw10 (jly s k m) n then jw10 (jly s k m) n else (jbst s n k m).2) := if_pos hc
      rw [e]
      by_cases q : (jbst s n k m).2 < jw10 (jly s k m) n
      · exact Or.inr ⟨m, by omega, hc, if_pos q⟩
      · rcases ih' with e3 | ⟨l, h1, h2, e3⟩
        · exact Or.inl ((if_neg q).trans e3)
        · exact Or.inr ⟨l, h1, h2, (if_neg q).trans e3⟩
    · have e : jbst s n k (m + 1) = jbst s n k m := if_neg hc
      rw [e]
      exact ih'
theorem hb_1 {s : Nat → Int32} {n k : Nat} (hk : k < 4) : jbest s n (nI k) ≠ nI k := by
  unfold jbest
  rw [if_neg (by rw [jin_3 hk]; decide), tn_nI (by omega)]
  rcases jbst_is (s := s) (n := n) (k := k) 4 (by omega) with e | ⟨l, h1, h2, e⟩
  · rw [e]; exact fun z => nI_n5 (by omega) z.symm
  · rw [e]
    intro z
    have : l = k := (nI_eq (by omega) (by omega)).mp z
    subst this
    rw [jcl_own] at h2
    cases h2
theorem hb_5 {s : Nat → Int32} {n k : Nat} (hk : k < 4) (h : ¬ 0 < s (120 + 5 * k + 2)) : jbest s n (nI k) = -5 := by
  unfold jbest
  rw [if_neg (by rw [jin_3 hk]; decide), tn_nI (by omega)]
  rcases jbst_is (s := s) (n := n) (k := k) 4 (by omega) with e | ⟨l, h1, h2, e⟩
  · exact e
  · rw [jcl_poor h] at h2
    cases h2
