/-! what the class tells, in the words of the reference -/
theorem told_l {s : Nat → Int32} {i : Nat} (hf : jlf s) (hi : i < 4) (w : Int32) : (if w = 0 then s (100 + 5 * i + 0) else if w = 1 then s (100 + 5 * i + 1) else if w = 2 then s (100 + 5 * i + 2) else if w = 3 then s (100 + 5 * i + 3) else if w = 4 then s (100 + 5 * i + 4) else if w = 5 then jbm s i (s 181) else if w = 6 then nI (jct (fun c => clit s i c (s 181) 0) 100) else -2) = jlightOf s (nI i) w := by
  have ti : tn (nI i) = i := tn_nI (by omega)
  unfold jlightOf
  rw [ti]
  refine Eq.trans ?_ (if_neg (show ¬ jin (nI i) 0 3 = false by rw [show jin (nI i) 0 3 = true from jin_nI (j := i) (n := 3) (by omega) (by decide)]; decide)).symm
  rcases tb_case 6 (by decide) w with ⟨k, hk, rfl⟩ | ⟨h, hne⟩
  · refine Eq.trans ?_ (if_neg (show ¬ jin (nI k) 0 6 = false by rw [show jin (nI k) 0 6 = true from jin_nI (j := k) (n := 6) hk (by decide)]; decide)).symm
    match k, hk with
    | 0, _ => rfl
    | 1, _ => rfl
    | 2, _ => rfl
    | 3, _ => rfl
    | 4, _ => rfl
    | 5, _ => rfl
    | 6, _ =>
      show nI (jct (fun c => clit s i c (s 181) 0) 100) = nI (jct (fun c => jlb s i c) 100)
      refine congrArg nI (jct_cong fun c hc => ?_)
      exact clit_0 hf hi hc
    | k + 7, h => exact absurd h (by omega)
  · rw [if_neg (show ¬ w = 0 from hne 0 (by omega)), if_neg (show ¬ w = 1 from hne 1 (by omega)), if_neg (show ¬ w = 2 from hne 2 (by omega)), if_neg (show ¬ w = 3 from hne 3 (by omega)), if_neg (show ¬ w = 4 from hne 4 (by omega)), if_neg (show ¬ w = 5 from hne 5 (by omega)), if_neg (show ¬ w = 6 from hne 6 (by omega))]
    refine (if_pos ?_).symm
    cases e : jin w 0 6
    · rfl
    · obtain ⟨j, hj, rfl⟩ := jin_of (n := 6) rfl (by decide) e
      exact absurd rfl (hne j hj)
theorem told_k {s : Nat → Int32} {i : Nat} (hi : i < 4) (w : Int32) : (if w = 0 then s (120 + 5 * i + 0) else if w = 1 then s (120 + 5 * i + 1) else if w = 2 then s (120 + 5 * i + 2) else if w = 3 then s (120 + 5 * i + 3) else if w = 4 then s (120 + 5 * i + 4) else -2) = jkeeperOf s (nI i) w := by
  have ti : tn (nI i) = i := tn_nI (by omega)
  unfold jkeeperOf
  rw [ti]
  refine Eq.trans ?_ (if_neg (show ¬ jin (nI i) 0 3 = false by rw [show jin (nI i) 0 3 = true from jin_nI (j := i) (n := 3) (by omega) (by decide)]; decide)).symm
  rcases tb_case 4 (by decide) w with ⟨k, hk, rfl⟩ | ⟨h, hne⟩
  · refine Eq.trans ?_ (if_neg (show ¬ jin (nI k) 0 4 = false by rw [show jin (nI k) 0 4 = true from jin_nI (j := k) (n := 4) hk (by decide)]; decide)).symm
    match k, hk with
    | 0, _ => rfl
    | 1, _ => rfl
    | 2, _ => rfl
    | 3, _ => rfl
    | 4, _ => rfl
    | k + 5, h => exact absurd h (by omega)
  · rw [if_neg (show ¬ w = 0 from hne 0 (by omega)), if_neg (show ¬ w = 1 from hne 1 (by omega)), if_neg (show ¬ w = 2 from hne 2 (by omega)), if_neg (show ¬ w = 3 from hne 3 (by omega)), if_neg (show ¬ w = 4 from hne 4 (by omega))]
    refine (if_pos ?_).symm
    cases e : jin w 0 4
    · rfl
    · obtain ⟨j, hj, rfl⟩ := jin_of (n := 4) rfl (by decide) e
      exact absurd rfl (hne j hj)
theorem jin_ship {n : Nat} {k : Int32} (hn : n ≤ 8) (h : k < 0 ∨ nI n ≤ k) : jin k 0 (nI n - 1) = false := by
  cases e : jin k 0 (nI n - 1)
  · rfl
  · obtain ⟨j, hj, rfl⟩ := jin_n hn e
    exfalso
    rcases h with h | h
    · exact nI_pos (by omega) h
    · exact absurd ((nI_leI (by omega) (by omega)).mp h) (by omega)
theorem jin_ship7 {n : Nat} {k : Int32} (hn : n ≤ 8) (h : jin k 0 7 = false) : jin k 0 (nI n - 1) = false := by
  cases e : jin k 0 (nI n - 1)
  · rfl
  · obtain ⟨j, hj, rfl⟩ := jin_n hn e
    rw [jin_7 (show j < 8 by omega)] at h
    cases h
theorem told_s {s : Nat → Int32} {n k ce h : Nat} (hw : jwf s n) (hk : k < n) (ec : s (140 + 5 * k + 1) = nI ce) (eh : s (140 + 5 * k + 2) = nI h) (hc : ce < 100) (hh : h < 100) (w : Int32) (h6 : ¬ w = 6) : (if w = 0 then s (140 + 5 * k + 0) else if w = 1 then s (140 + 5 * k + 1) else if w = 2 then s (140 + 5 * k + 2) else if w = 3 then s (140 + 5 * k + 3) else if w = 4 then s (140 + 5 * k + 4) else if w = 5 then jds ce h else -2) = jshipOf s n (nI k) w := by
  have hn := hw.1
  have hin : jin (nI k) 0 (s 180 - 1) = true := by
    rw [hw.2.1]
    obtain ⟨m, rfl⟩ : ∃ m, n = m + 1 := ⟨n - 1, by omega⟩
    rw [show nI (m + 1) - 1 = nI m from nI_pred m]
    exact jin_nI (by omega) (by omega)
  have tk : tn (nI k) = k := tn_nI (by omega)
  unfold jshipOf
  rw [tk]
  refine Eq.trans ?_ (if_neg (by rw [hin]; decide)).symm
  rcases tb_case 6 (by decide) w with ⟨j, hj, rfl⟩ | ⟨h, hne⟩
  · refine Eq.trans ?_ (if_neg (show ¬ jin (nI j) 0 6 = false by rw [show jin (nI j) 0 6 = true from jin_nI (j := j) (n := 6) hj (by decide)]; decide)).symm
    match j, hj with
    | 0, _ => rfl
    | 1, _ => rfl
    | 2, _ => rfl
    | 3, _ => rfl
    | 4, _ => rfl
    | 5, _ =>
      refine ((if_neg (by decide)).trans ((if_neg (by decide)).trans ((if_neg (by decide)).trans ((if_neg (by decide)).trans ((if_neg (by decide)).trans (if_pos rfl)))))).trans ?_
      rw [show tn (nI 5) = 5 from rfl, if_neg (by decide), if_pos rfl, ec, eh, tn_nI (by omega), tn_nI (by omega)]
    | 6, _ => exact absurd rfl h6
    | k + 7, h => exact absurd h (by omega)
  · rw [if_neg (show ¬ w = 0 from hne 0 (by omega)), if_neg (show ¬ w = 1 from hne 1 (by omega)), if_neg (show ¬ w = 2 from hne 2 (by omega)), if_neg (show ¬ w = 3 from hne 3 (by omega)), if_neg (show ¬ w = 4 from hne 4 (by omega)), if_neg (show ¬ w = 5 from hne 5 (by omega))]
    refine (if_pos ?_).symm
    cases e : jin w 0 6
    · rfl
    · obtain ⟨j, hj, rfl⟩ := jin_of (n := 6) rfl (by decide) e
      exact absurd rfl (hne j hj)
theorem told_s6 {s : Nat → Int32} {n k : Nat} (hw : jwf s n) (hk : k < n) : jshipOf s n (nI k) 6 = (if s (140 + 5 * k + 3) = 0 then nI (jrk s n k) else -5) := by
  have hn := hw.1
  have hin : jin (nI k) 0 (s 180 - 1) = true := by
    rw [hw.2.1]
    obtain ⟨m, rfl⟩ : ∃ m, n = m + 1 := ⟨n - 1, by omega⟩
    rw [show nI (m + 1) - 1 = nI m from nI_pred m]
    exact jin_nI (by omega) (by omega)
  unfold jshipOf
  rw [if_neg (by rw [hin]; decide), tn_nI (by omega)]
  rfl
theorem jin_lo {v hi : Int32} (h : v < 0) : jin v 0 hi = false := by
  unfold jin
  rw [decide_eq_false (Int32.not_le.mpr h), Bool.false_and]
theorem jin_hi {v lo hi : Int32} (h : hi < v) : jin v lo hi = false := by
  unfold jin
  rw [decide_eq_false (Int32.not_le.mpr h), Bool.and_false]
theorem jin_ok {v hi : Int32} (h : ¬ v < 0) (h2 : v ≤ hi) : jin v 0 hi = true := by
  unfold jin
  rw [decide_eq_true (Int32.not_lt.mp h), decide_eq_true h2]
  rfl
theorem told_w {s : Nat → Int32} {i c : Nat} (hf : jlf s) (hi : i < 4) (hc : c < 100) : (if c = jhm i then 0 else if jdk s i (cwd i c) = true then 1 else if s (100 + 5 * i + 2) < cds i c then 2 else if crch s i 0 < cds i c then 3 else if cwd i c = jbm s i (s 181) then 0 else 4) = jwhy s (nI i) (nI c) := by
  have ti : tn (nI i) = i := tn_nI (by omega)
  have tc : tn (nI c) = c := tn_nI (by omega)
  unfold jwhy
  rw [ti, tc]
  refine Eq.trans ?_ (if_neg (by rw [show jin (nI i) 0 3 = true from jin_nI (j := i) (n := 3) (by omega) (by decide), show jin (nI c) 0 99 = true from jin_nI (j := c) (n := 99) (by omega) (by decide)]; decide)).symm
  obtain ⟨-, -, -, g, hg, eg⟩ := hf i hi
  have er : crch s i 0 = s (100 + 5 * i + 2) - s (100 + 5 * i + 4) := by
    have e := crch_eq (h := 0) eg (by omega) (by omega)
    rw [show nI 0 = (0 : Int32) from rfl] at e
    rw [e, eg]
    refine congrArg _ ?_
    unfold jmx
    rw [Int32.sub_zero, if_pos (nI_pos' (by omega))]
  unfold jwhy1
  by_cases h : c = jhm i
  · rw [if_pos h]
    exact (if_pos ((cwd_own i hi c hc).mpr h)).symm
  · rw [if_neg h, cwd_eq i hi c hc h, er]
    exact (if_neg (fun z => h ((cwd_own i hi c hc).mp z))).symm
theorem jset_any (p : Nat → Bool) : ∀ n, n ≤ 8 → (nI (jset p n) = 0 ↔ jany p n = false)
  | 0, _ => ⟨fun _ => rfl, fun _ => rfl⟩
  | n + 1, hn => by
    have h := jset_any p n (by omega)
    have hl := jset_256 p (n := n) (by omega)
    have hl2 := jset_256 p hn
    rw [show (0 : Int32) = nI 0 from rfl, nI_eq (by omega) (by decide)] at h ⊢
    have e1 : jset p (n + 1) = jset p n + (if p n then 2 ^ n else 0) := rfl
    have e2 : jany p (n + 1) = (jany p n || p n) := rfl
    rw [e1, e2]
    cases e : p n
    · simp [h]
    · have : 0 < 2 ^ n := Nat.two_pow_pos n
      simp
theorem cby_lt {s : Nat → Int32} {c h : Nat} {hr : Int32} (hf : jlf s) (hc : c < 100) (hh : h < 1000) : nI (jset (fun i => clit s i c (s 181 + hr) (nI h)) 4) = 0 ↔ jlt s c hr (nI h) = false := by
  rw [jset_any _ 4 (by omega)]
  have e : jany (fun i => clit s i c (s 181 + hr) (nI h)) 4 = jlt s c hr (nI h) := by
    unfold jlt
    show ((((false || clit s 0 c (s 181 + hr) (nI h)) || clit s 1 c (s 181 + hr) (nI h)) || clit s 2 c (s 181 + hr) (nI h)) || clit s 3 c (s 181 + hr) (nI h)) = _
    rw [clit_h hf (by decide : 0 < 4) hc hh, clit_h hf (by decide : 1 < 4) hc hh, clit_h hf (by decide : 2 < 4) hc hh, clit_h hf (by decide : 3 < 4) hc hh]
    rfl
  rw [e]
