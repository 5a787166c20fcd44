/-! an hour, and the acts -/
theorem jnw_800 {s : Nat → Int32} {n : Nat} (hw : jwf s n) : jnw s n ≤ 800 := by
  have h := jnu_le (f := fun k => if jst s 2 k = true then jwn s k else 0) (B := 99) (n := n) (fun k hk => by
    have := jwn_lt hw (k := k) (by have := hw.1; omega)
    show (if jst s 2 k = true then jwn s k else 0) ≤ 99
    split <;> omega)
  have := hw.1
  unfold jnw
  omega
theorem cke_v0 {s : Nat → Int32} {l : Nat} (hl : l < 4) : cke s l (120 + 5 * l + 0) = s (120 + 5 * l + 0) + s 182 - jkP s l := by
  show upd _ _ _ (120 + 5 * l + 0) = _
  rw [upd_n (by omega), upd_n (by omega), upd_s]
theorem cke_v1 {s : Nat → Int32} {l : Nat} (hl : l < 4) : cke s l (120 + 5 * l + 1) = s (120 + 5 * l + 1) - jkP s l := by
  show upd _ _ _ (120 + 5 * l + 1) = _
  rw [upd_n (by omega), upd_s, upd_n (by omega)]
theorem cke_v4 {s : Nat → Int32} {l : Nat} (hl : l < 4) : cke s l (120 + 5 * l + 4) = s (120 + 5 * l + 4) + jkP s l := by
  show upd _ _ _ (120 + 5 * l + 4) = _
  rw [upd_s, upd_n (by omega), upd_n (by omega)]
theorem jkP_n {s : Nat → Int32} {l c d w : Nat} (h0 : s (120 + 5 * l + 0) = nI c) (h1 : s (120 + 5 * l + 1) = nI d) (h2 : s 182 = nI w) (hc : c < 1000000) (hd : d < 1000000) (hw : w < 1000000) : jkP s l = nI (if d ≤ c + w then d else c + w) := by
  unfold jkP
  rw [h0, h1, h2, nI_add]
  by_cases q : d ≤ c + w
  · rw [if_pos q, if_pos ((nI_leI (by omega) (by omega)).mpr q)]
  · rw [if_neg q, if_neg (fun z => q ((nI_leI (by omega) (by omega)).mp z))]
theorem jkp1_v {s : Nat → Int32} {l m : Nat} (h : m < 100 ∨ 120 ≤ m) : jkp1 s l m = cke s l m ∨ ¬ l < 4 := by
  by_cases hl : l < 4
  · left
    rw [jkp1_ef]
    exact cfg_o (by omega)
  · exact Or.inr hl
theorem ji_kp1 {s : Nat → Int32} {n h i w : Nat} (hi : i < 4) (hh : h ≤ 100000) (hw : jwf s n) (h2 : s 182 = nI w) (hw9 : w ≤ 9) (hK : jiK (jq2 h i) s n) : jiK (jq2 h (i + 1)) (jkp1 s i) n := by
  have h8 := jnw_800 hw
  obtain ⟨C, D, K, W, P, g1, g2, g3⟩ := hK
  have hDi : D i + P i ≤ 800 := by
    have := jnu_ge (f := fun l => D l + P l) (k := i) (n := 4) hi
    have e : (fun l => D l + P l) i = D i + P i := rfl
    omega
  have hCi : C i ≤ 9 * h := by
    have := (g1 i hi).2.2
    unfold jq2 at this
    rw [if_neg (by omega)] at this
    exact this
  have hP := jkP_n (l := i) (g1 i hi).1.1 (g1 i hi).1.2.1 h2 (by omega) (by omega) (by omega)
  generalize hp : (if D i ≤ C i + w then D i else C i + w) = p at hP
  have hp1 : p ≤ D i := by rw [← hp]; split <;> omega
  have hp2 : p ≤ C i + w := by rw [← hp]; split <;> omega
  have hp3 : D i - p = 0 ∨ C i + w - p = 0 := by rw [← hp]; split <;> omega
  have V : ∀ m, m < 100 ∨ 120 ≤ m → jkp1 s i m = cke s i m := fun m hm => (jkp1_v hm).resolve_right (fun z => z hi)
  refine ⟨fun l => if l = i then C l + w - p else C l, fun l => if l = i then D l - p else D l, K, W, fun l => if l = i then P l + p else P l, fun l hl => ⟨⟨?_, ?_, ?_, ?_, ?_⟩, (g1 l hl).2.1, ?_⟩, ?_, ?_⟩
  · rw [V _ (by omega)]
    by_cases e : l = i
    · subst e
      simp only [if_true]
      rw [cke_v0 hl, hP, (g1 l hl).1.1, h2, nI_add, pk_sub hp2]
    · simp only [if_neg e]
      rw [cke_o (by omega) (by omega) (by omega)]
      exact (g1 l hl).1.1
  · rw [V _ (by omega)]
    by_cases e : l = i
    · subst e
      simp only [if_true]
      rw [cke_v1 hl, hP, (g1 l hl).1.2.1, pk_sub hp1]
    · simp only [if_neg e]
      rw [cke_o (by omega) (by omega) (by omega)]
      exact (g1 l hl).1.2.1
  · rw [V _ (by omega), cke_o (by omega) (by omega) (by omega)]
    exact (g1 l hl).1.2.2.1
  · rw [V _ (by omega), cke_o (by omega) (by omega) (by omega)]
    exact (g1 l hl).1.2.2.2.1
  · rw [V _ (by omega)]
    by_cases e : l = i
    · subst e
      simp only [if_true]
      rw [cke_v4 hl, hP, (g1 l hl).1.2.2.2.2, nI_add]
    · simp only [if_neg e]
      rw [cke_o (by omega) (by omega) (by omega)]
      exact (g1 l hl).1.2.2.2.2
  · have hq := (g1 l hl).2.2
    unfold jq2 at hq ⊢
    by_cases e : l = i
    · subst e
      simp only [if_true]
      rw [if_pos (by omega)]
      omega
    · simp only [if_neg e]
      by_cases q : l < i
      · rw [if_pos q] at hq
        rw [if_pos (by omega)]
        exact hq
      · rw [if_neg q] at hq
        rw [if_neg (by omega)]
        exact hq
  · rw [g2]
    exact (jct_cong fun k hk => jst_cg (by rw [V _ (by omega), cke_o (by omega) (by omega) (by omega)])).symm
  · have e1 : jnu (fun l => (if l = i then D l - p else D l) + (if l = i then P l + p else P l)) 4 = jnu (fun l => D l + P l) 4 := jnu_cong fun l hl => by
      by_cases e : l = i
      · rw [if_pos e, if_pos e]
        subst e
        omega
      · rw [if_neg e, if_neg e]
    rw [e1, g3]
    exact (jnw_cong fun k hk => ⟨jst_cg (by rw [V _ (by omega), cke_o (by omega) (by omega) (by omega)]), jwn_cg (by rw [V _ (by omega), cke_o (by omega) (by omega) (by omega)])⟩).symm
theorem jkp_hi {s : Nat → Int32} {m : Nat} (h : m < 100 ∨ 140 ≤ m) : ∀ i, i ≤ 4 → jkp s i m = s m
  | 0, _ => rfl
  | i + 1, hi => by
    show jkp1 (jkp s i) i m = s m
    rw [jkp1_ef, cfg_o (by omega), cke_o (by omega) (by omega) (by omega)]
    exact jkp_hi h i (by omega)
theorem ji_kp {s : Nat → Int32} {n h w : Nat} (hh : h ≤ 100000) (hw : jwf s n) (h2 : s 182 = nI w) (hw9 : w ≤ 9) (hK : jiK (jq1 h) s n) : ∀ i, i ≤ 4 → jiK (jq2 h i) (jkp s i) n
  | 0, _ => hK.mono fun l c d _ q => by unfold jq2; rw [if_neg (by omega)]; exact q
  | i + 1, hi => ji_kp1 (by omega) hh (hw.kp i (by omega)) (by rw [jkp_hi (by omega) i (by omega)]; exact h2) hw9 (ji_kp hh hw h2 hw9 hK i (by omega))
theorem jkp_pace {s : Nat → Int32} {l : Nat} (hl : l < 4) : ∀ i, i ≤ 4 → jkp s i (100 + 5 * l + 1) = s (100 + 5 * l + 1)
  | 0, _ => rfl
  | i + 1, hi => by
    show jkp1 (jkp s i) i _ = _
    rw [jkp1_ef, cfg_o (by omega), cke_o (by omega) (by omega) (by omega)]
    exact jkp_pace hl i (by omega)
theorem jgoA_o {s : Nat → Int32} {n m : Nat} (h : ∀ k, m ≠ 140 + 5 * k + 1 ∧ m ≠ 140 + 5 * k + 3 ∧ m ≠ 140 + 5 * k + 4) (h4 : ∀ l, l < 4 → m ≠ 120 + 5 * l + 1 ∧ m ≠ 120 + 5 * l + 3) : jgoA s n m = s m := by
  rw [← jgf_A]
  exact jgf_o h h4 _ s
theorem jgoA_wf {s : Nat → Int32} {n : Nat} (h : jwf s n) : jwf (jgoA s n) n := h.goL (jord s n) (fun k hk => by have := (jord_mem.mp hk).1; have := h.1; omega)
theorem jhour_lo {s : Nat → Int32} {n m : Nat} (h : m < 100) : jhour s n m = s m := by
  show upd _ 181 _ m = s m
  rw [upd_n (by omega), jkp_hi (by omega) 4 (by omega)]
  exact jgoA_o (fun k => by omega) (fun l hl => by omega)
theorem jI.hour {s : Nat → Int32} {n h : Nat} (hw : jwf s n) (hI : jI s n h) (hh : h ≤ 100000) : jI (jhour s n) n (h + 1) := by
  obtain ⟨hR, ⟨hH, w, hw9, h2⟩, hK, hS, hD⟩ := hI
  have hn8 := hw.1
  obtain ⟨a1, a2, a3⟩ := ji_goL (h := h) (jord s n) s (fun _ => h) hw (jord_nodup s n) (fun k hk => ⟨(jord_mem.mp hk).1, by have := (jord_mem.mp hk).2; unfold jsea at this; simpa using this⟩) (hK.mono fun l c d _ q => q.1) hS hD
  have e2 : jgoA s n 182 = s 182 := jgoA_o (fun k => by omega) (fun l hl => by omega)
  have e1 : jgoA s n 181 = s 181 := by
    have := jgf_all (n := n) (jall (jwn s) n) s s (jall_nodup _ _) (fun _ _ => rfl)
    rw [← jgf_A]
    have : ∀ (L : List Nat) (s : Nat → Int32), (∀ k ∈ L, k < 8) → jgf s n L 181 = s 181 := by
      intro L
      induction L with
      | nil => intros; rfl
      | cons k L ih =>
        intro s hL
        have hk := hL k List.mem_cons_self
        show jgf (jgx s n k) n L 181 = s 181
        rw [ih _ (fun j hj => hL j (List.mem_cons_of_mem _ hj))]
        exact jgx_o (by omega) (by omega) (by omega) (fun l hl => by omega)
    exact this _ s (jall8 hw)
  have hKp := ji_kp hh (jgoA_wf hw) (e2.trans h2) hw9 a1 4 (by omega)
  have sh : ∀ k v, k < n → v < 5 → jhour s n (140 + 5 * k + v) = jgoA s n (140 + 5 * k + v) := fun k v hk hv => by
    show upd _ 181 _ _ = _
    rw [upd_n (by omega), jkp_hi (by omega) 4 (by omega)]
  refine ⟨fun l hl => ?_, ⟨?_, w, hw9, ?_⟩, ?_, ?_, ?_⟩
  · rw [jhour_lo (jhm_lt l)]
    refine ⟨(hR l hl).1, ?_⟩
    have e5 : jhour s n (100 + 5 * l + 1) = s (100 + 5 * l + 1) := by
      show upd _ 181 _ _ = _
      rw [upd_n (by omega), jkp_pace hl 4 (by omega)]
      exact jgoA_o (fun k => by omega) (fun i hi => by omega)
    rw [e5]
    exact (hR l hl).2
  · show upd _ 181 _ 181 = _
    rw [upd_s, jkp_hi (by omega) 4 (by omega), e1, hH, nI_1]
  · show upd _ 181 _ 182 = _
    rw [upd_n (by omega), jkp_hi (by omega) 4 (by omega), e2, h2]
  · refine (hKp.ships (s' := jhour s n) (fun m m1 m2 => upd_n (by omega)) (fun k hk => ⟨jst_cg (upd_n (by omega)), jwn_cg (upd_n (by omega))⟩)).mono fun l c d hl q => ?_
    unfold jq2 at q
    rw [if_pos hl] at q
    exact q
  · exact (a2.mono (V := fun _ => h + 1) (fun k _ => by show (if k ∈ jord s n then h + 1 else h) ≤ h + 1; split <;> omega)).cg sh
  · exact jiD.cg a3 sh
theorem jI.hrs {s : Nat → Int32} {n h : Nat} (hw : jwf s n) (hI : jI s n h) : ∀ t, h + t ≤ 100000 → jI (jhrs s n t) n (h + t)
  | 0, _ => hI
  | t + 1, ht => jI.hour (hw.hrs t) (jI.hrs hw hI t (by omega)) (show h + t ≤ 100000 by omega)
/-- what changes neither ships nor keepers, nor the hour -/
theorem jI.cg {s s' : Nat → Int32} {n h : Nat} (hI : jI s n h) (hn : n ≤ 8) (eR : ∀ l, l < 4 → s' (jhm l) = s (jhm l) ∧ (s (100 + 5 * l + 1) ≠ 0 → s' (100 + 5 * l + 1) ≠ 0)) (e : ∀ m, 120 ≤ m → m < 182 → s' m = s m) (e2 : ∃ w, w ≤ 9 ∧ s' 182 = nI w) : jI s' n h := by
  obtain ⟨hR, ⟨hH, -⟩, hK, hS, hD⟩ := hI
  have sh : ∀ k v, k < n → v < 5 → s' (140 + 5 * k + v) = s (140 + 5 * k + v) := fun k v hk hv => e _ (by omega) (by omega)
  exact ⟨fun l hl => ⟨(eR l hl).1.trans (hR l hl).1, (eR l hl).2 (hR l hl).2⟩, ⟨(e 181 (by omega) (by omega)).trans hH, e2⟩, hK.ships (fun m a b => e m a (by omega)) (fun k hk => ⟨jst_cg (sh k 3 hk (by omega)), jwn_cg (sh k 0 hk (by omega))⟩), hS.cg sh, hD.cg sh⟩
theorem jI.rock {s : Nat → Int32} {n h c : Nat} {x : Int32} (hI : jI s n h) (hn : n ≤ 8) (hc : c < 100) (hc2 : ∀ l, l < 4 → jhm l ≠ c) : jI (upd s c x) n h :=
  hI.cg hn (fun l hl => ⟨upd_n (hc2 l hl), fun z => by rw [upd_n (by omega)]; exact z⟩) (fun m a b => upd_n (by omega)) (by rw [upd_n (by omega)]; exact hI.2.1.2)
theorem jI.light {s : Nat → Int32} {n h m : Nat} {x : Int32} (hI : jI s n h) (hn : n ≤ 8) (h1 : 100 ≤ m) (h2 : m < 120) (hx : ∀ l, l < 4 → 100 + 5 * l + 1 = m → x ≠ 0) : jI (upd s m x) n h :=
  hI.cg hn (fun l hl => ⟨upd_n (by have := jhm_lt l; omega), fun z => by
    by_cases e : 100 + 5 * l + 1 = m
    · rw [e, upd_s]; exact hx l hl e
    · rw [upd_n e]; exact z⟩) (fun m a b => upd_n (by omega)) (by rw [upd_n (by omega)]; exact hI.2.1.2)
theorem jI.wage {s : Nat → Int32} {n h w : Nat} (hI : jI s n h) (hn : n ≤ 8) (hw : w ≤ 9) : jI (upd s 182 (nI w)) n h :=
  hI.cg hn (fun l hl => ⟨upd_n (by have := jhm_lt l; omega), fun z => by rw [upd_n (by omega)]; exact z⟩) (fun m a b => upd_n (by omega)) ⟨w, hw, upd_s⟩
theorem jcm_o {s : Nat → Int32} {n m : Nat} {w c d : Int32} (hm : m < 140 + 5 * n ∨ 145 + 5 * n ≤ m) (h1 : m ≠ 180) : jcm s n w c d m = s m := by
  show upd _ 180 _ m = s m
  rw [upd_n h1]
  exact cbg_o hm
theorem jI.ship {s : Nat → Int32} {n h w c d : Nat} (hw : jwf s n) (hI : jI s n h) (h0 : 0 ≤ jbs s n (nI w) (nI c) (nI d)) (hn : n < 8) (hw1 : 1 ≤ w) (hw2 : w < 100) (hc : c < 100) (hd : d < 100) : jI (jcm s n (nI w) (nI c) (nI d)) (n + 1) h := by
  obtain ⟨-, -, -, hcd, -, -, hno, -⟩ := jbs_in h0
  have hfree := jsin_no (by omega) hno
  obtain ⟨hR, ⟨hH, hwg⟩, hK, hS, hD⟩ := hI
  have o : ∀ m, (m < 140 + 5 * n ∨ 145 + 5 * n ≤ m) → m ≠ 180 → jcm s n (nI w) (nI c) (nI d) m = s m := fun m a b => jcm_o a b
  have v0 : jcm s n (nI w) (nI c) (nI d) (140 + 5 * n + 0) = nI w := by
    show upd (upd (upd (upd (upd (upd s _ _) _ _) _ _) _ _) _ _) _ _ _ = _
    rw [upd_n (by omega), upd_n (by omega), upd_n (by omega), upd_n (by omega), upd_n (by omega), upd_s]
  have v1 : jcm s n (nI w) (nI c) (nI d) (140 + 5 * n + 1) = nI c := by
    show upd (upd (upd (upd (upd (upd s _ _) _ _) _ _) _ _) _ _) _ _ _ = _
    rw [upd_n (by omega), upd_n (by omega), upd_n (by omega), upd_n (by omega), upd_s]
  have v2 : jcm s n (nI w) (nI c) (nI d) (140 + 5 * n + 2) = nI d := by
    show upd (upd (upd (upd (upd (upd s _ _) _ _) _ _) _ _) _ _) _ _ _ = _
    rw [upd_n (by omega), upd_n (by omega), upd_n (by omega), upd_s]
  have v3 : jcm s n (nI w) (nI c) (nI d) (140 + 5 * n + 3) = 0 := by
    show upd (upd (upd (upd (upd (upd s _ _) _ _) _ _) _ _) _ _) _ _ _ = _
    rw [upd_n (by omega), upd_n (by omega), upd_s]
  have v4 : jcm s n (nI w) (nI c) (nI d) (140 + 5 * n + 4) = 0 := by
    show upd (upd (upd (upd (upd (upd s _ _) _ _) _ _) _ _) _ _) _ _ _ = _
    rw [upd_n (by omega), upd_s]
  generalize jcm s n (nI w) (nI c) (nI d) = s' at *
  have sh : ∀ k v, k < n → v < 5 → s' (140 + 5 * k + v) = s (140 + 5 * k + v) := fun k v hk hv => o _ (by omega) (by omega)
  have z : jst s' 2 n = false := by unfold jst; rw [v3]; decide
  refine ⟨fun l hl => ⟨(o _ (by have := jhm_lt l; omega) (by have := jhm_lt l; omega)).trans (hR l hl).1, by rw [o _ (by omega) (by omega)]; exact (hR l hl).2⟩, ⟨(o _ (by omega) (by omega)).trans hH, by rw [o _ (by omega) (by omega)]; exact hwg⟩, hK.cg (fun m a b => o m (by omega) (by omega)) ?_ ?_, fun k hk => ?_, fun j k hj hk hjk z1 z2 => ?_⟩
  · show jct (jst s' 2) n + (if jst s' 2 n then 1 else 0) = _
    rw [z, jct_cong (q := jst s 2) (fun k hk => jst_cg (sh k 3 hk (by omega)))]
    rfl
  · show jnu _ n + (if jst s' 2 n = true then jwn s' n else 0) = _
    rw [z]
    show jnw s' n + 0 = _
    rw [Nat.add_zero]
    exact jnw_cong fun k hk => ⟨jst_cg (sh k 3 hk (by omega)), jwn_cg (sh k 0 hk (by omega))⟩
  · by_cases e : k = n
    · subst e
      unfold jwn
      rw [v0, v1, v2, v3, v4]
      refine ⟨by rw [tn_nI (by omega)]; exact hw1, ⟨0, Nat.zero_le _, rfl⟩, Or.inl ⟨rfl, hcd⟩⟩
    · unfold jwn
      rw [sh k 0 (by omega) (by omega), sh k 1 (by omega) (by omega), sh k 2 (by omega) (by omega), sh k 3 (by omega) (by omega), sh k 4 (by omega) (by omega)]
      exact hS k (by omega)
  · by_cases e1 : j = n
    · subst e1
      rw [sh k 3 (by omega) (by omega)] at z2
      rw [v1, sh k 1 (by omega) (by omega)]
      exact fun q => hfree k (by omega) z2 q.symm
    · rw [sh j 3 (by omega) (by omega)] at z1
      rw [sh j 1 (by omega) (by omega)]
      by_cases e2 : k = n
      · subst e2
        rw [v1]
        exact hfree j (by omega) z1
      · rw [sh k 3 (by omega) (by omega)] at z2
        rw [sh k 1 (by omega) (by omega)]
        exact hD j k (by omega) (by omega) hjk z1 z2
theorem jI.ly {s : Nat → Int32} {n h k l : Nat} (hI : jI s n h) (hn : n ≤ 8) (hk : k < 4) (hl : l < 4) (hc : jcl s k l = true) : jI (jly s k l) n h := by
  obtain ⟨hR, ⟨hH, hwg⟩, hK, hS, hD⟩ := hI
  have o : ∀ m, m ≠ 100 + 5 * l + 4 → m ≠ 120 + 5 * k + 2 → jly s k l m = s m := fun m a b => by
    show upd (upd s _ _) _ _ m = s m
    rw [upd_n b, upd_n a]
  have v : jly s k l (120 + 5 * k + 2) = s (120 + 5 * k + 2) - 1 := by
    show upd (upd s _ _) _ (upd s _ _ _ - 1) (120 + 5 * k + 2) = _
    rw [upd_s, upd_n (by omega)]
  generalize jly s k l = s' at *
  have sh : ∀ i v, i < n → v < 5 → s' (140 + 5 * i + v) = s (140 + 5 * i + v) := fun i v hi hv => o _ (by omega) (by omega)
  refine ⟨fun i hi => ⟨(o _ (by have := jhm_lt i; omega) (by have := jhm_lt i; omega)).trans (hR i hi).1, by rw [o _ (by omega) (by omega)]; exact (hR i hi).2⟩, ⟨(o _ (by omega) (by omega)).trans hH, by rw [o _ (by omega) (by omega)]; exact hwg⟩, ?_, hS.cg sh, hD.cg sh⟩
  obtain ⟨C, D, K, W, P, g1, g2, g3⟩ := hK
  have hpos : 0 < s (120 + 5 * k + 2) := by
    unfold jcl at hc
    simp only [Bool.and_eq_true, decide_eq_true_eq] at hc
    exact hc.1.2
  have hK1 : 1 ≤ K k := by
    rcases Nat.eq_zero_or_pos (K k) with z | z
    · rw [(g1 k hk).1.2.2.1, z] at hpos
      exact absurd hpos (by decide)
    · exact z
  refine ⟨C, D, fun i => if i = k then K i - 1 else K i, W, P, fun i hi => ⟨⟨?_, ?_, ?_, ?_, ?_⟩, ?_, (g1 i hi).2.2⟩, g2.trans (jct_cong fun j hj => jst_cg (sh j 3 hj (by omega))).symm, g3.trans (jnw_cong fun j hj => ⟨jst_cg (sh j 3 hj (by omega)), jwn_cg (sh j 0 hj (by omega))⟩).symm⟩
  · rw [o _ (by omega) (by omega)]; exact (g1 i hi).1.1
  · rw [o _ (by omega) (by omega)]; exact (g1 i hi).1.2.1
  · by_cases e : i = k
    · subst e
      simp only [if_true]
      rw [v, (g1 i hi).1.2.2.1]
      exact pk_sub (b := 1) hK1
    · simp only [if_neg e]
      rw [o _ (by omega) (by omega)]; exact (g1 i hi).1.2.2.1
  · rw [o _ (by omega) (by omega)]; exact (g1 i hi).1.2.2.2.1
  · rw [o _ (by omega) (by omega)]; exact (g1 i hi).1.2.2.2.2
  · have := (g1 i hi).2.1
    show (if i = k then K i - 1 else K i) ≤ 3
    split <;> omega
theorem jI.cg3 {s s' : Nat → Int32} {n h : Nat} (hI : jI s n h) (hn : n ≤ 8) (e : ∀ m, m < 183 → s' m = s m) : jI s' n h :=
  hI.cg hn (fun l hl => ⟨e _ (by have := jhm_lt l; omega), fun z => by rw [e _ (by omega)]; exact z⟩) (fun m _ b => e m (by omega)) (by rw [e _ (by omega)]; exact hI.2.1.2)
theorem jI.start : jI jS0 0 0 := by
  refine ⟨fun l hl => ⟨jS0_z (by have := jhm_lt l; omega) (by have := jhm_lt l; omega), by
    match l, hl with
    | 0, _ => decide
    | 1, _ => decide
    | 2, _ => decide
    | 3, _ => decide
    | l + 4, h => exact absurd h (by omega)⟩, ⟨jS0_z (by omega) (by omega), 2, by omega, rfl⟩, ⟨fun _ => 0, fun _ => 0, fun _ => 3, fun _ => 0, fun _ => 0, fun l hl => ⟨?_, Nat.le_refl 3, Nat.zero_le _, Or.inl rfl⟩, rfl, rfl⟩, fun k hk => absurd hk (Nat.not_lt_zero _), fun j k hj => absurd hj (Nat.not_lt_zero _)⟩
  match l, hl with
  | 0, _ => exact ⟨rfl, rfl, rfl, rfl, rfl⟩
  | 1, _ => exact ⟨rfl, rfl, rfl, rfl, rfl⟩
  | 2, _ => exact ⟨rfl, rfl, rfl, rfl, rfl⟩
  | 3, _ => exact ⟨rfl, rfl, rfl, rfl, rfl⟩
  | l + 4, h => exact absurd h (by omega)
