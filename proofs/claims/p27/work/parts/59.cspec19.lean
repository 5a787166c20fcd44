/-! what would be: a keeper's cards are of no account while hours pass -/
def jeq (m : Nat) (s s' : Nat → Int32) : Prop := ∀ i, i ≠ m → s i = s' i
theorem jeq.put {m a : Nat} {s s' : Nat → Int32} {v v' : Int32} (h : jeq m s s') (e : v = v') : jeq m (upd s a v) (upd s' a v') := by
  subst e
  intro i hi
  unfold upd
  split
  · rfl
  · exact h i hi
section JEQ
variable {s s' : Nat → Int32} {n k : Nat}
theorem jeq.sin (hk : k < 4) (h : jeq (120 + 5 * k + 2) s s') (c : Int32) : jsin s n c = jsin s' n c := by
  have e : (fun j => decide (s (140 + 5 * j + 3) = 0) && decide (s (140 + 5 * j + 1) = c)) = (fun j => decide (s' (140 + 5 * j + 3) = 0) && decide (s' (140 + 5 * j + 1) = c)) := by
    funext j
    rw [h (140 + 5 * j + 3) (by omega), h (140 + 5 * j + 1) (by omega)]
  unfold jsin
  rw [e]
theorem jeq.lb (hk : k < 4) (h : jeq (120 + 5 * k + 2) s s') {l : Nat} (hl : l < 4) (c : Nat) : jlb s l c = jlb s' l c := by
  unfold jlb jlit jbm jdk
  rw [h (100 + 5 * l + 0) (by omega), h (100 + 5 * l + 1) (by omega), h (100 + 5 * l + 2) (by omega), h (100 + 5 * l + 3) (by omega), h (100 + 5 * l + 4) (by omega), h 181 (by omega)]
theorem jeq.lonA (hk : k < 4) (h : jeq (120 + 5 * k + 2) s s') (c : Nat) : ∀ n, n ≤ 4 → jlonA s c n = jlonA s' c n
  | 0, _ => rfl
  | n + 1, hn => by
    show jlonA s c n ||| (if jlb s n c then _ else _) = jlonA s' c n ||| (if jlb s' n c then _ else _)
    rw [jeq.lonA hk h c n (by omega), h.lb hk (by omega) c]
theorem jeq.lon (hk : k < 4) (h : jeq (120 + 5 * k + 2) s s') (c : Nat) : jlon s c = jlon s' c := jeq.lonA hk h c 4 (by omega)
theorem jeq.go (hk : k < 4) (h : jeq (120 + 5 * k + 2) s s') {j c d : Nat} (hj : j < 8) (hc : c < 100) (hd : d < 100) : jeq (120 + 5 * k + 2) (jgo s n j c d) (jgo s' n j c d) := by
  have hx := jnx_lt hc hd
  have hr := jnr_lt (jnx c d)
  unfold jgo
  rw [h.sin hk, h (jnx c d) (by omega), h.lon hk]
  split
  · exact h.put (by rw [h _ (by omega)])
  · split
    · have h2 := (h.put (a := 140 + 5 * j + 1) (v := nI (jnx c d)) rfl).put (a := 140 + 5 * j + 3) (v := 2) rfl
      have h3 := h2.put (a := 120 + 5 * jnr (jnx c d) + 1) (congr (congrArg HAdd.hAdd (h2 (120 + 5 * jnr (jnx c d) + 1) (by omega))) (h2 (140 + 5 * j + 0) (by omega)))
      exact h3.put (by rw [h3 _ (by omega)])
    · exact (h.put rfl).put rfl
theorem jeq.goes (hk : k < 4) (h : jeq (120 + 5 * k + 2) s s') (hw : jwf s n) {j : Nat} (hj : j < 8) : jeq (120 + 5 * k + 2) (jgoes s n j) (jgoes s' n j) := by
  obtain ⟨-, ⟨c, hc, ec⟩, ⟨d, hd, ed⟩⟩ := hw.2.2.2 j hj
  unfold jgoes
  rw [← h (140 + 5 * j + 1) (by omega), ← h (140 + 5 * j + 2) (by omega), ec, ed, tn_nI (by omega), tn_nI (by omega)]
  exact h.go hk hj hc hd
theorem jeq.goL (hk : k < 4) : ∀ (L : List Nat) (s s' : Nat → Int32), (∀ j ∈ L, j < 8) → jwf s n → jeq (120 + 5 * k + 2) s s' → jeq (120 + 5 * k + 2) (L.foldl (fun s j => jgoes s n j) s) (L.foldl (fun s j => jgoes s n j) s')
  | [], _, _, _, _, h => h
  | x :: L, s, s', hl, hw, h => jeq.goL hk L _ _ (fun j hj => hl j (List.mem_cons_of_mem _ hj)) (hw.goes (hl x List.mem_cons_self)) (h.goes hk hw (hl x List.mem_cons_self))
theorem jeq.ord (hk : k < 4) (h : jeq (120 + 5 * k + 2) s s') : jord s n = jord s' n := by
  have e1 : jwn s = jwn s' := by
    funext j
    unfold jwn
    rw [h _ (by omega)]
  have e2 : jsea s = jsea s' := by
    funext j
    unfold jsea
    rw [h _ (by omega)]
  unfold jord
  rw [e1, e2]
theorem jeq.kp1 (hk : k < 4) (h : jeq (120 + 5 * k + 2) s s') {l : Nat} (hl : l < 4) : jeq (120 + 5 * k + 2) (jkp1 s l) (jkp1 s' l) := by
  have hp : jkP s l = jkP s' l := by
    unfold jkP
    rw [h (120 + 5 * l + 1) (by omega), h (120 + 5 * l + 0) (by omega), h 182 (by omega)]
  have hb : jeq (120 + 5 * k + 2) (jkB s l (jkP s l)) (jkB s' l (jkP s' l)) := by
    rw [hp]
    have b1 := h.put (a := 120 + 5 * l + 0) (v := s (120 + 5 * l + 0) + s 182 - jkP s' l) (v' := s' (120 + 5 * l + 0) + s' 182 - jkP s' l) (by rw [h (120 + 5 * l + 0) (by omega), h 182 (by omega)])
    have b2 := b1.put (a := 120 + 5 * l + 1) (congrArg (· - jkP s' l) (b1 (120 + 5 * l + 1) (by omega)))
    exact b2.put (a := 120 + 5 * l + 4) (congrArg (· + jkP s' l) (b2 (120 + 5 * l + 4) (by omega)))
  unfold jkp1
  exact hb.put (by rw [hb (100 + 5 * l + 4) (by omega)])
theorem jeq.kp (hk : k < 4) (h : jeq (120 + 5 * k + 2) s s') : ∀ l, l ≤ 4 → jeq (120 + 5 * k + 2) (jkp s l) (jkp s' l)
  | 0, _ => h
  | l + 1, hl => (jeq.kp hk h l (by omega)).kp1 hk (by omega)
theorem jeq.hour (hk : k < 4) (h : jeq (120 + 5 * k + 2) s s') (hw : jwf s n) : jeq (120 + 5 * k + 2) (jhour s n) (jhour s' n) := by
  have h1 : jeq (120 + 5 * k + 2) (jgoA s n) (jgoA s' n) := by
    unfold jgoA
    rw [← h.ord hk]
    exact jeq.goL hk _ _ _ (fun j hj => by have := (jord_mem.mp hj).1; have := hw.1; omega) hw h
  have h2 := h1.kp hk 4 (by omega)
  unfold jhour
  exact h2.put (by rw [h2 181 (by omega)])
theorem jeq.hrs (hk : k < 4) (h : jeq (120 + 5 * k + 2) s s') (hw : jwf s n) : ∀ t, jeq (120 + 5 * k + 2) (jhrs s n t) (jhrs s' n t)
  | 0 => h
  | t + 1 => (jeq.hrs hk h hw t).hour hk (hw.hrs t)
theorem jgoL_keep (j : Nat) : ∀ (L : List Nat) (s : Nat → Int32), (∀ i ∈ L, i ≠ j) → (L.foldl (fun s i => jgoes s n i) s) (140 + 5 * j + 3) = s (140 + 5 * j + 3)
  | [], _, _ => rfl
  | x :: L, s, hl => by
    show (L.foldl (fun s i => jgoes s n i) (jgoes s n x)) (140 + 5 * j + 3) = _
    have hx := hl x List.mem_cons_self
    rw [jgoL_keep j L _ (fun i hi => hl i (List.mem_cons_of_mem _ hi))]
    exact jgo_o (by omega) (by omega) (by omega) (fun l hl => by omega)
theorem jhour_keep {j : Nat} (hj : j < 8) (h : ¬ s (140 + 5 * j + 3) = 0) : jhour s n (140 + 5 * j + 3) = s (140 + 5 * j + 3) := by
  rw [jhour_sh, if_neg (by omega)]
  refine jgoL_keep j _ s (fun i hi e => ?_)
  subst e
  have := (jord_mem.mp hi).2
  unfold jsea at this
  exact h (by simpa using this)
theorem jhrs_keep {j : Nat} (hj : j < 8) (h : ¬ s (140 + 5 * j + 3) = 0) : ∀ t, jhrs s n t (140 + 5 * j + 3) = s (140 + 5 * j + 3)
  | 0 => rfl
  | t + 1 => (jhour_keep hj (by rw [jhrs_keep hj h t]; exact h)).trans (jhrs_keep hj h t)
theorem jhrs_w0 {j : Nat} (hj : j < 8) : ∀ t, jhrs s n t (140 + 5 * j + 0) = s (140 + 5 * j + 0)
  | 0 => rfl
  | t + 1 => by
    show jhour (jhrs s n t) n (140 + 5 * j + 0) = _
    rw [jhour_sh, if_neg (by omega), ← jgf_A, jgf_o (fun i => by omega) (fun l hl => by omega)]
    exact jhrs_w0 hj t
theorem jwr_eq {j : Nat} (hj : j < 8) (t : Nat) : jwr s n t j = (decide (s (140 + 5 * j + 3) = 0) && decide (jhrs s n t (140 + 5 * j + 3) = 2)) := by
  unfold jwr jst
  by_cases h : s (140 + 5 * j + 3) = 0
  · rw [h]
    simp
  · rw [jhrs_keep hj h t]
    simp [h]
end JEQ
theorem jsm_cg {f g : Nat → Int32} : ∀ n, (∀ k, k < n → f k = g k) → jsm f n = jsm g n
  | 0, _ => rfl
  | n + 1, h => by
    show jsm f n + f n = jsm g n + g n
    rw [jsm_cg n (fun k hk => h k (by omega)), h n (by omega)]
/-- the worth that is wrecked in the trial -/
def cw10 (s s1 : Nat → Int32) (n : Nat) : Int32 := jworth s (fun i => decide (s (140 + 5 * i + 3) = 0) && decide (jhrs s1 n 10 (140 + 5 * i + 3) = 2)) n
theorem cw10_eq {s s1 s' : Nat → Int32} {n : Nat} (hn : n ≤ 8) (h0 : ∀ i, i < 8 → s' (140 + 5 * i + 0) = s (140 + 5 * i + 0)) (h3 : ∀ i, i < 8 → s' (140 + 5 * i + 3) = s (140 + 5 * i + 3)) (hh : ∀ i, i < 8 → jhrs s' n 10 (140 + 5 * i + 3) = jhrs s1 n 10 (140 + 5 * i + 3)) : cw10 s s1 n = jw10 s' n := by
  unfold cw10 jw10 jworth
  refine jsm_cg n (fun i hi => ?_)
  rw [jwr_eq (by omega), jhrs_w0 (by omega), h0 i (by omega), h3 i (by omega), hh i (by omega)]
theorem cw10_s {s : Nat → Int32} {n : Nat} (hn : n ≤ 8) : cw10 s s n = jw10 s n := cw10_eq hn (fun _ _ => rfl) (fun _ _ => rfl) (fun _ _ => rfl)
theorem cw10_ly {s : Nat → Int32} {n k l : Nat} (hw : jwf s n) (hk : k < 4) (hl : l < 4) : cw10 s (upd s (100 + 5 * l + 4) (cmin (s (100 + 5 * l + 4) + 3) 9)) n = jw10 (jly s k l) n := by
  have e9 : cmin (s (100 + 5 * l + 4) + 3) 9 = if s (100 + 5 * l + 4) + 3 ≤ 9 then s (100 + 5 * l + 4) + 3 else 9 := by
    unfold cmin
    by_cases h : s (100 + 5 * l + 4) + 3 ≤ 9
    · rw [if_pos h, if_neg (Int32.not_lt.mpr h)]
    · rw [if_neg h, if_pos (Int32.not_le.mp h)]
  have hj : jeq (120 + 5 * k + 2) (upd s (100 + 5 * l + 4) (cmin (s (100 + 5 * l + 4) + 3) 9)) (jly s k l) := by
    intro i hi
    unfold jly
    rw [e9, upd_n hi]
  have hw2 : jwf (upd s (100 + 5 * l + 4) (cmin (s (100 + 5 * l + 4) + 3) 9)) n := hw.set (by omega) (by omega) (fun i hi => by omega)
  refine cw10_eq hw.1 (fun i hi => ?_) (fun i hi => ?_) (fun i hi => ((hj.hrs hk hw2 10) _ (by omega)).symm)
  · rw [← hj _ (by omega), upd_n (by omega)]
  · rw [← hj _ (by omega), upd_n (by omega)]
theorem cOK.fog {s : Nat → Int32} {n l : Nat} {go : Nat → Int32} (h : cOK s n go) (hl : l < 4) : cOK (upd s (100 + 5 * l + 4) (cmin (s (100 + 5 * l + 4) + 3) 9)) n go := by
  have h2 := h.ly (k := 0) (by decide) hl
  have e9 : cmin (s (100 + 5 * l + 4) + 3) 9 = if s (100 + 5 * l + 4) + 3 ≤ 9 then s (100 + 5 * l + 4) + 3 else 9 := by
    unfold cmin
    by_cases h : s (100 + 5 * l + 4) + 3 ≤ 9
    · rw [if_pos h, if_neg (Int32.not_lt.mpr h)]
    · rw [if_neg h, if_pos (Int32.not_le.mp h)]
  refine ⟨h.1.set (by omega) (by omega) (fun i hi => by omega), ?_, cgo_congr (fun i hi => upd_n (by omega)) h.2.2⟩
  refine jlf_o (fun m h1 h3 => ?_) h2.2.1
  unfold jly
  rw [e9]
  exact (upd_n (by omega)).symm
theorem cgo.two {s s2 go g2 : Nat → Int32} {n i : Nat} (h : cgo s n go) (h2 : cgo s2 n g2) (hi : i < 8) : (decide (go (8 + i) = 0) && decide (g2 (8 + i) = 2)) = (decide (i < n) && (decide (s (140 + 5 * i + 3) = 0) && decide (s2 (140 + 5 * i + 3) = 2))) := by
  rw [h.st hi (by decide), h2.st hi (by decide)]
  unfold jst
  by_cases z : i < n
  · simp [z]
  · simp [z]
theorem cw10_g {s s1 go g2 : Nat → Int32} {n : Nat} (hn : n ≤ 8) (h : cgo s n go) (h2 : cgo (jhrs s1 n 10) n g2) : jworth s (fun i => decide (go (8 + i) = 0) && decide (g2 (8 + i) = 2)) 8 = cw10 s s1 n := by
  have e := jworth_lim (s := s) (n := n) (p := fun i => decide (s (140 + 5 * i + 3) = 0) && decide (jhrs s1 n 10 (140 + 5 * i + 3) = 2)) (q := fun i => decide (go (8 + i) = 0) && decide (g2 (8 + i) = 2)) (8 - n) (fun k hk => h.two h2 (by omega))
  rw [show n + (8 - n) = 8 by omega] at e
  exact e
theorem cifp_g {s s2 go g2 : Nat → Int32} {n : Nat} (hn : n ≤ 8) (h : cgo s n go) (h2 : cgo s2 n g2) : jset (fun i => decide (go (8 + i) = 0) && decide (g2 (8 + i) = 2)) 8 = jset (fun i => decide (s (140 + 5 * i + 3) = 0) && decide (s2 (140 + 5 * i + 3) = 2)) n := by
  have e := jset_lim (n := n) (p := fun i => decide (s (140 + 5 * i + 3) = 0) && decide (s2 (140 + 5 * i + 3) = 2)) (q := fun i => decide (go (8 + i) = 0) && decide (g2 (8 + i) = 2)) (8 - n) (fun k hk => h.two h2 (by omega))
  rw [show n + (8 - n) = 8 by omega] at e
  exact e
section XT
variable {G : bkG} {x : Nat} {S O : Nat → Nat → Int32} {od : Nat → Nat} {sz kp : Int32} {t : Nat → Int32} {ln pc pl : Int32} {pf : Nat → Nat → Int32} {M : bkM} {s1 g1 s2 g2 : Nat → Int32}
theorem xT_0sh {i : Nat} (hi : i < 8) : xW G x (pfu S 1 s1) (pfu O 1 g1) od sz kp t ln pc pl pf M (x + 13 + 13 + i) = some (.inr (5, shF (S 0) (O 0) i)) := xW_0sh hi
theorem xT_0o : xW G x (pfu S 1 s1) (pfu O 1 g1) od sz kp t ln pc pl pf M (x + 13) = some (.inr (6, sO (x + 1) (x + 13) (S 0))) := xW_0o
theorem xT_1sh {i : Nat} (hi : i < 8) : xW G x (pfu S 1 s1) (pfu O 1 g1) od sz kp t ln pc pl pf M (x + 34 + 13 + i) = some (.inr (5, shF s1 g1 i)) := xW_1sh hi
theorem xT_1lt {i : Nat} (hi : i < 4) : xW G x (pfu S 1 s1) (pfu O 1 g1) od sz kp t ln pc pl pf M (x + 34 + 5 + 2 * i) = some (.inr (3, ltF (x + 1) s1 i)) := xW_1lt hi
theorem xT_b0 : xW G x (pfu S 1 s1) (pfu O 1 g1) od sz kp t ln pc pl pf M = sW G (x + 1) (x + 13) (S 0) (O 0) (xW G x (pfu S 1 s1) (pfu O 1 g1) od sz kp t ln pc pl pf M) := xW_b0
theorem xT_1 {a : Nat} {ev : va_E} (h : ∀ M2, bku (sW G (x + 1) (x + 34) s1 g1 M2) a ev = sW G (x + 1) (x + 34) s2 g2 M2) : bku (xW G x (pfu S 1 s1) (pfu O 1 g1) od sz kp t ln pc pl pf M) a ev = xW G x (pfu S 1 s2) (pfu O 1 g2) od sz kp t ln pc pl pf M :=
  (congrArg (fun z => bku z a ev) xQ_b1).trans ((h _).trans (xW_s1.trans (by rw [pfu_pfu, pfu_pfu])))
theorem xT_s1 : sW G (x + 1) (x + 34) s2 g2 (xW G x (pfu S 1 s1) (pfu O 1 g1) od sz kp t ln pc pl pf M) = xW G x (pfu S 1 s2) (pfu O 1 g2) od sz kp t ln pc pl pf M := xW_s1.trans (by rw [pfu_pfu, pfu_pfu])
theorem xT_self : xW G x S O od sz kp t ln pc pl pf M = xW G x (pfu S 1 (S 1)) (pfu O 1 (O 1)) od sz kp t ln pc pl pf M := by rw [pfu_self, pfu_self]
theorem xT_cp : xW G x (pfu (pfu S 1 s1) 1 (pfu S 1 s1 0)) (pfu (pfu O 1 g1) 1 (jgm (pfu O 1 g1 1) (pfu O 1 g1 0))) od sz kp t ln pc pl pf M = xW G x (pfu S 1 (S 0)) (pfu O 1 (jgm g1 (O 0))) od sz kp t ln pc pl pf M := by rw [pfu_pfu, pfu_pfu, pfu_at, pfu_ne (by decide), pfu_ne (by decide)]
end XT
theorem jch_at {t : Nat → Int32} {len : Nat} : ∀ (L : List JX), jch t len L → ∀ x ∈ L, (jpx t len x).2 = false
  | [], _, _, h => absurd h (by simp)
  | y :: L, h, x, hx => by
    rcases List.mem_cons.mp hx with e | e
    · rw [e]; exact h.1
    · exact jch_at L h.2.2.2 x e
theorem jdo_z {s : Nat → Int32} {l a b c : Int32} : (jdo s l a b c).1 = 0 ∨ (jdo s l a b c).1 < 0 := by
  unfold jdo
  split
  · exact Or.inr ‹_›
  · exact Or.inl rfl
theorem jrd_cnt {t : Nat → Int32} {len : Nat} : ∀ (d : Nat) (x : JX), x.1 ≤ len → len - x.1 < d → (jrd t len d x).1.2 = false → 3 * (jrd t len d x).2.length ≤ len - x.1 + 1
  | 0, _, _, h, _ => absurd h (Nat.not_lt_zero _)
  | d + 1, x, hx, hd, hz => by
    by_cases h1 : (jpx t len x).2 = true ∨ ¬ (jpx t len x).1 < len
    · rw [jrd_s1 h1] at hz ⊢
      have h2 := (jpx_ok hz).2.1
      have h3 := jpx_le (t := t) hx
      show 3 * 1 ≤ _
      omega
    · have hp : (jpx t len x).2 = false := by
        cases e : (jpx t len x).2
        · rfl
        · exact absurd (Or.inl e) h1
      have hl : (jpx t len x).1 < len := by
        rcases Nat.lt_or_ge (jpx t len x).1 len with q | q
        · exact q
        · exact absurd (Or.inr (Nat.not_lt.mpr q)) h1
      have h2 := (jpx_ok hp).2.1
      cases e : (jsg t len 59 (jpx t len x)).2
      · have e2 := (jsg_ok e).2.1
        have e3 : (jsg t len 59 (jpx t len x)).1 = (jpx t len x).1 + 1 := by rw [e2]
        rw [jrd_s3 hp hl e] at hz ⊢
        have ih := jrd_cnt d (jsg t len 59 (jpx t len x)) (by omega) (by omega) hz
        show 3 * ((jrd t len d (jsg t len 59 (jpx t len x))).2.length + 1) ≤ _
        omega
      · rw [jrd_s2 hp hl e] at hz
        exact absurd (e.symm.trans hz) (by decide)
theorem jRd_20 {t : Nat → Int32} {len : Nat} (h60 : len ≤ 60) (hz : (jRd t len).1.2 = false) : (jRd t len).2.length ≤ 20 := by
  have h := jrd_cnt (t := t) (len := len) 61 (0, false) (Nat.zero_le _) (by show len - 0 < 61; omega) hz
  show (jrd t len 61 (0, false)).2.length ≤ 20
  have h0 : ((0, false) : JX).1 = 0 := rfl
  omega
