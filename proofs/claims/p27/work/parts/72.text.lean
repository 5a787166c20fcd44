/-! texts that are alike below their lengths; the hours that a text holds -/
section TC
variable {t t' : Nat → Int32} {len : Nat}
theorem tc_sg (e : jnxt t len = jnxt t' len) : jsg t len = jsg t' len := by funext c x; unfold jsg; rw [e]
theorem tc_dg (e : jnxt t len = jnxt t' len) : jdg t len = jdg t' len := by funext a b x; unfold jdg; rw [e]
theorem tc_dv (e : jnxt t len = jnxt t' len) : jdv t len = jdv t' len := by funext x; unfold jdv; rw [e]
theorem tc_cs (e : jnxt t len = jnxt t' len) : jcs t len = jcs t' len := by funext x; unfold jcs; rw [tc_dg e]
theorem tc_cv (e : jnxt t len = jnxt t' len) : jcv t len = jcv t' len := by funext x; unfold jcv; rw [tc_dg e, tc_dv e]
theorem tc_n2 (e : jnxt t len = jnxt t' len) : jn2 t len = jn2 t' len := by funext m x; unfold jn2; rw [tc_dg e, tc_dv e, e]
theorem tc_ns (e : jnxt t len = jnxt t' len) : jns t len = jns t' len := by funext m x; unfold jns; rw [tc_dg e, tc_n2 e]
theorem tc_nv (e : jnxt t len = jnxt t' len) : jnv t len = jnv t' len := by funext m x; unfold jnv; rw [tc_n2 e, tc_dv e, tc_dg e, e]
theorem tc_pl (e : jnxt t len = jnxt t' len) : jpl t len = jpl t' len := by funext x; unfold jpl; rw [e]
theorem tc_p1 (e : jnxt t len = jnxt t' len) : jp1 t len = jp1 t' len := by funext x; unfold jp1; rw [tc_pl e]
theorem tc_qx (e : jnxt t len = jnxt t' len) : jqx t len = jqx t' len := by funext l x; unfold jqx; rw [tc_cs e, tc_sg e, tc_ns e, tc_dg e]
theorem tc_qa (e : jnxt t len = jnxt t' len) : jqa t len = jqa t' len := by funext l x; unfold jqa; rw [tc_cv e, tc_nv e, tc_dv e]
theorem tc_qb (e : jnxt t len = jnxt t' len) : jqb t len = jqb t' len := by funext l x b; unfold jqb; rw [tc_cv e, tc_sg e, tc_ns e, tc_dv e, tc_dg e]
theorem tc_qc (e : jnxt t len = jnxt t' len) : jqc t len = jqc t' len := by funext l x c; unfold jqc; rw [tc_cv e, tc_sg e, tc_cs e, tc_ns e]
theorem tc_px (e : jnxt t len = jnxt t' len) : jpx t len = jpx t' len := by funext x; unfold jpx; rw [tc_qx e, tc_pl e, tc_p1 e]
theorem tc_pa (e : jnxt t len = jnxt t' len) : jpa t len = jpa t' len := by funext x; unfold jpa; rw [tc_qa e, tc_pl e, tc_p1 e]
theorem tc_pb (e : jnxt t len = jnxt t' len) : jpb t len = jpb t' len := by funext x b; unfold jpb; rw [tc_qb e, tc_pl e, tc_p1 e]
theorem tc_pd (e : jnxt t len = jnxt t' len) : jpd t len = jpd t' len := by funext x c; unfold jpd; rw [tc_qc e, tc_pl e, tc_p1 e]
theorem tc_rd (e : jnxt t len = jnxt t' len) : ∀ (d : Nat) (x : JX), jrd t len d x = jrd t' len d x
  | 0, _ => rfl
  | d + 1, x => by
    unfold jrd
    rw [tc_px e, tc_sg e]
    split
    · rfl
    · split
      · rfl
      · rw [tc_rd e d]
theorem tc_Rd (e : jnxt t len = jnxt t' len) : jRd t len = jRd t' len := tc_rd e 61 (0, false)
theorem tc_dl (e : jnxt t len = jnxt t' len) : ∀ (L : List JX) (s : Nat → Int32), jdl t len L s = jdl t' len L s
  | [], _ => rfl
  | x :: L, s => by
    unfold jdl
    rw [tc_pl e, tc_pa e, tc_pb e, tc_pd e, tc_dl e L]
theorem tc_all (e : jnxt t len = jnxt t' len) (s : Nat → Int32) : jdoAll t len s = jdoAll t' len s := by
  unfold jdoAll
  rw [tc_Rd e, tc_dl e]
theorem tc_fault (e : jnxt t len = jnxt t' len) : jfault t len = jfault t' len := by
  unfold jfault
  rw [tc_Rd e]
end TC
theorem tc_ag {t t' : Nat → Int32} {len : Nat} (h : ∀ p, p < len → t p = t' p) : jnxt t len = jnxt t' len := by
  funext p
  unfold jnxt
  by_cases q : p < len
  · rw [if_pos q, if_pos q, h p q]
  · rw [if_neg q, if_neg q]
theorem jct_mono {p : Nat → Bool} {a : Nat} : ∀ {b : Nat}, a ≤ b → jct p a ≤ jct p b
  | 0, h => by rw [Nat.le_zero.mp h]; exact Nat.le_refl _
  | b + 1, h => by
    rcases Nat.eq_or_lt_of_le h with z | z
    · rw [z]; exact Nat.le_refl _
    · have := jct_mono (p := p) (a := a) (b := b) (by omega)
      show jct p a ≤ jct p b + _
      omega
def jh4 (t : Nat → Int32) : Nat → Bool := fun p => decide (t p = 104)
def jh5 (t : Nat → Int32) (len : Nat) : JX → Bool := fun x => decide (jpl t len x = 104)
theorem jh_one {t : Nat → Int32} {len : Nat} {x : JX} (h : (jpx t len x).2 = false) : (if jh5 t len x = true then 1 else 0) + jct (jh4 t) x.1 ≤ jct (jh4 t) (x.1 + 1) := by
  have h1 := jpx_ok h
  show _ ≤ jct (jh4 t) x.1 + (if jh4 t x.1 = true then 1 else 0)
  by_cases q : jh5 t len x = true
  · rw [if_pos q]
    have q2 : jnxt t len x.1 = 104 := by
      have : jpl t len x = 104 := by simpa [jh5] using q
      rw [← h1.2.2.2.1]; exact this
    have q3 : t x.1 = 104 := by
      unfold jnxt at q2
      split at q2
      · exact q2
      · exact absurd q2 (by decide)
    rw [if_pos (show jh4 t x.1 = true by simp [jh4, q3])]
    omega
  · rw [if_neg q]
    omega
theorem jrd_h {t : Nat → Int32} {len : Nat} : ∀ (d : Nat) (x : JX), x.1 ≤ len → len - x.1 < d → (jrd t len d x).1.2 = false → (jrd t len d x).2.countP (jh5 t len) + jct (jh4 t) x.1 ≤ jct (jh4 t) len
  | 0, _, _, h, _ => absurd h (Nat.not_lt_zero _)
  | d + 1, x, hx, hd, hz => by
    by_cases h1 : (jpx t len x).2 = true ∨ ¬ (jpx t len x).1 < len
    · rw [jrd_s1 h1] at hz ⊢
      have h2 := (jpx_ok hz).2.1
      have h3 := jpx_le (t := t) hx
      have h4 := jh_one hz
      have h5 : jct (jh4 t) (x.1 + 1) ≤ jct (jh4 t) len := jct_mono (by omega)
      show List.countP (jh5 t len) [x] + _ ≤ _
      rw [List.countP_cons, List.countP_nil]
      omega
    · have hp : (jpx t len x).2 = false := by
        cases e : (jpx t len x).2
        · rfl
        · exact absurd (Or.inl e) h1
      have hl : (jpx t len x).1 < len := by
        rcases Nat.lt_or_ge (jpx t len x).1 len with q | q
        · exact q
        · exact absurd (Or.inr (Nat.not_lt.mpr q)) h1
      have h2 := (jpx_ok hp).2.1
      cases e : (jsg t len 59 (jpx t len x)).2
      · have e2 := (jsg_ok e).2.1
        have e3 : (jsg t len 59 (jpx t len x)).1 = (jpx t len x).1 + 1 := by rw [e2]
        rw [jrd_s3 hp hl e] at hz ⊢
        have ih := jrd_h d (jsg t len 59 (jpx t len x)) (by omega) (by omega) hz
        have h4 := jh_one hp
        have h5 : jct (jh4 t) (x.1 + 1) ≤ jct (jh4 t) (jsg t len 59 (jpx t len x)).1 := jct_mono (by omega)
        show List.countP (jh5 t len) (x :: (jrd t len d (jsg t len 59 (jpx t len x))).2) + _ ≤ _
        rw [List.countP_cons]
        omega
      · rw [jrd_s2 hp hl e] at hz
        exact absurd (e.symm.trans hz) (by decide)
/-! the parts of a text keep what holds -/
theorem jbr_ok2 {v : Int32} (h : 0 ≤ jbr v) : ∃ c, c < 100 ∧ v = nI c ∧ ∀ l, l < 4 → jhm l ≠ c := by
  obtain ⟨c, hc, rfl⟩ := jbr_in h
  refine ⟨c, by omega, rfl, fun l hl e => ?_⟩
  unfold jbr at h
  rw [if_pos (jin_99 (by omega)), if_pos (jbr_home.mpr ⟨l, hl, by rw [bkLC_n hl, e]⟩)] at h
  exact absurd h (by decide)
theorem jdo_I {s : Nat → Int32} {n h : Nat} {l a b c : Int32} (hw : jwf s n) (hI : jI s n h) (hh : h ≤ 90000) (hl : l = 114 ∨ l = 115 ∨ l = 104 ∨ (l = 100 ∧ ∃ k, k < 4 ∧ a = nI k)) (hz : (jdo s l a b c).1 = 0) : ∃ m h', jwf (jdo s l a b c).2 m ∧ jI (jdo s l a b c).2 m h' ∧ h' ≤ h + (if l = 104 then 20 else 0) := by
  have hn8 := hw.1
  have h0 : 0 ≤ jbar s l a b c := by
    apply Classical.byContradiction
    intro q
    rw [jdo_b q] at hz
    have : jbar s l a b c = 0 := hz
    rw [this] at q
    exact q (by decide)
  rw [jdo_n h0]
  show ∃ m h', jwf (jdo2 s l a b c) m ∧ jI (jdo2 s l a b c) m h' ∧ _
  rcases hl with e | e | e | ⟨e, k, hk, ea⟩
  · subst e
    rw [jba_r] at h0
    obtain ⟨v, hv, rfl, hne⟩ := jbr_ok2 h0
    rw [jd2_r, tn_nI (by omega)]
    exact ⟨n, h, hw.rock hv, hI.rock hn8 hv hne, Nat.le_add_right _ _⟩
  · subst e
    rw [jba_s, hw.tn] at h0
    rw [jd2_s, hw.tn]
    have g := jbs_wf hw h0
    have g2 := jbs_in h0
    obtain ⟨c1, hc1, rfl⟩ := jin_of (n := 99) rfl (by decide) g2.1
    obtain ⟨h1, hh1, rfl⟩ := jin_of (n := 99) rfl (by decide) g2.2.1
    obtain ⟨w1, hw0, hw1, rfl⟩ := jin_of1 (n := 99) rfl (by decide) g2.2.2.1
    exact ⟨n + 1, h, g.2, hI.ship hw h0 g.1 hw0 (by omega) (by omega) (by omega), Nat.le_add_right _ _⟩
  · subst e
    rw [jba_h] at h0
    obtain ⟨j, hj1, hj2, rfl⟩ := jbp_in h0
    rw [jd2_h, hw.tn, tn_nI (by omega)]
    refine ⟨n, h + j, hw.hrs j, hI.hrs hw j (by omega), ?_⟩
    rw [if_pos rfl]
    omega
  · subst e
    subst ea
    rw [jd2_d, tn_nI (by omega)]
    exact ⟨n, h, hw.set (by omega) (by omega) (fun i hi => by omega), hI.light hn8 (by omega) (by omega) (fun l hl e => by omega), Nat.le_add_right _ _⟩
theorem jdl_I {t : Nat → Int32} {len : Nat} : ∀ (L : List JX) (s : Nat → Int32) (n h : Nat), (∀ x ∈ L, (jpx t len x).2 = false) → jwf s n → jI s n h → h + 20 * L.countP (jh5 t len) ≤ 90000 → 0 ≤ (jdl t len L s).1 → ∃ m h', jwf (jdl t len L s).2 m ∧ jI (jdl t len L s).2 m h' ∧ h' ≤ h + 20 * L.countP (jh5 t len)
  | [], s, n, h, _, hw, hI, _, _ => ⟨n, h, hw, hI, Nat.le_add_right _ _⟩
  | x :: L, s, n, h, hL, hw, hI, hh, hz => by
    have hx := jpx_ok (hL x List.mem_cons_self)
    rw [List.countP_cons] at hh ⊢
    by_cases q : (jdo s (jpl t len x) (jpa t len x) (jpb t len x 0) (jpd t len x 0)).1 = 0
    · rw [jdl_s q] at hz ⊢
      obtain ⟨m, h', g1, g2, g3⟩ := jdo_I hw hI (by omega) hx.2.2.2.2 q
      have e : (if jpl t len x = 104 then 20 else 0) = 20 * (if jh5 t len x = true then 1 else 0) := by
        by_cases z : jpl t len x = 104
        · rw [if_pos z, if_pos (by unfold jh5; exact decide_eq_true z)]
        · rw [if_neg z, if_neg (by unfold jh5; rw [decide_eq_false z]; decide)]
      rw [e] at g3
      obtain ⟨m2, h2, k1, k2, k3⟩ := jdl_I L _ m h' (fun y hy => hL y (List.mem_cons_of_mem _ hy)) g1 g2 (by omega) hz
      exact ⟨m2, h2, k1, k2, by omega⟩
    · rw [jdl_e q] at hz
      rcases jdo_z (s := s) (l := jpl t len x) (a := jpa t len x) (b := jpb t len x 0) (c := jpd t len x 0) with z | z
      · exact absurd z q
      · exact absurd hz (Int32.not_le.mpr z)
theorem jdoAll_I {t : Nat → Int32} {len n h : Nat} {s s' : Nat → Int32} (h60 : len ≤ 60) (hw : jwf s n) (hI : jI s n h) (hh : h + 20 * jct (jh4 t) len ≤ 90000) (e : (jdoAll t len s).2 = some s') : ∃ m h', jwf s' m ∧ jI s' m h' ∧ h' ≤ h + 20 * jct (jh4 t) len := by
  unfold jdoAll at e
  split at e
  · cases e
  · rename_i hz
    have hz2 : (jRd t len).1.2 = false := by simpa using hz
    split at e
    · rename_i h0
      cases e
      have hc := jrd_h (t := t) (len := len) 61 (0, false) (Nat.zero_le _) (by show len - 0 < 61; omega) hz2
      have hc2 : (jRd t len).2.countP (jh5 t len) ≤ jct (jh4 t) len := by
        have : (jRd t len).2 = (jrd t len 61 (0, false)).2 := rfl
        rw [this]
        exact Nat.le_trans (Nat.le_add_right _ _) hc
      have hch : jch t len (jRd t len).2 := jrd_ch t len 61 (0, false) (Nat.zero_le _) (by show len - 0 < 61; omega) hz2
      obtain ⟨m, h', a1, a2, a3⟩ := jdl_I (jRd t len).2 s n h (fun x hx => jch_at _ hch x hx) hw hI (by omega) h0
      exact ⟨m, h', a1, a2, by omega⟩
    · cases e
/-! the text that the law types -/
def jty (x : (Nat → Int32) × Nat) (c : Nat) : (Nat → Int32) × Nat := (upd x.1 x.2 (nI c), x.2 + 1)
def jzc (z : Nat) : List Nat :=
  if z % 4 = 0 then [114, 48 + z / 8 % 10, 48 + z / 64 % 10]
  else if z % 4 = 1 then [115, 49 + z / 4 % 9, 58, 48 + z / 8 % 10, 48 + z / 64 % 10, 62, 48 + z / 16 % 10, 48 + z / 32 % 10]
  else if z % 4 = 2 then [100, 48 + z / 8 % 4, 48 + z / 64 % 8] else [104, 49 + z / 8 % 9]
def jtp (j z : Nat) : List Nat := (if j = 0 then [] else [59]) ++ jzc z
def jtx (y : Nat) : Nat → (Nat → Int32) × Nat → (Nat → Int32) × Nat
  | 0, x => x
  | j + 1, x => (jtp j (y / 4 / 64 ^ j)).foldl jty (jtx y j x)
theorem jty_len : ∀ (L : List Nat) (x : (Nat → Int32) × Nat), (L.foldl jty x).2 = x.2 + L.length
  | [], _ => rfl
  | c :: L, x => by
    show (L.foldl jty (jty x c)).2 = x.2 + (L.length + 1)
    rw [jty_len L]
    show x.2 + 1 + L.length = _
    omega
theorem jzc_len (z : Nat) : (jzc z).length ≤ 8 ∧ 2 ≤ (jzc z).length := by
  unfold jzc
  split
  · exact ⟨by show 3 ≤ 8; omega, by show 2 ≤ 3; omega⟩
  · split
    · exact ⟨by show 8 ≤ 8; omega, by show 2 ≤ 8; omega⟩
    · split
      · exact ⟨by show 3 ≤ 8; omega, by show 2 ≤ 3; omega⟩
      · exact ⟨by show 2 ≤ 8; omega, by show 2 ≤ 2; omega⟩
theorem jtp_len (j z : Nat) : (jtp j z).length ≤ 9 ∧ 2 ≤ (jtp j z).length := by
  have h := jzc_len z
  unfold jtp
  rw [List.length_append]
  split
  · simp only [List.length_nil]; omega
  · simp only [List.length_cons, List.length_nil]; omega
theorem jtx_len (y : Nat) (x : (Nat → Int32) × Nat) : ∀ j, (jtx y j x).2 ≤ x.2 + 9 * j ∧ x.2 + 2 * j ≤ (jtx y j x).2
  | 0 => ⟨Nat.le_refl _, Nat.le_refl _⟩
  | j + 1 => by
    have h := jtx_len y x j
    have h2 := jtp_len j (y / 4 / 64 ^ j)
    show ((jtp j (y / 4 / 64 ^ j)).foldl jty (jtx y j x)).2 ≤ _ ∧ _ ≤ ((jtp j (y / 4 / 64 ^ j)).foldl jty (jtx y j x)).2
    rw [jty_len]
    omega
def jag (x x' : (Nat → Int32) × Nat) : Prop := x.2 = x'.2 ∧ ∀ p, p < x.2 → x.1 p = x'.1 p
theorem jag.ty {x x' : (Nat → Int32) × Nat} (h : jag x x') (c : Nat) : jag (jty x c) (jty x' c) := by
  refine ⟨congrArg (· + 1) h.1, fun p hp => ?_⟩
  show upd x.1 x.2 (nI c) p = upd x'.1 x'.2 (nI c) p
  have hp2 : p < x.2 + 1 := hp
  rw [← h.1]
  by_cases e : p = x.2
  · subst e; rw [upd_s, upd_s]
  · rw [upd_n e, upd_n e]
    exact h.2 p (by omega)
theorem jag.fold : ∀ (L : List Nat) {x x' : (Nat → Int32) × Nat}, jag x x' → jag (L.foldl jty x) (L.foldl jty x')
  | [], _, _, h => h
  | c :: L, _, _, h => jag.fold L (h.ty c)
theorem jag.tx (y : Nat) {x x' : (Nat → Int32) × Nat} (h : jag x x') : ∀ j, jag (jtx y j x) (jtx y j x')
  | 0 => h
  | j + 1 => (jag.tx y h j).fold _
theorem jty_h (x : (Nat → Int32) × Nat) (c : Nat) (hc : c < 65536) : jct (jh4 (jty x c).1) (jty x c).2 = jct (jh4 x.1) x.2 + (if c = 104 then 1 else 0) := by
  show jct (jh4 (upd x.1 x.2 (nI c))) x.2 + (if jh4 (upd x.1 x.2 (nI c)) x.2 = true then 1 else 0) = _
  have e1 : jct (jh4 (upd x.1 x.2 (nI c))) x.2 = jct (jh4 x.1) x.2 := jct_cong fun p hp => by unfold jh4; rw [upd_n (by omega)]
  rw [e1]
  unfold jh4
  rw [upd_s]
  by_cases e : c = 104
  · subst e; rfl
  · rw [if_neg e, if_neg (fun q => e ?_)]
    have : nI c = nI 104 := of_decide_eq_true q
    exact (nI_eq (by omega) (by omega)).mp this
theorem jty_hs : ∀ (L : List Nat) (x : (Nat → Int32) × Nat), (∀ c ∈ L, c < 65536) → jct (jh4 (L.foldl jty x).1) (L.foldl jty x).2 = jct (jh4 x.1) x.2 + L.countP (fun c => decide (c = 104))
  | [], _, _ => rfl
  | c :: L, x, h => by
    show jct (jh4 (L.foldl jty (jty x c)).1) (L.foldl jty (jty x c)).2 = _
    rw [jty_hs L _ (fun d hd => h d (List.mem_cons_of_mem _ hd)), jty_h x c (h c List.mem_cons_self), List.countP_cons]
    by_cases e : c = 104
    · rw [if_pos e, if_pos (decide_eq_true e)]; omega
    · rw [if_neg e, if_neg (by rw [decide_eq_false e]; decide)]
      omega
theorem jtp_h (j z : Nat) : (∀ c ∈ jtp j z, c < 128) ∧ (jtp j z).countP (fun c => decide (c = 104)) ≤ 1 := by
  have h : (∀ c ∈ jzc z, c < 128) ∧ (jzc z).countP (fun c => decide (c = 104)) ≤ 1 := by
    have d0 : ∀ a, 48 + a % 10 < 128 ∧ ¬ 48 + a % 10 = 104 := fun a => by omega
    have d1 : ∀ a, 49 + a % 9 < 128 ∧ ¬ 49 + a % 9 = 104 := fun a => by omega
    have d2 : ∀ a, 48 + a % 4 < 128 ∧ ¬ 48 + a % 4 = 104 := fun a => by omega
    have d3 : ∀ a, 48 + a % 8 < 128 ∧ ¬ 48 + a % 8 = 104 := fun a => by omega
    unfold jzc
    split
    · refine ⟨fun c hc => ?_, ?_⟩
      · simp only [List.mem_cons, List.not_mem_nil, or_false] at hc
        rcases hc with rfl | rfl | rfl
        · omega
        · exact (d0 _).1
        · exact (d0 _).1
      · simp [List.countP_cons, (d0 _).2]
    · split
      · refine ⟨fun c hc => ?_, ?_⟩
        · simp only [List.mem_cons, List.not_mem_nil, or_false] at hc
          rcases hc with rfl | rfl | rfl | rfl | rfl | rfl | rfl | rfl
          · omega
          · exact (d1 _).1
          · omega
          · exact (d0 _).1
          · exact (d0 _).1
          · omega
          · exact (d0 _).1
          · exact (d0 _).1
        · simp [List.countP_cons, (d0 _).2, (d1 _).2]
      · split
        · refine ⟨fun c hc => ?_, ?_⟩
          · simp only [List.mem_cons, List.not_mem_nil, or_false] at hc
            rcases hc with rfl | rfl | rfl
            · omega
            · exact (d2 _).1
            · exact (d3 _).1
          · simp [List.countP_cons, (d2 _).2, (d3 _).2]
        · refine ⟨fun c hc => ?_, ?_⟩
          · simp only [List.mem_cons, List.not_mem_nil, or_false] at hc
            rcases hc with rfl | rfl
            · omega
            · exact (d1 _).1
          · simp [List.countP_cons, (d1 _).2]
  unfold jtp
  split
  · exact h
  · refine ⟨fun c hc => ?_, ?_⟩
    · rcases List.mem_append.mp hc with q | q
      · simp only [List.mem_cons, List.not_mem_nil, or_false] at q
        omega
      · exact h.1 c q
    · rw [List.countP_append]
      have : List.countP (fun c => decide (c = 104)) [59] = 0 := rfl
      omega
theorem jtx_h (y : Nat) (x : (Nat → Int32) × Nat) : ∀ j, jct (jh4 (jtx y j x).1) (jtx y j x).2 ≤ jct (jh4 x.1) x.2 + j
  | 0 => Nat.le_refl _
  | j + 1 => by
    have h := jtp_h j (y / 4 / 64 ^ j)
    have ih := jtx_h y x j
    show jct (jh4 ((jtp j (y / 4 / 64 ^ j)).foldl jty (jtx y j x)).1) ((jtp j (y / 4 / 64 ^ j)).foldl jty (jtx y j x)).2 ≤ _
    rw [jty_hs _ _ (fun c hc => Nat.lt_trans (h.1 c hc) (by omega))]
    omega
