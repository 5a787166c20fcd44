theorem jpc_jset (p : Nat → Bool) : ∀ n, jpc n (jset p n) = jct p n := by
  have step : ∀ n (p : Nat → Bool), jset p (n + 1) % 2 = (if p 0 then 1 else 0) ∧ jset p (n + 1) / 2 = jset (fun k => p (k + 1)) n := by
    intro n
    induction n with
    | zero => intro p; unfold jset jset; split <;> simp
    | succ n ih =>
      intro p
      obtain ⟨h1, h2⟩ := ih p
      have e : jset p (n + 1 + 1) = jset p (n + 1) + (if p (n + 1) then 2 ^ (n + 1) else 0) := rfl
      have e2 : jset (fun k => p (k + 1)) (n + 1) = jset (fun k => p (k + 1)) n + (if p (n + 1) then 2 ^ n else 0) := rfl
      have e3 : 2 ^ (n + 1) = 2 * 2 ^ n := by rw [Nat.pow_succ, Nat.mul_comm]
      rw [e, e2, ← h1, ← h2]
      split <;> omega
  have sh : ∀ n (p : Nat → Bool), jct p (n + 1) = (if p 0 then 1 else 0) + jct (fun k => p (k + 1)) n := by
    intro n
    induction n with
    | zero => intro p; exact (Nat.zero_add _).trans (Nat.add_zero _).symm
    | succ n ih =>
      intro p
      show jct p (n + 1) + (if p (n + 1) then 1 else 0) = _ + (jct (fun k => p (k + 1)) n + (if p (n + 1) then 1 else 0))
      rw [ih p, Nat.add_assoc]
  intro n
  induction n generalizing p with
  | zero => rfl
  | succ n ih =>
    show jset p (n + 1) % 2 + jpc n (jset p (n + 1) / 2) = _
    rw [(step n p).1, (step n p).2, ih, sh]
theorem jpc_more : ∀ (n m x : Nat), x < 2 ^ n → jpc (n + m) x = jpc n x
  | 0, m, x, h => by
    have : x = 0 := by simp at h; exact h
    subst this
    rw [jpc_0, jpc_0]
  | n + 1, m, x, h => by
    rw [show n + 1 + m = (n + m) + 1 by omega]
    show x % 2 + jpc (n + m) (x / 2) = x % 2 + jpc n (x / 2)
    rw [jpc_more n m (x / 2) (by rw [Nat.pow_succ] at h; omega)]
theorem jpc8_jset (p : Nat → Bool) {n : Nat} (h : n ≤ 8) : jpc 8 (jset p n) = jct p n := by
  have e := jpc_more n (8 - n) (jset p n) (jset_lt p n)
  rw [show n + (8 - n) = 8 by omega] at e
  rw [e, jpc_jset]
theorem jct_add (p : Nat → Bool) (a : Nat) : ∀ b, jct p (a + b) = jct p a + jct (fun k => p (a + k)) b
  | 0 => rfl
  | b + 1 => by
    show jct p (a + b) + (if p (a + b) then 1 else 0) = jct p a + (jct (fun k => p (a + k)) b + (if p (a + b) then 1 else 0))
    rw [jct_add p a b, Nat.add_assoc]
theorem jsm_rocks {s : Nat → Int32} : ∀ n, (∀ c, c < n → s c = 0 ∨ s c = 1) → jsm s n = nI (jct (fun c => decide (s c = 1)) n)
  | 0, _ => rfl
  | n + 1, h => by
    show jsm s n + s n = nI (jct _ n + (if decide (s n = 1) then 1 else 0))
    rw [jsm_rocks n (fun c hc => h c (by omega)), ← nI_add]
    rcases h n (by omega) with e | e
    · rw [e]; rfl
    · rw [e]; rfl
theorem jworth_t {s : Nat → Int32} {p : Nat → Bool} {j : Nat} (h : p j = true) : jworth s p j + s (140 + 5 * j + 0) = jworth s p (j + 1) := by
  show _ = jworth s p j + (if p j = true then s (140 + 5 * j + 0) else 0)
  rw [if_pos h]
theorem jworth_f {s : Nat → Int32} {p : Nat → Bool} {j : Nat} (h : p j = false) : jworth s p j = jworth s p (j + 1) := by
  show _ = jworth s p j + (if p j = true then s (140 + 5 * j + 0) else 0)
  rw [if_neg (by rw [h]; decide), Int32.add_zero]
/-- a light's numbers -/
def jlf (s : Nat → Int32) : Prop := ∀ l, l < 4 → (∃ v, v ≤ 7 ∧ s (100 + 5 * l + 0) = nI v) ∧ (∃ v, v ≤ 3 ∧ s (100 + 5 * l + 1) = nI v) ∧ (∃ v, v ≤ 9 ∧ s (100 + 5 * l + 2) = nI v) ∧ (∃ v, v ≤ 9 ∧ s (100 + 5 * l + 4) = nI v)
theorem clit_h {s : Nat → Int32} {l c h : Nat} {hr : Int32} (hf : jlf s) (hl : l < 4) (hc : c < 100) (hh : h < 1000) : clit s l c hr (nI h) = jlit s l c hr (jmx (s (100 + 5 * l + 4) - nI h)) := by
  obtain ⟨-, -, -, g, hg, eg⟩ := hf l hl
  exact clit_eq hl hc eg (by omega) hh
theorem clit_0 {s : Nat → Int32} {l c : Nat} {hr : Int32} (hf : jlf s) (hl : l < 4) (hc : c < 100) : clit s l c hr 0 = jlit s l c hr (s (100 + 5 * l + 4)) := by
  obtain ⟨-, -, -, g, hg, eg⟩ := hf l hl
  have e := clit_h (h := 0) (hr := hr) hf hl hc (by omega)
  rw [show nI 0 = 0 from rfl, Int32.sub_zero] at e
  rw [e]
  unfold jmx
  rw [eg, if_pos (nI_pos' (by omega))]
theorem jlon_set (s : Nat → Int32) (c : Nat) : ∀ n, n ≤ 8 → jlonA s c n = nI (jset (fun l => jlb s l c) n)
  | 0, _ => rfl
  | n + 1, h => by
    show jlonA s c n ||| (if jlb s n c then (1 : Int32) <<< (nI n &&& 31) else 0) = nI (jset (fun l => jlb s l c) n + (if jlb s n c then 2 ^ n else 0))
    rw [jlon_set s c n (by omega)]
    by_cases e : jlb s n c = true
    · rw [if_pos e, if_pos e, jset_orstep (fun l => jlb s l c) (by omega)]
    · rw [if_neg e, if_neg e, Nat.add_zero, Int32.or_zero]
theorem cby_eq {s : Nat → Int32} {c : Nat} (hf : jlf s) (hc : c < 100) : nI (jset (fun i => clit s i c (s 181) 0) 4) = jlon s c := by
  unfold jlon
  rw [jlon_set s c 4 (by omega)]
  exact congrArg nI (jset_cong fun k hk => by rw [clit_0 hf hk hc]; rfl)
/-- the conditions of the ships as the class has them: -1 before a ship has come -/
def cgo (s : Nat → Int32) (n : Nat) (go : Nat → Int32) : Prop := ∀ i, i < 8 → go (8 + i) = if i < n then s (140 + 5 * i + 3) else -1
theorem cgo.lt {s go : Nat → Int32} {n i : Nat} (h : cgo s n go) (hi : i < 8) (hn : i < n) : go (8 + i) = s (140 + 5 * i + 3) := (h i hi).trans (if_pos hn)
theorem cgo.eq {s go : Nat → Int32} {n i : Nat} (h : cgo s n go) (hi : i < 8) {v : Int32} (hv : v ≠ -1) : go (8 + i) = v ↔ (i < n ∧ s (140 + 5 * i + 3) = v) := by
  rw [h i hi]
  by_cases z : i < n
  · rw [if_pos z]
    exact ⟨fun e => ⟨z, e⟩, fun e => e.2⟩
  · rw [if_neg z]
    exact ⟨fun e => absurd e.symm hv, fun e => absurd e.1 z⟩
theorem cgo.st {s go : Nat → Int32} {n i : Nat} (h : cgo s n go) (hi : i < 8) {v : Int32} (hv : v ≠ -1) : decide (go (8 + i) = v) = (decide (i < n) && jst s v i) := by
  have e := h.eq hi hv
  unfold jst
  by_cases z : go (8 + i) = v
  · rw [decide_eq_true z, decide_eq_true (e.mp z).1, decide_eq_true (e.mp z).2]
    rfl
  · rw [decide_eq_false z]
    by_cases y : i < n
    · rw [decide_eq_false (fun q => z (e.mpr ⟨y, q⟩)), Bool.and_false]
    · rw [decide_eq_false y, Bool.false_and]
theorem cgo_congr {s s' : Nat → Int32} {n : Nat} {go : Nat → Int32} (h : ∀ k, k < n → s' (140 + 5 * k + 3) = s (140 + 5 * k + 3)) (hg : cgo s n go) : cgo s' n go := by
  intro i hi
  rw [hg i hi]
  by_cases z : i < n
  · rw [if_pos z, if_pos z, h i z]
  · rw [if_neg z, if_neg z]
theorem cgo.m {s go g0 : Nat → Int32} {n : Nat} (h : cgo s n go) : cgo s n (jgm g0 go) := fun i hi => (jgm_c hi).trans (h i hi)
/-! eight places, of which n count -/
theorem jct_lim {p q : Nat → Bool} {n : Nat} : ∀ (d : Nat), (∀ k, k < n + d → q k = (decide (k < n) && p k)) → jct q (n + d) = jct p n
  | 0, h => jct_cong fun k hk => by rw [h k hk, decide_eq_true (show k < n from hk), Bool.true_and]
  | d + 1, h => by
    show jct q (n + d) + (if q (n + d) then 1 else 0) = jct p n
    rw [h (n + d) (by omega), decide_eq_false (by omega), Bool.false_and, jct_lim d (fun k hk => h k (by omega))]
    rfl
theorem jset_lim {p q : Nat → Bool} {n : Nat} : ∀ (d : Nat), (∀ k, k < n + d → q k = (decide (k < n) && p k)) → jset q (n + d) = jset p n
  | 0, h => jset_cong fun k hk => by rw [h k hk, decide_eq_true (show k < n from hk), Bool.true_and]
  | d + 1, h => by
    show jset q (n + d) + (if q (n + d) then 2 ^ (n + d) else 0) = jset p n
    rw [h (n + d) (by omega), decide_eq_false (by omega), Bool.false_and, jset_lim d (fun k hk => h k (by omega))]
    rfl
theorem jworth_lim {s : Nat → Int32} {p q : Nat → Bool} {n : Nat} : ∀ (d : Nat), (∀ k, k < n + d → q k = (decide (k < n) && p k)) → jworth s q (n + d) = jworth s p n
  | 0, h => by
    have e : ∀ m, (∀ k, k < m → q k = p k) → jworth s q m = jworth s p m := by
      intro m
      induction m with
      | zero => intro _; rfl
      | succ m ih =>
        intro hq
        show jworth s q m + (if q m = true then s (140 + 5 * m + 0) else 0) = jworth s p m + (if p m = true then s (140 + 5 * m + 0) else 0)
        rw [ih (fun k hk => hq k (by omega)), hq m (by omega)]
    exact e n fun k hk => by rw [h k hk, decide_eq_true (show k < n from hk), Bool.true_and]
  | d + 1, h => by
    show jworth s q (n + d) + (if q (n + d) = true then s (140 + 5 * (n + d) + 0) else 0) = jworth s p n
    rw [h (n + d) (by omega), decide_eq_false (by omega), Bool.false_and, jworth_lim d (fun k hk => h k (by omega)), if_neg (by decide), Int32.add_zero]
theorem jfind_no {q : Nat → Bool} : ∀ (e j : Nat), (∀ k, j ≤ k → k < j + e → q k = false) → jfind q j e = -5
  | 0, _, _ => rfl
  | e + 1, j, h => by
    show (if q j then nI j else jfind q (j + 1) e) = -5
    rw [h j (by omega) (by omega), jfind_no e (j + 1) (fun k h1 h2 => h k (by omega) (by omega))]
    rfl
theorem jfind_lim {p q : Nat → Bool} {e : Nat} : ∀ (d j : Nat), (∀ k, j ≤ k → k < j + d + e → q k = (decide (k < j + d) && p k)) → jfind q j (d + e) = jfind p j d
  | 0, j, h => by
    rw [Nat.zero_add]
    exact jfind_no e j (fun k h1 h2 => by rw [h k h1 (by omega), decide_eq_false (by omega), Bool.false_and])
  | d + 1, j, h => by
    rw [show d + 1 + e = (d + e) + 1 by omega]
    show (if q j then nI j else jfind q (j + 1) (d + e)) = (if p j then nI j else jfind p (j + 1) d)
    rw [h j (by omega) (by omega), decide_eq_true (by omega), Bool.true_and, jfind_lim d (j + 1) (fun k h1 h2 => by rw [h k (by omega) (by omega), show j + 1 + d = j + (d + 1) by omega])]
theorem cgo.cnt {s go : Nat → Int32} {n : Nat} (h : cgo s n go) (hn : n ≤ 8) {v : Int32} (hv : v ≠ -1) : jct (fun k => decide (go (8 + k) = v)) 8 = jct (jst s v) n := by
  have e := jct_lim (n := n) (p := jst s v) (q := fun k => decide (go (8 + k) = v)) (8 - n) (fun k hk => h.st (by omega) hv)
  rw [show n + (8 - n) = 8 by omega] at e
  exact e
theorem cgo.wth {s go : Nat → Int32} {n : Nat} (h : cgo s n go) (hn : n ≤ 8) {v : Int32} (hv : v ≠ -1) : jworth s (fun k => decide (go (8 + k) = v)) 8 = jworth s (jst s v) n := by
  have e := jworth_lim (s := s) (n := n) (p := jst s v) (q := fun k => decide (go (8 + k) = v)) (8 - n) (fun k hk => h.st (by omega) hv)
  rw [show n + (8 - n) = 8 by omega] at e
  exact e
theorem cgo.fnd {s go : Nat → Int32} {n : Nat} (h : cgo s n go) (hn : n ≤ 8) (c : Int32) : jsin s n c = jfind (fun k => decide (go (8 + k) = 0) && decide (s (140 + 5 * k + 1) = c)) 0 8 := by
  have e := jfind_lim (p := fun k => decide (s (140 + 5 * k + 3) = 0) && decide (s (140 + 5 * k + 1) = c)) (q := fun k => decide (go (8 + k) = 0) && decide (s (140 + 5 * k + 1) = c)) (e := 8 - n) n 0 (fun k _ hk => by
    show (decide (go (8 + k) = 0) && decide (s (140 + 5 * k + 1) = c)) = (decide (k < 0 + n) && (decide (s (140 + 5 * k + 3) = 0) && decide (s (140 + 5 * k + 1) = c)))
    rw [h.st (by omega) (by decide), Nat.zero_add, Bool.and_assoc]
    rfl)
  rw [show n + (8 - n) = 8 by omega] at e
  exact e.symm
theorem cgo.rnk {s go : Nat → Int32} {n k : Nat} (h : cgo s n go) (hw : jwo s n) (hn : n ≤ 8) (hk : k < n) : jct (fun j => decide (go (8 + j) = 0) && jbw (jwn s) j k) 8 = jrk s n k := by
  have e := jct_lim (n := n) (p := fun j => jsea s j && jbw (jwn s) j k) (q := fun j => decide (go (8 + j) = 0) && jbw (jwn s) j k) (8 - n) (fun j hj => by
    show (decide (go (8 + j) = 0) && jbw (jwn s) j k) = (decide (j < n) && (jsea s j && jbw (jwn s) j k))
    rw [h.st (by omega) (by decide), Bool.and_assoc]
    rfl)
  rw [show n + (8 - n) = 8 by omega] at e
  rw [e]
  exact jct_cong fun j hj => (jbef_eq hw hj hk).symm
theorem jwn_s {s : Nat → Int32} {n k : Nat} (hw : jwf s n) (hk : k < 8) : s (140 + 5 * k + 0) = nI (jwn s k) := by
  obtain ⟨⟨w, hw2, ew⟩, -, -⟩ := hw.2.2.2 k hk
  unfold jwn
  rw [ew, tn_nI (by omega)]
theorem jwn_lt {s : Nat → Int32} {n k : Nat} (hw : jwf s n) (hk : k < 8) : jwn s k < 100 := by
  obtain ⟨⟨w, hw2, ew⟩, -, -⟩ := hw.2.2.2 k hk
  unfold jwn
  rw [ew, tn_nI (by omega)]
  exact hw2
theorem jin_7 {k : Nat} (h : k < 8) : jin (nI k) 0 7 = true := jin_nI (j := k) (n := 7) (by omega) (by decide)
theorem jin_99 {k : Nat} (h : k < 100) : jin (nI k) 0 99 = true := jin_nI (j := k) (n := 99) (by omega) (by decide)
theorem jin_3 {k : Nat} (h : k < 4) : jin (nI k) 0 3 = true := jin_nI (j := k) (n := 3) (by omega) (by decide)
theorem jbr_home {c : Int32} : jhome c = true ↔ ∃ i, i < 4 ∧ c = bkLC i := by
  unfold jhome
  constructor
  · intro h
    simp only [Bool.or_eq_true, decide_eq_true_eq] at h
    rcases h with ((h | h) | h) | h
    · exact ⟨0, by omega, h⟩
    · exact ⟨1, by omega, h⟩
    · exact ⟨2, by omega, h⟩
    · exact ⟨3, by omega, h⟩
  · rintro ⟨i, hi, rfl⟩
    match i, hi with
    | 0, _ => decide
    | 1, _ => decide
    | 2, _ => decide
    | 3, _ => decide
    | i + 4, h => exact absurd h (by omega)
