theorem jpc_jset (p : Nat → Bool) : ∀ n, jpc n (jset p n) = jct p n := by
  have step : ∀ n (p : Nat → Bool), jset p (n + 1) % 2 = (if p 0 then 1 else 0) ∧ jset p (n + 1) / 2 = jset (fun k => p (k + 1)) n := by
    intro n
    induction n with
    | zero => intro p; unfold jset jset; split <;> simp
    | succ n ih =>
      intro p
      obtain ⟨h1, h2⟩ := ih p
      have e : jset p (n + 1 + 1) = jset p (n + 1) + (if p (n + 1) then 2 ^ (n + 1) else 0) := rfl
      have e2 : jset (fun k => p (k + 1)) (n + 1) = jset (fun k => p (k + 1)) n + (if p (n + 1) then 2 ^ n else 0) := rfl
      have e3 : 2 ^ (n + 1) = 2 * 2 ^ n := by rw [Nat.pow_succ, Nat.mul_comm]
      rw [e, e2, ← h1, ← h2]
      split <;> omega
  have sh : ∀ n (p : Nat → Bool), jct p (n + 1) = (if p 0 then 1 else 0) + jct (fun k => p (k + 1)) n := by
    intro n
    induction n with
    | zero => intro p; exact (Nat.zero_add _).trans (Nat.add_zero _).symm
    | succ n ih =>
      intro p
      show jct p (n + 1) + (if p (n + 1) then 1 else 0) = _ + (jct (fun k => p (k + 1)) n + (if p (n + 1) then 1 else 0))
      rw [ih p, Nat.add_assoc]
  intro n
  induction n generalizing p with
  | zero => rfl
  | succ n ih =>
    show jset p (n + 1) % 2 + jpc n (jset p (n + 1) / 2) = _
    rw [(step n p).1, (step n p).2, ih, sh]
theorem jpc_more : ∀ (n m x : Nat), x < 2 ^ n → jpc (n + m) x = jpc n x
  | 0, m, x, h => by
    have : x = 0 := by simp at h; exact h
    subst this
    rw [jpc_0, jpc_0]
  | n + 1, m, x, h => by
    rw [show n + 1 + m = (n + m) + 1 by omega]
    show x % 2 + jpc (n + m) (x / 2) = x % 2 + jpc n (x / 2)
    rw [jpc_more n m (x / 2) (by rw [Nat.pow_succ] at h; omega)]
theorem jpc8_jset (p : Nat → Bool) {n : Nat} (h : n ≤ 8) : jpc 8 (jset p n) = jct p n := by
  have e := jpc_more n (8 - n) (jset p n) (jset_lt p n)
  rw [show n + (8 - n) = 8 by omega] at e
  rw [e, jpc_jset]
theorem jct_add (p : Nat → Bool) (a : Nat) : ∀ b, jct p (a + b) = jct p a + jct (fun k => p (a + k)) b
  | 0 => rfl
  | b + 1 => by
    show jct p (a + b) + (if p (a + b) then 1 else 0) = jct p a + (jct (fun k => p (a + k)) b + (if p (a + b) then 1 else 0))
    rw [jct_add p a b, Nat.add_assoc]
theorem jsm_rocks {s : Nat → Int32} : ∀ n, (∀ c, c < n → s c = 0 ∨ s c = 1) → jsm s n = nI (jct (fun c => decide (s c = 1)) n)
  | 0, _ => rfl
  | n + 1, h => by
    show jsm s n + s n = nI (jct _ n + (if decide (s n = 1) then 1 else 0))
    rw [jsm_rocks n (fun c hc => h c (by omega)), ← nI_add]
    rcases h n (by omega) with e | e
    · rw [e]; rfl
    · rw [e]; rfl
theorem jworth_t {s : Nat → Int32} {p : Nat → Bool} {j : Nat} (h : p j = true) : jworth s p j + s (140 + 5 * j + 0) = jworth s p (j + 1) := by
  show _ = jworth s p j + (if p j = true then s (140 + 5 * j + 0) else 0)
  rw [if_pos h]
theorem jworth_f {s : Nat → Int32} {p : Nat → Bool} {j : Nat} (h : p j = false) : jworth s p j = jworth s p (j + 1) := by
  show _ = jworth s p j + (if p j = true then s (140 + 5 * j + 0) else 0)
  rw [if_neg (by rw [h]; decide), Int32.add_zero]
theorem jtake_t {s : Nat → Int32} {L : List Nat} {j : Nat} (h : j < L.length) (hp : jsea s L[j] = true) : nI ((L.take j).countP (jsea s)) + 1 = nI ((L.take (j + 1)).countP (jsea s)) := by
  rw [List.take_succ_eq_append_getElem h, List.countP_append, List.countP_singleton, if_pos hp, ← nI_1]
theorem jtake_f {s : Nat → Int32} {L : List Nat} {j : Nat} (h : j < L.length) (hp : jsea s L[j] = false) : nI ((L.take j).countP (jsea s)) = nI ((L.take (j + 1)).countP (jsea s)) := by
  rw [List.take_succ_eq_append_getElem h, List.countP_append, List.countP_singleton, if_neg (by rw [hp]; decide), Nat.add_zero]
/-- a light's numbers -/
def jlf (s : Nat → Int32) : Prop := ∀ l, l < 4 → (∃ v, v ≤ 7 ∧ s (100 + 5 * l + 0) = nI v) ∧ (∃ v, v ≤ 3 ∧ s (100 + 5 * l + 1) = nI v) ∧ (∃ v, v ≤ 9 ∧ s (100 + 5 * l + 2) = nI v) ∧ (∃ v, v ≤ 9 ∧ s (100 + 5 * l + 4) = nI v)
theorem clit_h {s : Nat → Int32} {l c h : Nat} {hr : Int32} (hf : jlf s) (hl : l < 4) (hc : c < 100) (hh : h < 1000) : clit s l c hr (nI h) = jlit s l c hr (jmx (s (100 + 5 * l + 4) - nI h)) := by
  obtain ⟨-, -, -, g, hg, eg⟩ := hf l hl
  exact clit_eq hl hc eg (by omega) hh
theorem clit_0 {s : Nat → Int32} {l c : Nat} {hr : Int32} (hf : jlf s) (hl : l < 4) (hc : c < 100) : clit s l c hr 0 = jlit s l c hr (s (100 + 5 * l + 4)) := by
  obtain ⟨-, -, -, g, hg, eg⟩ := hf l hl
  have e := clit_h (h := 0) (hr := hr) hf hl hc (by omega)
  rw [show nI 0 = 0 from rfl, Int32.sub_zero] at e
  rw [e]
  unfold jmx
  rw [eg, if_pos (nI_pos' (by omega))]
theorem jlon_set (s : Nat → Int32) (c : Nat) : ∀ n, n ≤ 8 → jlonA s c n = nI (jset (fun l => jlb s l c) n)
  | 0, _ => rfl
  | n + 1, h => by
    show jlonA s c n ||| (if jlb s n c then (1 : Int32) <<< (nI n &&& 31) else 0) = nI (jset (fun l => jlb s l c) n + (if jlb s n c then 2 ^ n else 0))
    rw [jlon_set s c n (by omega)]
    by_cases e : jlb s n c = true
    · rw [if_pos e, if_pos e, jset_orstep (fun l => jlb s l c) (by omega)]
    · rw [if_neg e, if_neg e, Nat.add_zero, Int32.or_zero]
theorem cby_eq {s : Nat → Int32} {c : Nat} (hf : jlf s) (hc : c < 100) : nI (jset (fun i => clit s i c (s 181) 0) 4) = jlon s c := by
  unfold jlon
  rw [jlon_set s c 4 (by omega)]
  exact congrArg nI (jset_cong fun k hk => by rw [clit_0 hf hk hc]; rfl)
def cjall (s : Nat → Int32) (n : Nat) (go : Nat → Int32) : Prop := ∀ i (h : i < (jall (jwn s) n).length), go i = nI ((jall (jwn s) n)[i])
theorem jrk_pos {s : Nat → Int32} {n i : Nat} (hw : jwo s n) (h : i < (jall (jwn s) n).length) : jrk s n (jall (jwn s) n)[i] = ((jall (jwn s) n).take i).countP (jsea s) := by
  have hs := jall_sorted (jwn s) n
  have hm : (jall (jwn s) n)[i] < n := jall_mem.mp (List.getElem_mem h)
  have e1 : jrk s n (jall (jwn s) n)[i] = (jall (jwn s) n).countP (fun j => jsea s j && jbw (jwn s) j (jall (jwn s) n)[i]) := by
    rw [jall_countP]
    exact jct_cong fun j hj => jbef_eq hw hj hm
  rw [e1]
  generalize hL : jall (jwn s) n = L at hs h
  have hd : L = L.take i ++ L.drop i := (List.take_append_drop i L).symm
  have e2 : L.countP (fun j => jsea s j && jbw (jwn s) j L[i]) = (L.take i).countP (fun j => jsea s j && jbw (jwn s) j L[i]) + (L.drop i).countP (fun j => jsea s j && jbw (jwn s) j L[i]) := by
    rw [← List.countP_append, List.take_append_drop]
  subst hL
  rw [e2]
  have e3 : ((jall (jwn s) n).drop i).countP (fun j => jsea s j && jbw (jwn s) j (jall (jwn s) n)[i]) = 0 := by
    rw [List.countP_eq_zero]
    intro x hx
    obtain ⟨k, hk, rfl⟩ := List.getElem_of_mem hx
    rw [List.getElem_drop]
    rw [List.length_drop] at hk
    rcases Nat.eq_zero_or_pos k with z | z
    · subst z
      simp [jbw_irr]
    · have := jbw_asym (List.pairwise_iff_getElem.mp hs i (i + k) h (by omega) (by omega))
      simp [this]
  rw [e3, Nat.add_zero]
  refine List.countP_congr fun x hx => ?_
  obtain ⟨k, hk, rfl⟩ := List.getElem_of_mem hx
  rw [List.length_take] at hk
  rw [List.getElem_take]
  have := List.pairwise_iff_getElem.mp hs k i (by omega) h (by omega)
  simp [this]
theorem jbr_home {c : Int32} : jhome c = true ↔ ∃ i, i < 4 ∧ c = bkLC i := by
  unfold jhome
  constructor
  · intro h
    simp only [Bool.or_eq_true, decide_eq_true_eq] at h
    rcases h with ((h | h) | h) | h
    · exact ⟨0, by omega, h⟩
    · exact ⟨1, by omega, h⟩
    · exact ⟨2, by omega, h⟩
    · exact ⟨3, by omega, h⟩
  · rintro ⟨i, hi, rfl⟩
    match i, hi with
    | 0, _ => decide
    | 1, _ => decide
    | 2, _ => decide
    | 3, _ => decide
    | i + 4, h => exact absurd h (by omega)
