/-! what changes: the reference's steps as functions of its row of numbers -/
theorem upd_s {f : Nat → Int32} {k : Nat} {x : Int32} : upd f k x k = x := if_pos rfl
theorem upd_n {f : Nat → Int32} {k j : Nat} {x : Int32} (h : j ≠ k) : upd f k x j = f j := if_neg h
theorem upd_upd (f : Nat → Int32) (k : Nat) (x y : Int32) : upd (upd f k x) k y = upd f k y := by
  funext j
  by_cases h : j = k
  · subst h; rw [upd_s, upd_s]
  · rw [upd_n h, upd_n h, upd_n h]
theorem upd_self (f : Nat → Int32) (k : Nat) : upd f k (f k) = f := by
  funext j
  by_cases h : j = k
  · subst h; rw [upd_s]
  · rw [upd_n h]
def jcp (g s : Nat → Int32) (k : Nat) : Nat → Int32 := fun i => if i < k then s i else g i
theorem jcp_0 (g s : Nat → Int32) : jcp g s 0 = g := by funext i; simp [jcp]
theorem jcp_up (g s : Nat → Int32) (k : Nat) : upd (jcp g s k) k (s k) = jcp g s (k + 1) := by
  funext i
  by_cases h : i = k
  · subst h; rw [upd_s]; simp [jcp]
  · rw [upd_n h]
    unfold jcp
    by_cases h2 : i < k
    · rw [if_pos h2, if_pos (by omega)]
    · rw [if_neg h2, if_neg (by omega)]
def jw1 (p : Nat → Int32) (k : Nat) : Nat → Int32 := fun i => if i < k then p (183 + i) else p i
theorem jw1_0 (p : Nat → Int32) : jw1 p 0 = p := by funext i; simp [jw1]
theorem jw1_up (p : Nat → Int32) (k : Nat) : upd (jw1 p k) k (jw1 p k (183 + k)) = jw1 p (k + 1) := by
  have e : jw1 p k (183 + k) = p (183 + k) := if_neg (by omega)
  rw [e]
  funext i
  by_cases h : i = k
  · subst h; rw [upd_s]; simp [jw1]
  · rw [upd_n h]
    unfold jw1
    by_cases h2 : i < k
    · rw [if_pos h2, if_pos (by omega)]
    · rw [if_neg h2, if_neg (by omega)]
def jw2 (p s : Nat → Int32) (b k : Nat) : Nat → Int32 := fun i => if b ≤ i ∧ i < b + k then s (i - b) else p i
theorem jw2_0 (p s : Nat → Int32) (b : Nat) : jw2 p s b 0 = p := by
  funext i
  exact if_neg (by omega)
theorem jw2_up (p s : Nat → Int32) (b k : Nat) : upd (jw2 p s b k) (b + k) (s k) = jw2 p s b (k + 1) := by
  funext i
  by_cases h : i = b + k
  · subst h
    rw [upd_s]
    unfold jw2
    rw [if_pos (by omega), Nat.add_sub_cancel_left]
  · rw [upd_n h]
    unfold jw2
    by_cases h2 : b ≤ i ∧ i < b + k
    · rw [if_pos h2, if_pos (by omega)]
    · rw [if_neg h2, if_neg (by omega)]
def jrn (np : Nat) : Nat := if np = 4 then 4 else np + 1
def jrp (s p : Nat → Int32) (np : Nat) : Nat → Int32 := jw2 (if np = 4 then jw1 p 549 else p) s (183 * (jrn np - 1)) 183
def jcm (s : Nat → Int32) (n : Nat) (w c h : Int32) : Nat → Int32 :=
  let s5 := upd (upd (upd (upd (upd s (140 + 5 * n + 0) w) (140 + 5 * n + 1) c) (140 + 5 * n + 2) h) (140 + 5 * n + 3) 0) (140 + 5 * n + 4) 0
  upd s5 180 (s5 180 + 1)
def jst1 (a b : Nat) : Nat := if a < b then a + 1 else if b < a then a - 1 else a
def jnx (c h : Nat) : Nat := 10 * jst1 (c / 10) (h / 10) + jst1 (c % 10) (h % 10)
theorem jst1_lt {a b n : Nat} (ha : a < n) (hb : b < n) : jst1 a b < n := by unfold jst1; split <;> (try split) <;> omega
theorem jnx_lt {c h : Nat} (hc : c < 100) (hh : h < 100) : jnx c h < 100 := by
  have h1 : jst1 (c / 10) (h / 10) < 10 := jst1_lt (by omega) (by omega)
  have h2 : jst1 (c % 10) (h % 10) < 10 := jst1_lt (by omega) (by omega)
  unfold jnx
  omega
theorem jtw_st : ∀ a, a < 10 → ∀ b, b < 10 → jtw (nI a) (nI b) = nI (jst1 a b) - nI a := by decide +kernel
theorem jnx_eq {c h : Nat} (hc : c < 100) (hh : h < 100) : nI c + jtw (nI (c % 10)) (nI (h % 10)) + 10 * jtw (nI (c / 10)) (nI (h / 10)) = nI (jnx c h) := by
  rw [jtw_st _ (by omega) _ (by omega), jtw_st _ (by omega) _ (by omega)]
  unfold jnx
  rw [← nI_add, ← pk_mul]
  have e : nI c = nI 10 * nI (c / 10) + nI (c % 10) := by rw [pk_mul, nI_add]; congr 1; omega
  rw [e]
  have e10 : nI 10 = 10 := rfl
  rw [e10]
  generalize nI (c / 10) = x
  generalize nI (c % 10) = y
  generalize nI (jst1 (c / 10) (h / 10)) = u
  generalize nI (jst1 (c % 10) (h % 10)) = v
  grind
def jgo (s : Nat → Int32) (n k c h : Nat) : Nat → Int32 :=
  if ¬ jsin s n (nI (jnx c h)) = -5 ∨ (s (jnx c h) = 1 ∧ ¬ jlon s (jnx c h) = 0) then upd s (140 + 5 * k + 4) (s (140 + 5 * k + 4) + 1)
  else if s (jnx c h) = 1 then
    let s2 := upd (upd s (140 + 5 * k + 1) (nI (jnx c h))) (140 + 5 * k + 3) 2
    let s3 := upd s2 (120 + 5 * jnr (jnx c h) + 1) (s2 (120 + 5 * jnr (jnx c h) + 1) + s2 (140 + 5 * k + 0))
    upd s3 (120 + 5 * jnr (jnx c h) + 3) (s3 (120 + 5 * jnr (jnx c h) + 3) + 1)
  else upd (upd s (140 + 5 * k + 1) (nI (jnx c h))) (140 + 5 * k + 3) (if nI (jnx c h) = nI h then 1 else 0)
def jgoes (s : Nat → Int32) (n k : Nat) : Nat → Int32 := jgo s n k (tn (s (140 + 5 * k + 1))) (tn (s (140 + 5 * k + 2)))
def jly (s : Nat → Int32) (k l : Nat) : Nat → Int32 :=
  let s1 := upd s (100 + 5 * l + 4) (if s (100 + 5 * l + 4) + 3 ≤ 9 then s (100 + 5 * l + 4) + 3 else 9)
  upd s1 (120 + 5 * k + 2) (s1 (120 + 5 * k + 2) - 1)
abbrev jkB (s : Nat → Int32) (l : Nat) (pays : Int32) : Nat → Int32 :=
  upd (upd (upd s (120 + 5 * l + 0) (s (120 + 5 * l + 0) + s 182 - pays)) (120 + 5 * l + 1) (upd s (120 + 5 * l + 0) (s (120 + 5 * l + 0) + s 182 - pays) (120 + 5 * l + 1) - pays)) (120 + 5 * l + 4) (upd (upd s (120 + 5 * l + 0) (s (120 + 5 * l + 0) + s 182 - pays)) (120 + 5 * l + 1) (upd s (120 + 5 * l + 0) (s (120 + 5 * l + 0) + s 182 - pays) (120 + 5 * l + 1) - pays) (120 + 5 * l + 4) + pays)
def jkP (s : Nat → Int32) (l : Nat) : Int32 := if s (120 + 5 * l + 1) ≤ s (120 + 5 * l + 0) + s 182 then s (120 + 5 * l + 1) else s (120 + 5 * l + 0) + s 182
def jkp1 (s : Nat → Int32) (l : Nat) : Nat → Int32 := upd (jkB s l (jkP s l)) (100 + 5 * l + 4) (jkB s l (jkP s l) (100 + 5 * l + 4) - (if jkB s l (jkP s l) (100 + 5 * l + 4) ≤ 0 then 0 else 1))
theorem jkp1_of {s : Nat → Int32} {l : Nat} (pays d : Int32) (hp : jkP s l = pays) (hd : (if jkB s l pays (100 + 5 * l + 4) ≤ 0 then (0 : Int32) else 1) = d) : upd (jkB s l pays) (100 + 5 * l + 4) (jkB s l pays (100 + 5 * l + 4) - d) = jkp1 s l := by
  subst hp
  subst hd
  rfl
def jkp (s : Nat → Int32) : Nat → Nat → Int32
  | 0 => s
  | l + 1 => jkp1 (jkp s l) l
/-! the order of going -/
def jins (w : Nat → Nat) (k : Nat) : List Nat → List Nat
  | [] => [k]
  | x :: l => if w x < w k then k :: x :: l else x :: jins w k l
def jall (w : Nat → Nat) : Nat → List Nat
  | 0 => []
  | n + 1 => jins w n (jall w n)
def jwn (s : Nat → Int32) (k : Nat) : Nat := tn (s (140 + 5 * k + 0))
def jsea (s : Nat → Int32) (k : Nat) : Bool := decide (s (140 + 5 * k + 3) = 0)
def jord (s : Nat → Int32) (n : Nat) : List Nat := (jall (jwn s) n).filter (jsea s)
def jbw (w : Nat → Nat) (x y : Nat) : Bool := decide (w y < w x) || (decide (w x = w y) && decide (x < y))
theorem jins_perm (w : Nat → Nat) (k : Nat) : ∀ l, (jins w k l).Perm (k :: l)
  | [] => List.Perm.refl _
  | x :: l => by
    show (if w x < w k then k :: x :: l else x :: jins w k l).Perm _
    split
    · exact List.Perm.refl _
    · exact ((jins_perm w k l).cons x).trans (List.Perm.swap k x l)
theorem jall_perm (w : Nat → Nat) : ∀ n, (jall w n).Perm (List.range n)
  | 0 => List.Perm.refl _
  | n + 1 => by
    have h := (jins_perm w n (jall w n)).trans ((jall_perm w n).cons n)
    rw [List.range_succ]
    exact h.trans (List.perm_append_singleton n (List.range n)).symm
theorem jall_mem {w : Nat → Nat} {n k : Nat} : k ∈ jall w n ↔ k < n := by rw [(jall_perm w n).mem_iff, List.mem_range]
theorem jall_len (w : Nat → Nat) (n : Nat) : (jall w n).length = n := by rw [(jall_perm w n).length_eq, List.length_range]
theorem jins_sorted (w : Nat → Nat) (k : Nat) : ∀ l, (∀ x ∈ l, x < k) → l.Pairwise (fun x y => jbw w x y = true) → (jins w k l).Pairwise (fun x y => jbw w x y = true)
  | [], _, _ => List.pairwise_singleton _ _
  | x :: l, hl, hp => by
    obtain ⟨h1, h2⟩ := List.pairwise_cons.mp hp
    show (if w x < w k then k :: x :: l else x :: jins w k l).Pairwise _
    split
    · rename_i hlt
      refine List.pairwise_cons.mpr ⟨fun y hy => ?_, hp⟩
      rcases List.mem_cons.mp hy with rfl | hy
      · simp [jbw, hlt]
      · have hxy := h1 y hy
        unfold jbw at hxy ⊢
        simp only [Bool.or_eq_true, Bool.and_eq_true, decide_eq_true_eq] at hxy ⊢
        omega
    · rename_i hge
      refine List.pairwise_cons.mpr ⟨fun y hy => ?_, jins_sorted w k l (fun y hy => hl y (List.mem_cons_of_mem _ hy)) h2⟩
      rcases List.mem_cons.mp ((jins_perm w k l).mem_iff.mp hy) with rfl | hy
      · have hx := hl x List.mem_cons_self
        unfold jbw
        simp only [Bool.or_eq_true, Bool.and_eq_true, decide_eq_true_eq]
        omega
      · exact h1 y hy
theorem jall_sorted (w : Nat → Nat) : ∀ n, (jall w n).Pairwise (fun x y => jbw w x y = true)
  | 0 => List.Pairwise.nil
  | n + 1 => jins_sorted w n _ (fun _ hx => jall_mem.mp hx) (jall_sorted w n)
theorem jbw_asym {w : Nat → Nat} {x y : Nat} (h : jbw w x y = true) : jbw w y x = false := by
  cases e : jbw w y x
  · rfl
  · unfold jbw at h e
    simp only [Bool.or_eq_true, Bool.and_eq_true, decide_eq_true_eq] at h e
    omega
theorem jbw_irr (w : Nat → Nat) (x : Nat) : jbw w x x = false := by simp [jbw]
theorem jpw_count (w : Nat → Nat) : ∀ (L : List Nat), L.Pairwise (fun x y => jbw w x y = true) → ∀ i (h : i < L.length), L.countP (fun x => jbw w x L[i]) = i
  | [], _, i, h => absurd h (Nat.not_lt_zero _)
  | a :: l, hp, 0, _ => by
    obtain ⟨h1, h2⟩ := List.pairwise_cons.mp hp
    rw [List.countP_cons, List.getElem_cons_zero, if_neg (by rw [jbw_irr]; decide)]
    rw [Nat.add_zero, List.countP_eq_zero]
    intro x hx
    rw [jbw_asym (h1 x hx)]
    decide
  | a :: l, hp, i + 1, h => by
    obtain ⟨h1, h2⟩ := List.pairwise_cons.mp hp
    have hi : i < l.length := Nat.lt_of_succ_lt_succ h
    rw [List.countP_cons, List.getElem_cons_succ, if_pos (h1 _ (List.getElem_mem hi)), jpw_count w l h2 i hi]
theorem jct_countP (p : Nat → Bool) : ∀ n, (List.range n).countP p = jct p n
  | 0 => rfl
  | n + 1 => by
    rw [List.range_succ, List.countP_append, jct_countP p n, List.countP_singleton]
    rfl
theorem jall_countP (w : Nat → Nat) (p : Nat → Bool) (n : Nat) : (jall w n).countP p = jct p n := by rw [(jall_perm w n).countP_eq, jct_countP]
theorem jord_len (s : Nat → Int32) (n : Nat) : (jord s n).length = jct (jsea s) n := by
  unfold jord
  rw [← List.countP_eq_length_filter, jall_countP]
theorem jord_mem {s : Nat → Int32} {n k : Nat} : k ∈ jord s n ↔ k < n ∧ jsea s k = true := by
  unfold jord
  rw [List.mem_filter, jall_mem]
def jwo (s : Nat → Int32) (n : Nat) : Prop := ∀ k, k < n → ∃ w, w < 100 ∧ s (140 + 5 * k + 0) = nI w
theorem jbef_eq {s : Nat → Int32} {n j k : Nat} (hw : jwo s n) (hj : j < n) (hk : k < n) : jbef s j k = (jsea s j && jbw (jwn s) j k) := by
  obtain ⟨a, ha, ea⟩ := hw j hj
  obtain ⟨b, hb, eb⟩ := hw k hk
  unfold jbef jsea jbw jwn
  rw [ea, eb, tn_nI (by omega), tn_nI (by omega)]
  have e1 : (0 < nI a - nI b) ↔ b < a := by
    rw [Int32.lt_iff_toInt_lt, pk_sub_toInt (by omega) (by omega)]
    have : (0 : Int32).toInt = 0 := rfl
    omega
  have e2 : (nI a - nI b = 0) ↔ a = b := by
    rw [← Int32.toInt_inj, pk_sub_toInt (by omega) (by omega)]
    have : (0 : Int32).toInt = 0 := rfl
    omega
  simp only [e1, e2]
theorem jrk_at {s : Nat → Int32} {n : Nat} (hw : jwo s n) {i : Nat} (h : i < (jord s n).length) : jrk s n (jord s n)[i] = i := by
  have hm := jord_mem.mp (List.getElem_mem h)
  have hs : (jord s n).Pairwise (fun x y => jbw (jwn s) x y = true) := (jall_sorted (jwn s) n).sublist List.filter_sublist
  have hc := jpw_count (jwn s) (jord s n) hs i h
  refine Eq.trans ?_ hc
  generalize (jord s n)[i] = k at hm
  unfold jrk jord
  rw [List.countP_filter, jall_countP]
  exact jct_cong fun j hj => by rw [jbef_eq hw hj hm.1, Bool.and_comm]
theorem jrk_inj {s : Nat → Int32} {n k l : Nat} (hw : jwo s n) (hk : k < n) (hl : l < n) (sk : jsea s k = true) (sl : jsea s l = true) (h : jrk s n k = jrk s n l) : k = l := by
  obtain ⟨i, hi, ei⟩ := List.getElem_of_mem (jord_mem.mpr ⟨hk, sk⟩)
  obtain ⟨j, hj, ej⟩ := List.getElem_of_mem (jord_mem.mpr ⟨hl, sl⟩)
  rw [← ei, ← ej, jrk_at hw hi, jrk_at hw hj] at h
  subst h
  rw [← ei, ← ej]
theorem jrk_lt {s : Nat → Int32} {n k : Nat} (hw : jwo s n) (hk : k < n) (sk : jsea s k = true) : jrk s n k < jct (jsea s) n := by
  obtain ⟨i, hi, ei⟩ := List.getElem_of_mem (jord_mem.mpr ⟨hk, sk⟩)
  rw [← ei, jrk_at hw hi, ← jord_len]
  exact hi
/-! a game as it must be -/
def jwf (s : Nat → Int32) (n : Nat) : Prop := n ≤ 8 ∧ s 180 = nI n ∧ (∀ c, c < 100 → s c = 0 ∨ s c = 1) ∧ ∀ k, k < 8 → (∃ w, w < 100 ∧ s (140 + 5 * k + 0) = nI w) ∧ (∃ c, c < 100 ∧ s (140 + 5 * k + 1) = nI c) ∧ (∃ h, h < 100 ∧ s (140 + 5 * k + 2) = nI h)
theorem jwf.wo {s : Nat → Int32} {n : Nat} (h : jwf s n) : jwo s n := fun k hk => (h.2.2.2 k (by have := h.1; omega)).1
theorem jwf.set {s : Nat → Int32} {n i : Nat} {x : Int32} (h : jwf s n) (h1 : 100 ≤ i) (h2 : i ≠ 180) (h3 : ∀ k, k < 8 → i ≠ 140 + 5 * k + 0 ∧ i ≠ 140 + 5 * k + 1 ∧ i ≠ 140 + 5 * k + 2) : jwf (upd s i x) n := by
  refine ⟨h.1, by rw [upd_n (Ne.symm h2)]; exact h.2.1, fun c hc => by rw [upd_n (by omega)]; exact h.2.2.1 c hc, fun k hk => ?_⟩
  obtain ⟨a, b, c⟩ := h3 k hk
  rw [upd_n (Ne.symm a), upd_n (Ne.symm b), upd_n (Ne.symm c)]
  exact h.2.2.2 k hk
theorem jwf.cell {s : Nat → Int32} {n i c : Nat} (h : jwf s n) (hi : i < 8) (hc : c < 100) : jwf (upd s (140 + 5 * i + 1) (nI c)) n := by
  refine ⟨h.1, by rw [upd_n (by omega)]; exact h.2.1, fun c hc => by rw [upd_n (by omega)]; exact h.2.2.1 c hc, fun k hk => ?_⟩
  obtain ⟨a, b, d⟩ := h.2.2.2 k hk
  rw [upd_n (show 140 + 5 * k + 0 ≠ 140 + 5 * i + 1 by omega), upd_n (show 140 + 5 * k + 2 ≠ 140 + 5 * i + 1 by omega)]
  refine ⟨a, ?_, d⟩
  by_cases e : k = i
  · subst e; rw [upd_s]; exact ⟨c, hc, rfl⟩
  · rw [upd_n (by omega)]; exact b
theorem jwf.goes {s : Nat → Int32} {n k : Nat} (h : jwf s n) (hk : k < 8) : jwf (jgoes s n k) n := by
  obtain ⟨-, ⟨c, hc, ec⟩, ⟨d, hd, ed⟩⟩ := h.2.2.2 k hk
  unfold jgoes
  rw [ec, ed, tn_nI (by omega), tn_nI (by omega)]
  have hx := jnx_lt hc hd
  have hr := jnr_lt (jnx c d)
  unfold jgo
  split
  · exact h.set (by omega) (by omega) (fun i hi => by omega)
  · split
    · exact (((h.cell hk hx).set (by omega) (by omega) (fun i hi => by omega)).set (by omega) (by omega) (fun i hi => by omega)).set (by omega) (by omega) (fun i hi => by omega)
    · exact (h.cell hk hx).set (by omega) (by omega) (fun i hi => by omega)
theorem jwf.goL {n : Nat} : ∀ (L : List Nat) {s : Nat → Int32}, jwf s n → (∀ k ∈ L, k < 8) → jwf (L.foldl (fun s k => jgoes s n k) s) n
  | [], _, h, _ => h
  | k :: L, _, h, hl => jwf.goL L (h.goes (hl k List.mem_cons_self)) (fun x hx => hl x (List.mem_cons_of_mem _ hx))
theorem jwf.kp1 {s : Nat → Int32} {n l : Nat} (h : jwf s n) (hl : l < 4) : jwf (jkp1 s l) n :=
  (((h.set (by omega) (by omega) (fun i hi => by omega)).set (by omega) (by omega) (fun i hi => by omega)).set (by omega) (by omega) (fun i hi => by omega)).set (by omega) (by omega) (fun i hi => by omega)
theorem jwf.kp {s : Nat → Int32} {n : Nat} (h : jwf s n) : ∀ l, l ≤ 4 → jwf (jkp s l) n
  | 0, _ => h
  | l + 1, hl => (jwf.kp h l (by omega)).kp1 (by omega)
def jgoA (s : Nat → Int32) (n : Nat) : Nat → Int32 := (jord s n).foldl (fun s k => jgoes s n k) s
def jhour (s : Nat → Int32) (n : Nat) : Nat → Int32 := upd (jkp (jgoA s n) 4) 181 (jkp (jgoA s n) 4 181 + 1)
def jhrs (s : Nat → Int32) (n : Nat) : Nat → Nat → Int32
  | 0 => s
  | k + 1 => jhour (jhrs s n k) n
theorem jwf.hour {s : Nat → Int32} {n : Nat} (h : jwf s n) : jwf (jhour s n) n := by
  have h1 : jwf (jgoA s n) n := h.goL (jord s n) (fun k hk => by have := (jord_mem.mp hk).1; have := h.1; omega)
  exact (h1.kp 4 (by omega)).set (by omega) (by omega) (fun i hi => by omega)
theorem jwf.hrs {s : Nat → Int32} {n : Nat} (h : jwf s n) : ∀ k, jwf (jhrs s n k) n
  | 0 => h
  | k + 1 => (jwf.hrs h k).hour
theorem jfold_take {n : Nat} (s : Nat → Int32) (L : List Nat) (i : Nat) (h : i < L.length) : (L.take (i + 1)).foldl (fun s k => jgoes s n k) s = jgoes ((L.take i).foldl (fun s k => jgoes s n k) s) n L[i] := by
  rw [List.take_succ_eq_append_getElem h, List.foldl_append]
  rfl
theorem jct_f0 {p : Nat → Bool} {j : Nat} (h : p j = false) : nI (jct p j) = nI (jct p (j + 1)) := by
  show _ = nI (jct p j + (if p j then 1 else 0))
  rw [if_neg (by rw [h]; decide), Nat.add_zero]
theorem jbr_in {v : Int32} (h : 0 ≤ jbr v) : ∃ j, j ≤ 99 ∧ v = nI j := by
  unfold jbr at h
  split at h
  · rename_i hj
    exact jin_of rfl (by decide) hj
  · exact absurd h (by decide)
def jwr (s : Nat → Int32) (n h : Nat) : Nat → Bool := fun k => jst (jhrs s n h) 2 k && !jst s 2 k
/-! an act: its answer, and what the game is then (none: nothing is changed) -/
def jRock (s : Nat → Int32) (c : Int32) : Int32 × Option (Nat → Int32) := if 0 ≤ jbr c then (jsm (upd s (tn c) (1 - s (tn c))) 100, some (upd s (tn c) (1 - s (tn c)))) else (jbr c, none)
def jLight (s : Nat → Int32) (l w x : Int32) : Int32 × Option (Nat → Int32) :=
  if jin l 0 3 = false then (-1, none) else if jfit w x = false then (-2, none) else if s (100 + 5 * tn l + tn w) = x then (-5, none) else (s (100 + 5 * tn l + tn w), some (upd s (100 + 5 * tn l + tn w) x))
def jShip (s : Nat → Int32) (n : Nat) (w c h : Int32) : Int32 × Option (Nat → Int32) := if 0 ≤ jbs s n w c h then (nI n, some (jcm s n w c h)) else (jbs s n w c h, none)
def jCard (s : Nat → Int32) (k l : Int32) : Int32 × Option (Nat → Int32) :=
  if jin k 0 3 = false ∨ jin l 0 3 = false then (-1, none) else if jcl s (tn k) (tn l) = false then (-4, none) else (jly s (tn k) (tn l) (100 + 5 * tn l + 4), some (jly s (tn k) (tn l)))
def jPass (s : Nat → Int32) (n : Nat) (h : Int32) : Int32 × Option (Nat → Int32) := if 0 ≤ jbp s h then (nI (jpc 8 (jset (jwr s n (tn h)) n)), some (jhrs s n (tn h))) else (jbp s h, none)
def jWage (s : Nat → Int32) (w : Int32) : Int32 × Option (Nat → Int32) := if jin w 0 9 = false then (-2, none) else if s 182 = w then (-5, none) else (s 182, some (upd s 182 w))
def jRest (q : Nat → Int32) (kept : Int32) : Int32 × Option (Nat → Int32) := if kept = 0 then (-5, none) else (q 181, some q)
def mAct (G : bkG) (M : bkM) (r : Nat) (s a p q t o f : Nat → Int32) (np : Nat) : Option (Nat → Int32) → bkM
  | none => mW G M r s a p q t o f
  | some s' => mW G M r s' a (jrp s p np) q t o (upd f 3 (nI (jrn np)))
theorem jbp_in {s : Nat → Int32} {v : Int32} (h : 0 ≤ jbp s v) : ∃ j, 1 ≤ j ∧ j ≤ 20 ∧ v = nI j := by
  unfold jbp at h
  split at h
  · exact absurd h (by decide)
  · rename_i hj
    have h1 : jin v 0 20 = true := by
      unfold jin at hj ⊢
      simp only [Bool.not_eq_true', Bool.and_eq_false_iff, decide_eq_false_iff_not, not_or, Classical.not_not] at hj
      simp only [Bool.and_eq_true, decide_eq_true_eq]
      exact ⟨Int32.le_trans (by decide) hj.1, hj.2⟩
    obtain ⟨j, h2, rfl⟩ := jin_of (n := 20) rfl (by decide) h1
    refine ⟨j, ?_, h2, rfl⟩
    rcases Nat.eq_zero_or_pos j with e | e
    · subst e
      exact absurd (by decide) hj
    · exact e
theorem jbs_in {s : Nat → Int32} {n : Nat} {w c h : Int32} (h0 : 0 ≤ jbs s n w c h) : jin c 0 99 = true ∧ jin h 0 99 = true ∧ jin w 1 99 = true ∧ ¬ c = h ∧ s (tn c) = 0 ∧ s (tn h) = 0 ∧ jsin s n c = -5 ∧ ¬ s 180 = 8 := by
  unfold jbs at h0
  split at h0
  · exact absurd h0 (by decide)
  · rename_i h1
    split at h0
    · exact absurd h0 (by decide)
    · rename_i h2
      split at h0
      · exact absurd h0 (by decide)
      · rename_i h3
        split at h0
        · exact absurd h0 (by decide)
        · rename_i h4
          simp only [Bool.not_eq_true', Bool.and_eq_false_iff, not_or, Bool.not_eq_false] at h1 h2
          simp only [not_or, Classical.not_not] at h3
          exact ⟨h1.1, h1.2, h2, h3.1, h3.2.1, h3.2.2.1, h3.2.2.2, h4⟩
