/-! hangs: the calls over a world whose trial is whatever it is -/
section CT
variable {G : bkG} {Z : Nat → Prop} {M : bkM} {x : Nat} {S O : Nat → Nat → Int32} {od : Nat → Nat} {sz kp : Int32} {t : Nat → Int32} {ln pc pl : Int32} {pf : Nat → Nat → Int32} {n : Nat} {s1 g1 : Nat → Int32}
theorem ct_cellOf (hk : cOK (S 0) n (O 0)) (c w : Int32) : bkCi G Z Z yX8_cellOf cX8_cellOf 3 (some .int) 5 0 0 [.ref x, .int c, .int w] (xW G x (pfu S 1 s1) (pfu O 1 g1) od sz kp t ln pc pl pf M) (fun v M' => v = jcellOf (S 0) n c w ∧ M' = (xW G x (pfu S 1 s1) (pfu O 1 g1) od sz kp t ln pc pl pf M)) := c_X8_cellOf (S := pfu S 1 s1) (O := pfu O 1 g1) hk c w
theorem ct_lightOf (hk : cOK (S 0) n (O 0)) (l w : Int32) : bkCi G Z Z yX8_lightOf cX8_lightOf 3 (some .int) 5 0 0 [.ref x, .int l, .int w] (xW G x (pfu S 1 s1) (pfu O 1 g1) od sz kp t ln pc pl pf M) (fun v M' => v = jlightOf (S 0) l w ∧ M' = (xW G x (pfu S 1 s1) (pfu O 1 g1) od sz kp t ln pc pl pf M)) := c_X8_lightOf (S := pfu S 1 s1) (O := pfu O 1 g1) hk l w
theorem ct_keeperOf (hk : cOK (S 0) n (O 0)) (l w : Int32) : bkCi G Z Z yX8_keeperOf cX8_keeperOf 3 (some .int) 5 0 0 [.ref x, .int l, .int w] (xW G x (pfu S 1 s1) (pfu O 1 g1) od sz kp t ln pc pl pf M) (fun v M' => v = jkeeperOf (S 0) l w ∧ M' = (xW G x (pfu S 1 s1) (pfu O 1 g1) od sz kp t ln pc pl pf M)) := c_X8_keeperOf (S := pfu S 1 s1) (O := pfu O 1 g1) hk l w
theorem ct_shipOf (hk : cOK (S 0) n (O 0)) (k w : Int32) : bkCi G Z Z yX8_shipOf cX8_shipOf 3 (some .int) 5 0 0 [.ref x, .int k, .int w] (xW G x (pfu S 1 s1) (pfu O 1 g1) od sz kp t ln pc pl pf M) (fun v M' => v = jshipOf (S 0) n k w ∧ M' = (xW G x (pfu S 1 s1) (pfu O 1 g1) od sz kp t ln pc pl pf M)) := c_X8_shipOf (S := pfu S 1 s1) (O := pfu O 1 g1) hk k w
theorem ct_why (hk : cOK (S 0) n (O 0)) (l c : Int32) : bkCi G Z Z yX8_why cX8_why 3 (some .int) 5 0 0 [.ref x, .int l, .int c] (xW G x (pfu S 1 s1) (pfu O 1 g1) od sz kp t ln pc pl pf M) (fun v M' => v = jwhy (S 0) l c ∧ M' = (xW G x (pfu S 1 s1) (pfu O 1 g1) od sz kp t ln pc pl pf M)) := c_X8_why (S := pfu S 1 s1) (O := pfu O 1 g1) hk l c
theorem ct_count (hk : cOK (S 0) n (O 0)) (w : Int32) : bkCi G Z Z yX8_count cX8_count 2 (some .int) 5 0 0 [.ref x, .int w] (xW G x (pfu S 1 s1) (pfu O 1 g1) od sz kp t ln pc pl pf M) (fun v M' => v = jcount (S 0) n sz ln w ∧ M' = (xW G x (pfu S 1 s1) (pfu O 1 g1) od sz kp t ln pc pl pf M)) := c_X8_count (S := pfu S 1 s1) (O := pfu O 1 g1) hk w
theorem ct_share (hk : cOK (S 0) n (O 0)) (c : Int32) : bkCf G Z Z yX8_share cX8_share 4 5 0 0 [.ref x, .int c] (xW G x (pfu S 1 s1) (pfu O 1 g1) od sz kp t ln pc pl pf M) (fun v M' => v = jshare (S 0) c ∧ M' = (xW G x (pfu S 1 s1) (pfu O 1 g1) od sz kp t ln pc pl pf M)) := c_X8_share (S := pfu S 1 s1) (O := pfu O 1 g1) hk c
theorem ct_litIn (hk : cOK (S 0) n (O 0)) (c : Int32) : bkCi G Z Z yX8_litIn cX8_litIn 3 (some .int) 5 0 0 [.ref x, .int c] (xW G x (pfu S 1 s1) (pfu O 1 g1) od sz kp t ln pc pl pf M) (fun v M' => v = jlitIn (S 0) c ∧ M' = (xW G x (pfu S 1 s1) (pfu O 1 g1) od sz kp t ln pc pl pf M)) := c_X8_litIn (S := pfu S 1 s1) (O := pfu O 1 g1) hk c
theorem ct_ifPassed (hk : cOK (S 0) n (O 0)) (c : Int32) : bkCi G Z Z yX8_ifPassed cX8_ifPassed 4 (some .int) 5 0 0 [.ref x, .int c] (xW G x (pfu S 1 s1) (pfu O 1 g1) od sz kp t ln pc pl pf M) (fun v M' => v = jifp (S 0) n c ∧ ∃ s2 g2, M' = (xW G x (pfu S 1 s2) (pfu O 1 g2) od sz kp t ln pc pl pf M)) := by
  have h := c_X8_ifPassed (G := G) (Z := Z) (M := M) (x := x) (S := pfu S 1 s1) (O := pfu O 1 g1) (od := od) (sz := sz) (kp := kp) (t := t) (ln := ln) (pc := pc) (pl := pl) (pf := pf) (n := n) hk c
  have e : ∀ s2 : Nat → Int32, pfu (pfu S 1 s1) 1 s2 = pfu S 1 s2 := fun s2 => pfu_pfu
  have e2 : ∀ g2 : Nat → Int32, pfu (pfu O 1 g1) 1 g2 = pfu O 1 g2 := fun g2 => pfu_pfu
  simp only [e, e2] at h
  exact h
theorem ct_bestCard (hk : cOK (S 0) n (O 0)) (c : Int32) : bkCi G Z Z yX8_bestCard cX8_bestCard 6 (some .int) 6 0 0 [.ref x, .int c] (xW G x (pfu S 1 s1) (pfu O 1 g1) od sz kp t ln pc pl pf M) (fun v M' => v = jbest (S 0) n c ∧ ∃ s2 g2, M' = (xW G x (pfu S 1 s2) (pfu O 1 g2) od sz kp t ln pc pl pf M)) := by
  have h := c_X8_bestCard (G := G) (Z := Z) (M := M) (x := x) (S := pfu S 1 s1) (O := pfu O 1 g1) (od := od) (sz := sz) (kp := kp) (t := t) (ln := ln) (pc := pc) (pl := pl) (pf := pf) (n := n) hk c
  have e : ∀ s2 : Nat → Int32, pfu (pfu S 1 s1) 1 s2 = pfu S 1 s2 := fun s2 => pfu_pfu
  have e2 : ∀ g2 : Nat → Int32, pfu (pfu O 1 g1) 1 g2 = pfu O 1 g2 := fun g2 => pfu_pfu
  simp only [e, e2] at h
  exact h
theorem xT_arr {a : Nat} {e : va_E} (ha : x + 185 ≤ a) : xW G x S O od sz kp t ln pc pl pf (bku M a e) a = some e := (xW_out (Or.inr ha)).trans bku_at
theorem xT_st {a : Nat} {e e' : va_E} (ha : x + 185 ≤ a) : bku (xW G x S O od sz kp t ln pc pl pf (bku M a e)) a e' = xW G x S O od sz kp t ln pc pl pf (bku M a e') := (ux_xW (Or.inr ha)).trans (congrArg (xW G x S O od sz kp t ln pc pl pf) bku_bku)
end CT
theorem jnw_f {s : Nat → Int32} {j : Nat} (h : jst s 2 j = false) : nI (jnw s j) + 0 = nI (jnw s (j + 1)) := by
  show _ = nI (jnw s j + (if jst s 2 j = true then jwn s j else 0))
  rw [h, Int32.add_zero]
  rfl
theorem jnw_t {s : Nat → Int32} {j : Nat} (h : jst s 2 j = true) : nI (jnw s j) + nI (jwn s j) = nI (jnw s (j + 1)) := by
  show _ = nI (jnw s j + (if jst s 2 j = true then jwn s j else 0))
  rw [if_pos h, nI_add]
theorem cn_0 {s : Nat → Int32} {n : Nat} {np len : Int32} : jcount s n np len 0 = s 181 := if_pos rfl
theorem cn_1 {s : Nat → Int32} {n : Nat} {np len : Int32} : jcount s n np len 1 = jsm s 100 := (if_neg (by decide)).trans (if_pos rfl)
theorem cn_2 {s : Nat → Int32} {n : Nat} {np len : Int32} : jcount s n np len 2 = s 180 := (if_neg (by decide)).trans ((if_neg (by decide)).trans (if_pos rfl))
theorem cn_3 {s : Nat → Int32} {n : Nat} {np len : Int32} (hn : n ≤ 8) : jcount s n np len 3 = nI (jct (jst s 0) n) := (if_neg (by decide)).trans ((if_neg (by decide)).trans ((if_neg (by decide)).trans ((if_pos rfl).trans (congrArg nI (jpc8_jset _ hn)))))
theorem cn_4 {s : Nat → Int32} {n : Nat} {np len : Int32} (hn : n ≤ 8) : jcount s n np len 4 = nI (jct (jst s 1) n) := (if_neg (by decide)).trans ((if_neg (by decide)).trans ((if_neg (by decide)).trans ((if_neg (by decide)).trans ((if_pos rfl).trans (congrArg nI (jpc8_jset _ hn))))))
theorem cn_5 {s : Nat → Int32} {n : Nat} {np len : Int32} (hn : n ≤ 8) : jcount s n np len 5 = nI (jct (jst s 2) n) := (if_neg (by decide)).trans ((if_neg (by decide)).trans ((if_neg (by decide)).trans ((if_neg (by decide)).trans ((if_neg (by decide)).trans ((if_pos rfl).trans (congrArg nI (jpc8_jset _ hn)))))))
theorem cn_6 {s : Nat → Int32} {n : Nat} {np len : Int32} : jcount s n np len 6 = nI (jlitc s true) := (if_neg (by decide)).trans ((if_neg (by decide)).trans ((if_neg (by decide)).trans ((if_neg (by decide)).trans ((if_neg (by decide)).trans ((if_neg (by decide)).trans (if_pos rfl))))))
theorem cn_7 {s : Nat → Int32} {n : Nat} {np len : Int32} : jcount s n np len 7 = nI (jlitc s false) := (if_neg (by decide)).trans ((if_neg (by decide)).trans ((if_neg (by decide)).trans ((if_neg (by decide)).trans ((if_neg (by decide)).trans ((if_neg (by decide)).trans ((if_neg (by decide)).trans (if_pos rfl)))))))
theorem cn_8 {s : Nat → Int32} {n : Nat} {np len : Int32} : jcount s n np len 8 = jsm (fun l => s (120 + 5 * l + 1)) 4 := (if_neg (by decide)).trans ((if_neg (by decide)).trans ((if_neg (by decide)).trans ((if_neg (by decide)).trans ((if_neg (by decide)).trans ((if_neg (by decide)).trans ((if_neg (by decide)).trans ((if_neg (by decide)).trans (if_pos rfl))))))))
theorem cn_9 {s : Nat → Int32} {n : Nat} {np len : Int32} : jcount s n np len 9 = jsm (fun l => s (120 + 5 * l + 4)) 4 := (if_neg (by decide)).trans ((if_neg (by decide)).trans ((if_neg (by decide)).trans ((if_neg (by decide)).trans ((if_neg (by decide)).trans ((if_neg (by decide)).trans ((if_neg (by decide)).trans ((if_neg (by decide)).trans ((if_neg (by decide)).trans (if_pos rfl)))))))))
theorem cn_10 {s : Nat → Int32} {n : Nat} {np len : Int32} : jcount s n np len 10 = jworth s (jst s 1) n := (if_neg (by decide)).trans ((if_neg (by decide)).trans ((if_neg (by decide)).trans ((if_neg (by decide)).trans ((if_neg (by decide)).trans ((if_neg (by decide)).trans ((if_neg (by decide)).trans ((if_neg (by decide)).trans ((if_neg (by decide)).trans ((if_neg (by decide)).trans (if_pos rfl))))))))))
theorem cn_11 {s : Nat → Int32} {n : Nat} {np len : Int32} : jcount s n np len 11 = np := (if_neg (by decide)).trans ((if_neg (by decide)).trans ((if_neg (by decide)).trans ((if_neg (by decide)).trans ((if_neg (by decide)).trans ((if_neg (by decide)).trans ((if_neg (by decide)).trans ((if_neg (by decide)).trans ((if_neg (by decide)).trans ((if_neg (by decide)).trans ((if_neg (by decide)).trans (if_pos rfl)))))))))))
theorem hf_lit {s : Nat → Int32} : jct (fun c => decide (¬ nI (jlz s c) ≤ 0)) 100 = jlitc s false ∧ jct (fun c => decide (s c = 1) && decide (¬ nI (jlz s c) ≤ 0)) 100 = jlitc s true := by
  have e : ∀ c, decide (¬ nI (jlz s c) ≤ 0) = decide (¬ jlon s c = 0) := fun c => by
    rw [jlon_z]
    have h16 := jlz_16 s c
    rcases Nat.eq_zero_or_pos (jlz s c) with z | z
    · rw [z]; decide
    · have h1 : ¬ nI (jlz s c) ≤ 0 := nI_nle z (by omega)
      have h2 : ¬ nI (jlz s c) = 0 := nI_ne0 z (by omega)
      rw [decide_eq_true h1, decide_eq_true h2]
  constructor
  · unfold jlitc
    exact jct_cong (p := fun c => decide (¬ nI (jlz s c) ≤ 0)) fun c _ => by
      show decide (¬ nI (jlz s c) ≤ 0) = (decide (¬ jlon s c = 0) && (!false || decide (s c = 1)))
      rw [e c]; simp
  · unfold jlitc
    exact jct_cong (p := fun c => decide (s c = 1) && decide (¬ nI (jlz s c) ≤ 0)) fun c _ => by
      show (decide (s c = 1) && decide (¬ nI (jlz s c) ≤ 0)) = (decide (¬ jlon s c = 0) && (!true || decide (s c = 1)))
      rw [e c, Bool.and_comm]; simp
