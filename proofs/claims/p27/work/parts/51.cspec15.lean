/-! the whole object of the class: 185 cells at x -/
def xb (x k : Nat) : Nat := if k < 3 then x + 13 + 21 * k else x + 15 + 21 * k
def xk (x a : Nat) : Nat := if a < x + 76 then (a - x - 13) / 21 else (a - x - 15) / 21
def xO (x : Nat) (kp : Int32) : List Value := [.ref (x + 1), .ref (x + 13), .ref (x + 34), .ref (x + 55), .int kp, .ref (x + 76), .ref (x + 162)]
def hO (x : Nat) (sz : Int32) : List Value := [.ref (x + 77), .int sz]
def xBr (G : bkG) (B : Nat) (M : bkM) : bkM := fun a =>
  if a = B then some (.inr (0, [.ref (B + 1), .ref (B + 6), .ref (B + 11)])) else if a = B + 1 then some (aQ G 2 4 (fun i => if i < 4 then some (B + 2 + i) else none)) else if a = B + 6 then some (aQ G 2 4 (fun i => if i < 4 then some (B + 7 + i) else none)) else if a = B + 11 then some (aI G 100 (fun c => nI (jnr c)))
  else if B + 2 ≤ a ∧ a < B + 6 then some (aI G 100 (cwd (a - B - 2))) else if B + 7 ≤ a ∧ a < B + 11 then some (aI G 100 (cds (a - B - 7))) else M a
def xW (G : bkG) (x : Nat) (S O : Nat → Nat → Int32) (od : Nat → Nat) (sz kp : Int32) (t : Nat → Int32) (ln pc pl : Int32) (pf : Nat → Nat → Int32) (M : bkM) : bkM := fun a =>
  if a < x ∨ x + 185 ≤ a then M a else if a = x then some (.inr (8, xO x kp)) else if a < x + 13 then xBr G (x + 1) M a else if a = x + 76 then some (.inr (1, hO x sz)) else if a = x + 77 then some (aQ G 6 4 (fun i => some (xb x (od i))))
  else if a < x + 162 then some (sE G (x + 1) (xb x (xk x a)) (S (xk x a)) (O (xk x a)) (a - xb x (xk x a))) else tW G (x + 162) t ln pc pl pf M a
theorem xb_rng {x k : Nat} (hk : k < 7) : x + 13 ≤ xb x k ∧ xb x k + 21 ≤ x + 162 ∧ (xb x k + 21 ≤ x + 76 ∨ x + 78 ≤ xb x k) := by
  unfold xb
  split <;> omega
theorem xk_at {x k j : Nat} (hk : k < 7) (hj : j < 21) : xk x (xb x k + j) = k := by
  unfold xb xk
  by_cases h : k < 3
  · rw [if_pos h, if_pos (by omega)]
    omega
  · rw [if_neg h, if_neg (by omega)]
    omega
theorem xb_sep {x k j : Nat} (hk : k < 7) (hj : j < 7) (h : k ≠ j) : xb x j + 21 ≤ xb x k ∨ xb x k + 21 ≤ xb x j := by
  unfold xb
  split <;> split <;> omega
section XW
variable {G : bkG} {x : Nat} {S O : Nat → Nat → Int32} {od od' : Nat → Nat} {sz kp sz' kp' : Int32} {t t' : Nat → Int32} {ln pc pl ln' pc' pl' : Int32} {pf pf' : Nat → Nat → Int32} {M : bkM} {k : Nat}
theorem xW_out {a : Nat} (h : a < x ∨ x + 185 ≤ a) : xW G x S O od sz kp t ln pc pl pf M a = M a := if_pos h
theorem xW_o : xW G x S O od sz kp t ln pc pl pf M x = some (.inr (8, xO x kp)) := by
  unfold xW
  rw [if_neg (by omega), if_pos rfl]
theorem xW_h : xW G x S O od sz kp t ln pc pl pf M (x + 76) = some (.inr (1, hO x sz)) := by
  unfold xW
  rw [if_neg (by omega), if_neg (by omega), if_neg (by omega), if_pos rfl]
theorem xW_ha : xW G x S O od sz kp t ln pc pl pf M (x + 77) = some (aQ G 6 4 (fun i => some (xb x (od i)))) := by
  unfold xW
  rw [if_neg (by omega), if_neg (by omega), if_neg (by omega), if_neg (by omega), if_pos rfl]
theorem xW_in (hk : k < 7) {j : Nat} (hj : j < 21) : xW G x S O od sz kp t ln pc pl pf M (xb x k + j) = some (sE G (x + 1) (xb x k) (S k) (O k) j) := by
  have h := xb_rng (x := x) hk
  unfold xW
  rw [if_neg (by omega), if_neg (by omega), if_neg (by omega), if_neg (by omega), if_neg (by omega), if_pos (by omega), xk_at hk hj, Nat.add_sub_cancel_left]
theorem xW_in0 (hk : k < 7) : xW G x S O od sz kp t ln pc pl pf M (xb x k) = some (.inr (6, sO (x + 1) (xb x k) (S k))) := xW_in hk (j := 0) (by omega)
theorem xW_bB : bB G (x + 1) (xW G x S O od sz kp t ln pc pl pf M) := by
  refine ⟨?_, ?_, fun i hi => ⟨?_, ?_⟩⟩
  · unfold xW
    rw [if_neg (by omega), if_neg (by omega), if_pos (by omega)]
    exact if_pos rfl
  · unfold xW xBr
    rw [if_neg (by omega), if_neg (by omega), if_pos (by omega), if_neg (by omega), if_neg (by omega), if_neg (by omega), if_pos rfl]
  · unfold xW xBr
    rw [if_neg (by omega), if_neg (by omega), if_pos (by omega), if_neg (by omega), if_neg (by omega), if_neg (by omega), if_neg (by omega), if_pos (by omega), show x + 1 + 2 + i - (x + 1) - 2 = i by omega]
  · unfold xW xBr
    rw [if_neg (by omega), if_neg (by omega), if_pos (by omega), if_neg (by omega), if_neg (by omega), if_neg (by omega), if_neg (by omega), if_neg (by omega), if_pos (by omega), show x + 1 + 7 + i - (x + 1) - 7 = i by omega]
theorem xW_blk (hk : k < 7) : xW G x S O od sz kp t ln pc pl pf M = sW G (x + 1) (xb x k) (S k) (O k) (xW G x S O od sz kp t ln pc pl pf M) := by
  funext a
  by_cases h : xb x k ≤ a ∧ a < xb x k + 21
  · obtain ⟨j, rfl⟩ : ∃ j, a = xb x k + j := ⟨a - xb x k, by omega⟩
    rw [sW_in (by omega), xW_in hk (by omega)]
  · exact (sW_out (by omega)).symm
theorem xW_set (hk : k < 7) {s go : Nat → Int32} : sW G (x + 1) (xb x k) s go (xW G x S O od sz kp t ln pc pl pf M) = xW G x (pfu S k s) (pfu O k go) od sz kp t ln pc pl pf M := by
  funext a
  by_cases h : xb x k ≤ a ∧ a < xb x k + 21
  · obtain ⟨j, rfl⟩ : ∃ j, a = xb x k + j := ⟨a - xb x k, by omega⟩
    rw [sW_in (by omega), xW_in hk (by omega), pfu_at, pfu_at]
  · rw [sW_out (by omega)]
    unfold xW
    by_cases c0 : a < x ∨ x + 185 ≤ a
    · rw [if_pos c0, if_pos c0]
    · rw [if_neg c0, if_neg c0]
      by_cases c1 : a = x
      · rw [if_pos c1, if_pos c1]
      · rw [if_neg c1, if_neg c1]
        by_cases c2 : a < x + 13
        · rw [if_pos c2, if_pos c2]
        · rw [if_neg c2, if_neg c2]
          by_cases c3 : a = x + 76
          · rw [if_pos c3, if_pos c3]
          · rw [if_neg c3, if_neg c3]
            by_cases c4 : a = x + 77
            · rw [if_pos c4, if_pos c4]
            · rw [if_neg c4, if_neg c4]
              by_cases c5 : a < x + 162
              · rw [if_pos c5, if_pos c5]
                have hne : ¬ xk x a = k := by
                  intro e
                  apply h
                  unfold xk at e
                  unfold xb
                  by_cases g : a < x + 76
                  · rw [if_pos g] at e
                    rw [if_pos (by omega)]
                    omega
                  · rw [if_neg g] at e
                    rw [if_neg (by omega)]
                    omega
                rw [show pfu S k s (xk x a) = S (xk x a) from if_neg hne, show pfu O k go (xk x a) = O (xk x a) from if_neg hne]
              · rw [if_neg c5, if_neg c5]
theorem tW_inr {T : Nat} {M2 : bkM} {a : Nat} (h : T ≤ a ∧ a < T + 23) : tW G T t ln pc pl pf M a = tW G T t ln pc pl pf M2 a := by
  unfold tW
  by_cases c0 : a = T
  · rw [if_pos c0, if_pos c0]
  · rw [if_neg c0, if_neg c0]
    by_cases c1 : a = T + 1
    · rw [if_pos c1, if_pos c1]
    · rw [if_neg c1, if_neg c1]
      by_cases c2 : a = T + 2
      · rw [if_pos c2, if_pos c2]
      · rw [if_neg c2, if_neg c2, if_pos (by omega), if_pos (by omega)]
theorem xW_tr {a : Nat} (h : x + 162 ≤ a ∧ a < x + 162 + 23) : xW G x S O od sz kp t ln pc pl pf M a = tW G (x + 162) t ln pc pl pf M a := by
  unfold xW
  rw [if_neg (by omega), if_neg (by omega), if_neg (by omega), if_neg (by omega), if_neg (by omega), if_neg (by omega)]
theorem xW_tx : xW G x S O od sz kp t ln pc pl pf M = tW G (x + 162) t ln pc pl pf (xW G x S O od sz kp t ln pc pl pf M) := by
  funext a
  by_cases h : x + 162 ≤ a ∧ a < x + 162 + 23
  · rw [xW_tr h]
    exact tW_inr h
  · exact (tW_out (by omega)).symm
theorem xW_nt {a : Nat} (h : a < x + 162 ∨ x + 185 ≤ a) : xW G x S O od sz kp t ln pc pl pf M a = xW G x S O od sz kp t' ln' pc' pl' pf' M a := by
  unfold xW
  by_cases c0 : a < x ∨ x + 185 ≤ a
  · rw [if_pos c0, if_pos c0]
  · rw [if_neg c0, if_neg c0]
    by_cases c1 : a = x
    · rw [if_pos c1, if_pos c1]
    · rw [if_neg c1, if_neg c1]
      by_cases c2 : a < x + 13
      · rw [if_pos c2, if_pos c2]
      · rw [if_neg c2, if_neg c2]
        by_cases c3 : a = x + 76
        · rw [if_pos c3, if_pos c3]
        · rw [if_neg c3, if_neg c3]
          by_cases c4 : a = x + 77
          · rw [if_pos c4, if_pos c4]
          · rw [if_neg c4, if_neg c4, if_pos (by omega), if_pos (by omega)]
theorem xW_setT : tW G (x + 162) t' ln' pc' pl' pf' (xW G x S O od sz kp t ln pc pl pf M) = xW G x S O od sz kp t' ln' pc' pl' pf' M := by
  funext a
  by_cases h : x + 162 ≤ a ∧ a < x + 162 + 23
  · rw [xW_tr h]
    exact tW_inr h
  · rw [tW_out (by omega)]
    exact xW_nt (by omega)
theorem xS_o : bku (xW G x S O od sz kp t ln pc pl pf M) x (.inr (8, xO x kp')) = xW G x S O od sz kp' t ln pc pl pf M := by
  funext a
  by_cases h : a = x
  · subst h; rw [bku_at, xW_o]
  · rw [bku_ne h]
    unfold xW
    rw [if_neg h, if_neg h]
theorem xS_h : bku (xW G x S O od sz kp t ln pc pl pf M) (x + 76) (.inr (1, hO x sz')) = xW G x S O od sz' kp t ln pc pl pf M := by
  funext a
  by_cases h : a = x + 76
  · subst h; rw [bku_at, xW_h]
  · rw [bku_ne h]
    unfold xW
    rw [if_neg h, if_neg h]
theorem xS_ha : bku (xW G x S O od sz kp t ln pc pl pf M) (x + 77) (aQ G 6 4 (fun i => some (xb x (od' i)))) = xW G x S O od' sz kp t ln pc pl pf M := by
  funext a
  by_cases h : a = x + 77
  · subst h; rw [bku_at, xW_ha]
  · rw [bku_ne h]
    unfold xW
    rw [if_neg h, if_neg h]
theorem xW_congr (hk : k < 7) {s' : Nat → Int32} (h : ∀ m, m < 183 → s' m = S k m) : xW G x S O od sz kp t ln pc pl pf M = xW G x (pfu S k s') O od sz kp t ln pc pl pf M := by
  have e := (xW_blk (G := G) (x := x) (S := S) (O := O) (od := od) (sz := sz) (kp := kp) (t := t) (ln := ln) (pc := pc) (pl := pl) (pf := pf) (M := M) hk).trans ((sW_congr h (fun _ _ => ⟨rfl, rfl⟩)).trans (xW_set hk))
  rw [pfu_self] at e
  exact e
/-! the blocks of the state and of the trial -/
theorem xW_b0 : xW G x S O od sz kp t ln pc pl pf M = sW G (x + 1) (x + 13) (S 0) (O 0) (xW G x S O od sz kp t ln pc pl pf M) := xW_blk (k := 0) (by decide)
theorem xW_b1 : xW G x S O od sz kp t ln pc pl pf M = sW G (x + 1) (x + 34) (S 1) (O 1) (xW G x S O od sz kp t ln pc pl pf M) := xW_blk (k := 1) (by decide)
theorem xW_s0 {s go : Nat → Int32} : sW G (x + 1) (x + 13) s go (xW G x S O od sz kp t ln pc pl pf M) = xW G x (pfu S 0 s) (pfu O 0 go) od sz kp t ln pc pl pf M := xW_set (k := 0) (by decide)
theorem xW_s1 {s go : Nat → Int32} : sW G (x + 1) (x + 34) s go (xW G x S O od sz kp t ln pc pl pf M) = xW G x (pfu S 1 s) (pfu O 1 go) od sz kp t ln pc pl pf M := xW_set (k := 1) (by decide)
theorem xW_0o : xW G x S O od sz kp t ln pc pl pf M (x + 13) = some (.inr (6, sO (x + 1) (x + 13) (S 0))) := by rw [xW_b0]; exact sW_o
theorem xW_0l : xW G x S O od sz kp t ln pc pl pf M (x + 13 + 2) = some (aQ G 3 4 (fun i => some (x + 13 + 5 + 2 * i))) := by rw [xW_b0]; exact sW_l
theorem xW_0k : xW G x S O od sz kp t ln pc pl pf M (x + 13 + 3) = some (aQ G 4 4 (fun i => some (x + 13 + 6 + 2 * i))) := by rw [xW_b0]; exact sW_k
theorem xW_0s : xW G x S O od sz kp t ln pc pl pf M (x + 13 + 4) = some (aQ G 5 8 (fun i => some (x + 13 + 13 + i))) := by rw [xW_b0]; exact sW_s
theorem xW_0lt {i : Nat} (hi : i < 4) : xW G x S O od sz kp t ln pc pl pf M (x + 13 + 5 + 2 * i) = some (.inr (3, ltF (x + 1) (S 0) i)) := by rw [xW_b0]; exact sW_lt hi
theorem xW_0kp {i : Nat} (hi : i < 4) : xW G x S O od sz kp t ln pc pl pf M (x + 13 + 6 + 2 * i) = some (.inr (2, kpF (S 0) i)) := by rw [xW_b0]; exact sW_kp hi
theorem xW_0sh {i : Nat} (hi : i < 8) : xW G x S O od sz kp t ln pc pl pf M (x + 13 + 13 + i) = some (.inr (5, shF (S 0) (O 0) i)) := by rw [xW_b0]; exact sW_sh hi
theorem xW_1o : xW G x S O od sz kp t ln pc pl pf M (x + 34) = some (.inr (6, sO (x + 1) (x + 34) (S 1))) := by rw [xW_b1]; exact sW_o
theorem xW_1l : xW G x S O od sz kp t ln pc pl pf M (x + 34 + 2) = some (aQ G 3 4 (fun i => some (x + 34 + 5 + 2 * i))) := by rw [xW_b1]; exact sW_l
theorem xW_1s : xW G x S O od sz kp t ln pc pl pf M (x + 34 + 4) = some (aQ G 5 8 (fun i => some (x + 34 + 13 + i))) := by rw [xW_b1]; exact sW_s
theorem xW_1lt {i : Nat} (hi : i < 4) : xW G x S O od sz kp t ln pc pl pf M (x + 34 + 5 + 2 * i) = some (.inr (3, ltF (x + 1) (S 1) i)) := by rw [xW_b1]; exact sW_lt hi
theorem xW_1sh {i : Nat} (hi : i < 8) : xW G x S O od sz kp t ln pc pl pf M (x + 34 + 13 + i) = some (.inr (5, shF (S 1) (O 1) i)) := by rw [xW_b1]; exact sW_sh hi
theorem xS_0 {a : Nat} {ev : va_E} {s go : Nat → Int32} (h : ∀ M2, bku (sW G (x + 1) (x + 13) (S 0) (O 0) M2) a ev = sW G (x + 1) (x + 13) s go M2) : bku (xW G x S O od sz kp t ln pc pl pf M) a ev = xW G x (pfu S 0 s) (pfu O 0 go) od sz kp t ln pc pl pf M := by
  rw [← xW_s0, ← h, ← xW_b0]
theorem xS_1 {a : Nat} {ev : va_E} {s go : Nat → Int32} (h : ∀ M2, bku (sW G (x + 1) (x + 34) (S 1) (O 1) M2) a ev = sW G (x + 1) (x + 34) s go M2) : bku (xW G x S O od sz kp t ln pc pl pf M) a ev = xW G x (pfu S 1 s) (pfu O 1 go) od sz kp t ln pc pl pf M := by
  rw [← xW_s1, ← h, ← xW_b1]
theorem xW_t : xW G x S O od sz kp t ln pc pl pf M (x + 162) = some (.inr (7, tO (x + 162) ln pc pl)) := by rw [xW_tx]; exact tW_o
theorem xW_tp : xW G x S O od sz kp t ln pc pl pf M (x + 162 + 2) = some (aQ G 7 20 (fun i => some (x + 162 + 3 + i))) := by rw [xW_tx]; exact tW_p
theorem xW_tq {i : Nat} (hi : i < 20) : xW G x S O od sz kp t ln pc pl pf M (x + 162 + 3 + i) = some (.inr (4, ptF (pf i))) := by rw [xW_tx]; exact tW_q hi
end XW
/-! contracts over a world told otherwise -/
theorem bkCi.w {G : bkG} {Z Z' : Nat → Prop} {y : MethodName} {code : ByteArray} {nL h mc ms : Nat} {ret : Option FieldType} {av : List Value} {M M2 : bkM} {post : Int32 → bkM → Prop} (e : M = M2) (c : bkCi G Z Z' y code nL ret h mc ms av M2 post) : bkCi G Z Z' y code nL ret h mc ms av M post := by rw [e]; exact c
theorem bkCv.w {G : bkG} {Z Z' : Nat → Prop} {y : MethodName} {code : ByteArray} {nL h mc ms : Nat} {av : List Value} {M M2 : bkM} {post : bkM → Prop} (e : M = M2) (c : bkCv G Z Z' y code nL h mc ms av M2 post) : bkCv G Z Z' y code nL h mc ms av M post := by rw [e]; exact c
/-! the history: which block stands at which place -/
def jro (od : Nat → Nat) (j : Nat) : Nat → Nat := fun i => if i + 1 < j then od (i + 1) else od i
def jrt (od : Nat → Nat) : Nat → Nat := fun i => if i = 3 then od 0 else jro od 4 i
theorem jro_1 (od : Nat → Nat) : jro od 1 = od := by funext i; exact if_neg (by omega)
theorem jro_at {od : Nat → Nat} {j : Nat} : jro od j j = od j := if_neg (by omega)
theorem jro_up {od : Nat → Nat} {x j : Nat} (hj : 1 ≤ j) : va_up (fun i => some (xb x (jro od j i))) (j - 1) (some (xb x (jro od j j))) = fun i => some (xb x (jro od (j + 1) i)) := by
  funext i
  unfold va_up
  by_cases h : i = j - 1
  · rw [if_pos h]
    subst h
    unfold jro
    rw [if_neg (by omega), if_pos (by omega), show j - 1 + 1 = j by omega]
  · rw [if_neg h]
    show some (xb x (jro od j i)) = some (xb x (jro od (j + 1) i))
    unfold jro
    by_cases g : i + 1 < j
    · rw [if_pos g, if_pos (by omega)]
    · rw [if_neg g, if_neg (by omega)]
theorem jrt_up {od : Nat → Nat} {x : Nat} : va_up (fun i => some (xb x (jro od 4 i))) 3 (some (xb x (od 0))) = fun i => some (xb x (jrt od i)) := by
  funext i
  unfold va_up jrt
  by_cases h : i = 3
  · rw [if_pos h, if_pos h]
  · rw [if_neg h, if_neg h]
/-- in order: four blocks of their own -/
def hOK (od : Nat → Nat) : Prop := ∀ i, i < 4 → 3 ≤ od i ∧ od i < 7 ∧ ∀ j, j < 4 → od i = od j → i = j
theorem hOK.rt {od : Nat → Nat} (h : hOK od) : hOK (jrt od) := by
  have e0 : jrt od 0 = od 1 := rfl
  have e1 : jrt od 1 = od 2 := rfl
  have e2 : jrt od 2 = od 3 := rfl
  have e3 : jrt od 3 = od 0 := rfl
  have h0 := h 0 (by omega)
  have h1 := h 1 (by omega)
  have h2 := h 2 (by omega)
  have h3 := h 3 (by omega)
  intro i hi
  refine ⟨?_, ?_, fun j hj e => ?_⟩
  · rcases (by omega : i = 0 ∨ i = 1 ∨ i = 2 ∨ i = 3) with z | z | z | z <;> subst z
    · rw [e0]; exact h1.1
    · rw [e1]; exact h2.1
    · rw [e2]; exact h3.1
    · rw [e3]; exact h0.1
  · rcases (by omega : i = 0 ∨ i = 1 ∨ i = 2 ∨ i = 3) with z | z | z | z <;> subst z
    · rw [e0]; exact h1.2.1
    · rw [e1]; exact h2.2.1
    · rw [e2]; exact h3.2.1
    · rw [e3]; exact h0.2.1
  · have hp : ∀ i, i < 4 → ∃ k, k < 4 ∧ jrt od i = od k ∧ (k = i + 1 ∨ (i = 3 ∧ k = 0)) := by
      intro i hi
      rcases (by omega : i = 0 ∨ i = 1 ∨ i = 2 ∨ i = 3) with z | z | z | z <;> subst z
      · exact ⟨1, by omega, e0, Or.inl rfl⟩
      · exact ⟨2, by omega, e1, Or.inl rfl⟩
      · exact ⟨3, by omega, e2, Or.inl rfl⟩
      · exact ⟨0, by omega, e3, Or.inr ⟨rfl, rfl⟩⟩
    obtain ⟨a, ha, ea, pa⟩ := hp i hi
    obtain ⟨b, hb, eb, pb⟩ := hp j hj
    rw [ea, eb] at e
    have := (h a ha).2.2 b hb e
    omega
def jod (od : Nat → Nat) (np : Nat) : Nat → Nat := if np = 4 then jrt od else od
theorem hOK.od {od : Nat → Nat} (h : hOK od) (np : Nat) : hOK (jod od np) := by
  unfold jod
  split
  · exact h.rt
  · exact h
/-- the block into which a record goes -/
def jbk (od : Nat → Nat) (np : Nat) : Nat := jod od np (jrn np - 1)
theorem jrn_rng {np : Nat} (h : np ≤ 4) : 1 ≤ jrn np ∧ jrn np ≤ 4 := by
  unfold jrn
  split <;> omega
