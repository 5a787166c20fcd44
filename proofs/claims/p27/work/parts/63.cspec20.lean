/-! fields of the newly made -/
abbrev dfX0 : List Value := [.null, .null, .null]
theorem dfX0_ok : ∀ j, j < 3 → defaultValue (tyX0 j) = vp_V dfX0 j := by decide +kernel
abbrev dfX1 : List Value := [.null, .int 0]
theorem dfX1_ok : ∀ j, j < 2 → defaultValue (tyX1 j) = vp_V dfX1 j := by decide +kernel
abbrev dfX2 : List Value := [.int 0, .int 0, .int 0, .int 0, .int 0]
theorem dfX2_ok : ∀ j, j < 5 → defaultValue (tyX2 j) = vp_V dfX2 j := by decide +kernel
abbrev dfX3 : List Value := [.int 0, .null, .null, .int 0, .int 0, .int 0, .int 0, .int 0]
theorem dfX3_ok : ∀ j, j < 8 → defaultValue (tyX3 j) = vp_V dfX3 j := by decide +kernel
abbrev dfX4 : List Value := [.int 0, .int 0, .int 0, .int 0, .int 0]
theorem dfX4_ok : ∀ j, j < 5 → defaultValue (tyX4 j) = vp_V dfX4 j := by decide +kernel
abbrev dfX5 : List Value := [.int 0, .int 0, .int 0, .int 0, .int 0, .int 0]
theorem dfX5_ok : ∀ j, j < 6 → defaultValue (tyX5 j) = vp_V dfX5 j := by decide +kernel
abbrev dfX6 : List Value := [.null, .null, .null, .null, .null, .int 0, .int 0, .int 0]
theorem dfX6_ok : ∀ j, j < 8 → defaultValue (tyX6 j) = vp_V dfX6 j := by decide +kernel
abbrev dfX7 : List Value := [.null, .int 0, .null, .int 0, .int 0]
theorem dfX7_ok : ∀ j, j < 5 → defaultValue (tyX7 j) = vp_V dfX7 j := by decide +kernel
abbrev dfX8 : List Value := [.null, .null, .null, .null, .int 0, .null, .null]
theorem dfX8_ok : ∀ j, j < 7 → defaultValue (tyX8 j) = vp_V dfX8 j := by decide +kernel
section BVZ
variable {E : bkEnv} {G : bkG} {Z Z2 : Nat → Prop} {k n k2 n2 : Nat} {M : bkM} {pc : Nat} {L : List (Option Value)} {st : List Value}
theorem bkV.z (h : ∀ z, Z z → Z2 z) (kk : bkV E G Z2 k n M pc L st) : bkV E G Z k n M pc L st := fun H locs ls h1 h2 h3 h4 => kk H locs ls h1 (h _ h2) h3 h4
theorem bkV.kn (h1 : k = k2) (h2 : n = n2) (kk : bkV E G Z k2 n2 M pc L st) : bkV E G Z k n M pc L st := by subst h1; subst h2; exact kk
theorem bkV.ext3 {a N t : Nat} {f g : Nat → Option Nat} (hm : M a = some (aQ G t N f)) (h : ∀ j, j < N → f j = g j) (kk : bkV E G Z k n (bku M a (aQ G t N g)) pc L st) : bkV E G Z k n M pc L st := by
  intro H locs ls h1 h2 h3 h4
  refine kk H locs ls (h1.put hm ?_ rfl (fun _ _ => rfl)) h2 h3 h4
  have := (h1.1 a _ hm).1
  show H[a]? = some (vp_cell (G.2.1 t) (N, .inr (.inr (.inr (.inr g)))))
  have e : vp_cell (G.2.1 t) (N, .inr (.inr (.inr (.inr g)))) = vp_cell (G.2.1 t) (N, .inr (.inr (.inr (.inr f)))) := by
    rw [vp_cell_q, vp_cell_q]
    exact bk_arrV fun j hj => by rw [h j hj]
  rw [e]
  exact this
theorem bk_rm {R : Room} {h' nL' mc ms : Nat} (h1 : Nat.ble (h' + 1) R.frames = true) (h2 : Nat.ble (8 + (nL' + 11) + 39 * h') R.locals = true) (h3 : k + mc ≤ R.cells) (h4 : n + ms ≤ R.slots) : (Nat.ble (h' + 1) R.frames && Nat.ble (8 + (nL' + 11) + 39 * h') R.locals && Nat.ble (k + mc) R.cells && Nat.ble (n + ms) R.slots) = true := by
  rw [h1, h2, Nat.ble_eq_true_of_le h3, Nat.ble_eq_true_of_le h4]
  rfl
end BVZ
/-! blocks of cells -/
def vW (b n : Nat) (c : Nat → va_E) (M : bkM) : bkM := fun x => if b ≤ x ∧ x < b + n then some (c (x - b)) else M x
section VW
variable {b n j : Nat} {c c' : Nat → va_E} {M : bkM} {e : va_E}
theorem vW_0 : vW b 0 c M = M := by
  funext x
  exact if_neg (by omega)
theorem vW_at (h : j < n) : vW b n c M (b + j) = some (c j) := by
  unfold vW
  rw [if_pos (by omega), Nat.add_sub_cancel_left]
theorem vW_out {x : Nat} (h : x < b ∨ b + n ≤ x) : vW b n c M x = M x := if_neg (by omega)
theorem vW_add (h : c n = e) : bku (vW b n c M) (b + n) e = vW b (n + 1) c M := by
  funext x
  by_cases hx : x = b + n
  · subst hx
    rw [bku_at, vW_at (by omega), h]
  · rw [bku_ne hx]
    unfold vW
    by_cases h1 : b ≤ x ∧ x < b + n
    · rw [if_pos h1, if_pos (by omega)]
    · rw [if_neg h1, if_neg (by omega)]
theorem vW_put (hj : j < n) (h : ∀ i, i < n → c' i = if i = j then e else c i) : bku (vW b n c M) (b + j) e = vW b n c' M := by
  funext x
  by_cases hx : x = b + j
  · subst hx
    rw [bku_at, vW_at hj, h j hj, if_pos rfl]
  · rw [bku_ne hx]
    unfold vW
    by_cases h1 : b ≤ x ∧ x < b + n
    · rw [if_pos h1, if_pos h1, h (x - b) (by omega), if_neg (by omega)]
    · rw [if_neg h1, if_neg h1]
theorem vW_cg (h : ∀ i, i < n → c i = c' i) : vW b n c M = vW b n c' M := by
  funext x
  unfold vW
  by_cases h1 : b ≤ x ∧ x < b + n
  · rw [if_pos h1, if_pos h1, h (x - b) (by omega)]
  · rw [if_neg h1, if_neg h1]
end VW
/-- an array of references that fills -/
def jfl (N j : Nat) (f : Nat → Nat) : Nat → Option Nat := fun i => if i < j ∨ N ≤ i then some (f i) else none
theorem jfl_0 {N i : Nat} {f : Nat → Nat} (h : i < N) : (none : Option Nat) = jfl N 0 f i := (if_neg (by omega)).symm
theorem jfl_up {N j : Nat} {f : Nat → Nat} {a : Nat} (h : a = f j) : va_up (jfl N j f) j (some a) = jfl N (j + 1) f := by
  subst h
  funext i
  unfold va_up jfl
  by_cases e : i = j
  · rw [if_pos e, if_pos (by omega), e]
  · rw [if_neg e]
    by_cases g : i < j ∨ N ≤ i
    · rw [if_pos g, if_pos (by omega)]
    · rw [if_neg g, if_neg (by omega)]
theorem jfl_N {N : Nat} {f : Nat → Nat} : jfl N N f = fun i => some (f i) := by
  funext i
  exact if_pos (by omega)
/-- the bearings' own three -/
def bI (G : bkG) (B : Nat) (M : bkM) : Prop := M B = some (.inr (0, [.ref (B + 1), .ref (B + 6), .ref (B + 11)])) ∧ M (B + 1) = some (aQ G 2 4 (fun i => if i < 4 then some (B + 2 + i) else none)) ∧ M (B + 6) = some (aQ G 2 4 (fun i => if i < 4 then some (B + 7 + i) else none))
theorem bI.ku {G : bkG} {B a : Nat} {M : bkM} {e : va_E} (h : bI G B M) (ha : B + 12 ≤ a) : bI G B (bku M a e) := ⟨(bku_ne (by omega)).trans h.1, (bku_ne (by omega)).trans h.2.1, (bku_ne (by omega)).trans h.2.2⟩
theorem bI.vW {G : bkG} {B b n : Nat} {c : Nat → va_E} {M : bkM} (h : bI G B M) (ha : B + 12 ≤ b) : bI G B (vW b n c M) := ⟨(vW_out (by omega)).trans h.1, (vW_out (by omega)).trans h.2.1, (vW_out (by omega)).trans h.2.2⟩
theorem jS0_lt {B i : Nat} (hi : i < 4) : ltF B jS0 i = [.int (bkLC i), .ref (B + 2 + i), .ref (B + 7 + i), .int (nI i), .int 1, .int 5, .int 0, .int 0] := by
  match i, hi with
  | 0, _ => rfl
  | 1, _ => rfl
  | 2, _ => rfl
  | 3, _ => rfl
  | i + 4, h => exact absurd h (by omega)
theorem jS0_kp {i : Nat} (hi : i < 4) : kpF jS0 i = [.int 0, .int 0, .int 3, .int 0, .int 0] := by
  match i, hi with
  | 0, _ => rfl
  | 1, _ => rfl
  | 2, _ => rfl
  | 3, _ => rfl
  | i + 4, h => exact absurd h (by omega)
theorem jS0_z {m : Nat} (h : m < 100 ∨ 140 ≤ m) (h2 : m ≠ 182) : jS0 m = 0 := by
  unfold jS0 ji0 ji0 ji0 ji0 ji0
  rw [upd_n h2, upd_n (by omega), upd_n (by omega), upd_n (by omega), upd_n (by omega), upd_n (by omega), upd_n (by omega), upd_n (by omega), upd_n (by omega), upd_n (by omega), upd_n (by omega), upd_n (by omega), upd_n (by omega), upd_n (by omega), upd_n (by omega), upd_n (by omega), upd_n (by omega)]
/-- no ship has come, none has gone -/
def jg0 : Nat → Int32 := fun i => if i < 8 then 0 else -1
theorem cgo_0 : cgo jS0 0 jg0 := fun i hi => (if_neg (by omega)).trans (if_neg (by omega)).symm
theorem jS0_sh {i : Nat} (hi : i < 8) : shF jS0 jg0 i = [.int 0, .int 0, .int 0, .int (-1), .int 0, .int 0] := by
  unfold shF
  rw [jS0_z (by omega) (by omega), jS0_z (by omega) (by omega), jS0_z (by omega) (by omega), jS0_z (by omega) (by omega), show jg0 (8 + i) = -1 from if_neg (by omega), show jg0 i = 0 from if_pos hi]
theorem jset_none {p : Nat → Bool} : ∀ n, (∀ k, k < n → p k = false) → jset p n = 0
  | 0, _ => rfl
  | n + 1, h => by
    show jset p n + (if p n then 2 ^ n else 0) = 0
    rw [jset_none n (fun k hk => h k (by omega)), h n (by omega)]
    rfl
theorem jrow_0 : jrow jS0 = jz := by
  funext y
  unfold jrow
  by_cases hy : y < 10
  · rw [if_pos hy, jset_none 10 (fun k hk => by unfold jrp2; rw [jS0_z (by omega) (by omega)]; decide)]
    rfl
  · rw [if_neg hy]
    rfl
/-- a State that is being made -/
def sC (G : bkG) (B b : Nat) (A K S : Nat → Option Nat) (i : Nat) : va_E := if i = 2 then aQ G 3 4 A else if i = 3 then aQ G 4 4 K else if i = 4 then aQ G 5 8 S else sE G B b jS0 jg0 i
theorem sC_W {G : bkG} {B b : Nat} {M : bkM} : vW b 21 (sC G B b (jfl 4 4 (fun i => b + 5 + 2 * i)) (jfl 4 4 (fun i => b + 6 + 2 * i)) (jfl 8 8 (fun i => b + 13 + i))) M = sW G B b jS0 jg0 M := by
  refine (vW_cg (fun i hi => ?_)).trans (show vW b 21 (sE G B b jS0 jg0) M = sW G B b jS0 jg0 M from rfl)
  unfold sC
  rw [jfl_N, jfl_N, jfl_N]
  by_cases h2 : i = 2
  · subst h2; rfl
  · rw [if_neg h2]
    by_cases h3 : i = 3
    · subst h3; rfl
    · rw [if_neg h3]
      by_cases h4 : i = 4
      · subst h4; rfl
      · rw [if_neg h4]
theorem sC_lt {G : bkG} {B b j : Nat} {A K S : Nat → Option Nat} (hj : j < 4) : sC G B b A K S (5 + 2 * j) = .inr (3, ltF B jS0 j) := by
  unfold sC
  rw [if_neg (by omega), if_neg (by omega), if_neg (by omega), sE_lt hj]
theorem sC_kp {G : bkG} {B b j : Nat} {A K S : Nat → Option Nat} (hj : j < 4) : sC G B b A K S (6 + 2 * j) = .inr (2, kpF jS0 j) := by
  unfold sC
  rw [if_neg (by omega), if_neg (by omega), if_neg (by omega), sE_kp hj]
theorem sC_sh {G : bkG} {B b j : Nat} {A K S : Nat → Option Nat} : sC G B b A K S (13 + j) = .inr (5, shF jS0 jg0 j) := by
  unfold sC
  rw [if_neg (by omega), if_neg (by omega), if_neg (by omega), sE_sh]
theorem sC_2 {G : bkG} {B b n : Nat} {A A' K S : Nat → Option Nat} {M : bkM} (hn : 2 < n) : bku (vW b n (sC G B b A K S) M) (b + 2) (aQ G 3 4 A') = vW b n (sC G B b A' K S) M := vW_put hn (fun i _ => by
  unfold sC
  by_cases h : i = 2
  · rw [if_pos h, if_pos h]
  · rw [if_neg h, if_neg h, if_neg h])
theorem sC_3 {G : bkG} {B b n : Nat} {A K K' S : Nat → Option Nat} {M : bkM} (hn : 3 < n) : bku (vW b n (sC G B b A K S) M) (b + 3) (aQ G 4 4 K') = vW b n (sC G B b A K' S) M := vW_put hn (fun i _ => by
  unfold sC
  by_cases h : i = 3
  · rw [if_pos h, if_neg (by omega), if_pos h]
  · rw [if_neg h, if_neg h, if_neg h])
theorem sC_4 {G : bkG} {B b n : Nat} {A K S S' : Nat → Option Nat} {M : bkM} (hn : 4 < n) : bku (vW b n (sC G B b A K S) M) (b + 4) (aQ G 5 8 S') = vW b n (sC G B b A K S') M := vW_put hn (fun i _ => by
  unfold sC
  by_cases h : i = 4
  · rw [if_pos h, if_neg (by omega), if_neg (by omega), if_pos h]
  · rw [if_neg h, if_neg h, if_neg h])
/-- the first cells of an object, one by one -/
def vL (b : Nat) (l : List va_E) (M : bkM) : bkM := vW b l.length (fun i => l.getD i (.inr (0, []))) M
theorem vL_1 {b : Nat} {e : va_E} {M : bkM} : bku M b e = vL b [e] M := by
  have h := vW_add (b := b) (n := 0) (c := fun i => [e].getD i (.inr (0, []))) (M := M) (e := e) rfl
  rw [vW_0] at h
  exact h
theorem vL_add {b : Nat} {l : List va_E} {e : va_E} {M : bkM} : bku (vL b l M) (b + l.length) e = vL b (l ++ [e]) M := by
  unfold vL
  have h1 : vW b l.length (fun i => l.getD i (.inr (0, []))) M = vW b l.length (fun i => (l ++ [e]).getD i (.inr (0, []))) M := vW_cg (fun i hi => by
    rw [List.getD_eq_getElem?_getD, List.getD_eq_getElem?_getD, List.getElem?_append_left hi])
  rw [h1, vW_add (by rw [List.getD_eq_getElem?_getD, List.getElem?_append_right (Nat.le_refl _), Nat.sub_self]; rfl), List.length_append]
  rfl
theorem vL_put {b : Nat} {e0 e : va_E} {l : List va_E} {M : bkM} : bku (vL b (e0 :: l) M) b e = vL b (e :: l) M := by
  have h := vW_put (b := b) (n := (e0 :: l).length) (j := 0) (c := fun i => (e0 :: l).getD i (.inr (0, []))) (c' := fun i => (e :: l).getD i (.inr (0, []))) (M := M) (e := e) (Nat.zero_lt_succ _) (fun i _ => by
    cases i with
    | zero => rfl
    | succ i => rfl)
  exact h
theorem vL_h {b : Nat} {e0 : va_E} {l : List va_E} {M : bkM} : vL b (e0 :: l) M b = some e0 := vW_at (j := 0) (Nat.zero_lt_succ _)
