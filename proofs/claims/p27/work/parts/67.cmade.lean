/-! history, text and the whole object, made -/
def hV (G : bkG) (B hb j : Nat) (A : Nat → Option Nat) (M : bkM) : bkM := fun a => if a = hb then some (.inr (1, [.ref (hb + 1), .int 0])) else if a = hb + 1 then some (aQ G 6 4 A) else if hb + 2 ≤ a ∧ a < hb + (2 + 21 * j) then some (sE G B (hb + (2 + 21 * ((a - hb - 2) / 21))) jS0 jg0 ((a - hb - 2) % 21)) else M a
section HV
variable {G : bkG} {B hb j : Nat} {A A' : Nat → Option Nat} {M : bkM}
theorem hV_h : hV G B hb j A M hb = some (.inr (1, [.ref (hb + 1), .int 0])) := if_pos rfl
theorem hV_a : hV G B hb j A M (hb + 1) = some (aQ G 6 4 A) := by
  unfold hV
  rw [if_neg (by omega), if_pos rfl]
theorem hV_out {a : Nat} (h : a < hb ∨ hb + (2 + 21 * j) ≤ a) : hV G B hb j A M a = M a := by
  unfold hV
  rw [if_neg (by omega), if_neg (by omega), if_neg (by omega)]
theorem hV_in {i q : Nat} (hi : i < j) (hq : q < 21) : hV G B hb j A M (hb + (2 + 21 * i) + q) = some (sE G B (hb + (2 + 21 * i)) jS0 jg0 q) := by
  unfold hV
  rw [if_neg (by omega), if_neg (by omega), if_pos (by omega), show (hb + (2 + 21 * i) + q - hb - 2) / 21 = i by omega, show (hb + (2 + 21 * i) + q - hb - 2) % 21 = q by omega]
theorem hV_o {i : Nat} (hi : i < j) : hV G B hb j A M (hb + (2 + 21 * i)) = some (.inr (6, sO B (hb + (2 + 21 * i)) jS0)) := hV_in hi (q := 0) (by omega)
theorem hV_0 : vL hb [.inr (1, [.ref (hb + 1), .int 0]), aQ G 6 4 A] M = hV G B hb 0 A M := by
  funext a
  show vW hb 2 _ M a = _
  by_cases h0 : a = hb
  · subst h0
    rw [hV_h]
    exact vW_at (j := 0) (by omega)
  · by_cases h1 : a = hb + 1
    · subst h1
      rw [hV_a]
      exact vW_at (j := 1) (by omega)
    · rw [vW_out (by omega), hV_out (by omega)]
theorem hV_s : sW G B (hb + (2 + 21 * j)) jS0 jg0 (hV G B hb j A M) = hV G B hb (j + 1) A M := by
  funext a
  by_cases h : hb + (2 + 21 * j) ≤ a ∧ a < hb + (2 + 21 * j) + 21
  · obtain ⟨q, rfl⟩ : ∃ q, a = hb + (2 + 21 * j) + q := ⟨a - (hb + (2 + 21 * j)), by omega⟩
    rw [sW_in (by omega), hV_in (by omega) (by omega)]
  · rw [sW_out (by omega)]
    unfold hV
    by_cases h0 : a = hb
    · rw [if_pos h0, if_pos h0]
    · rw [if_neg h0, if_neg h0]
      by_cases h1 : a = hb + 1
      · rw [if_pos h1, if_pos h1]
      · rw [if_neg h1, if_neg h1]
        by_cases h2 : hb + 2 ≤ a ∧ a < hb + (2 + 21 * j)
        · rw [if_pos h2, if_pos (by omega)]
        · rw [if_neg h2, if_neg (by omega)]
theorem hS_a : bku (hV G B hb j A M) (hb + 1) (aQ G 6 4 A') = hV G B hb j A' M := by
  funext a
  by_cases h : a = hb + 1
  · subst h; rw [bku_at, hV_a]
  · rw [bku_ne h]
    unfold hV
    rw [if_neg h, if_neg h]
theorem bI.hV (h : bI G B M) (hb2 : B + 12 ≤ hb) : bI G B (hV G B hb j A M) := ⟨(hV_out (by omega)).trans h.1, (hV_out (by omega)).trans h.2.1, (hV_out (by omega)).trans h.2.2⟩
theorem bI.sW {b : Nat} {s go : Nat → Int32} (h : bI G B M) (hb2 : B + 12 ≤ b) : bI G B (sW G B b s go M) := ⟨(sW_out (by omega)).trans h.1, (sW_out (by omega)).trans h.2.1, (sW_out (by omega)).trans h.2.2⟩
end HV
def pt0 : Nat → Int32 := fun i => if i = 0 then 32 else 0
def tC (G : bkG) (T : Nat) (A : Nat → Option Nat) (i : Nat) : va_E := if i = 0 then .inr (7, tO T 0 0 0) else if i = 1 then aC G 60 jz else if i = 2 then aQ G 7 20 A else .inr (4, ptF pt0)
section TV
variable {G : bkG} {T n : Nat} {A A' : Nat → Option Nat} {M : bkM}
theorem tC_L : vL T [.inr (7, tO T 0 0 0), aC G 60 jz, aQ G 7 20 A] M = vW T 3 (tC G T A) M := vW_cg (fun i hi => by
  have hi3 : i < 3 := hi
  match i, hi3 with
  | 0, _ => rfl
  | 1, _ => rfl
  | 2, _ => rfl
  | i + 3, h => exact absurd h (by omega))
theorem tC_o (h : 0 < n) : vW T n (tC G T A) M T = some (.inr (7, tO T 0 0 0)) := vW_at (j := 0) h
theorem tC_a (h : 2 < n) : vW T n (tC G T A) M (T + 2) = some (aQ G 7 20 A) := vW_at (j := 2) h
theorem tC_q {j : Nat} : tC G T A (3 + j) = .inr (4, ptF pt0) := by
  unfold tC
  rw [if_neg (by omega), if_neg (by omega), if_neg (by omega)]
theorem tC_2 (hn : 2 < n) : bku (vW T n (tC G T A) M) (T + 2) (aQ G 7 20 A') = vW T n (tC G T A') M := vW_put hn (fun i _ => by
  unfold tC
  by_cases h0 : i = 0
  · rw [if_pos h0, if_neg (by omega), if_pos h0]
  · rw [if_neg h0, if_neg h0]
    by_cases h1 : i = 1
    · rw [if_pos h1, if_neg (by omega), if_pos h1]
    · rw [if_neg h1, if_neg h1]
      by_cases h2 : i = 2
      · rw [if_pos h2, if_pos h2]
      · rw [if_neg h2, if_neg h2, if_neg h2])
theorem tC_W : vW T 23 (tC G T (jfl 20 20 (fun i => T + 3 + i))) M = tW G T jz 0 0 0 (fun _ => pt0) M := by
  rw [jfl_N]
  funext a
  unfold tW
  by_cases h0 : a = T
  · subst h0
    rw [if_pos rfl]
    exact vW_at (j := 0) (by omega)
  · rw [if_neg h0]
    by_cases h1 : a = T + 1
    · subst h1
      rw [if_pos rfl]
      exact vW_at (j := 1) (by omega)
    · rw [if_neg h1]
      by_cases h2 : a = T + 2
      · subst h2
        rw [if_pos rfl]
        exact vW_at (j := 2) (by omega)
      · rw [if_neg h2]
        by_cases h3 : T + 3 ≤ a ∧ a < T + 23
        · rw [if_pos h3]
          obtain ⟨i, rfl⟩ : ∃ i, a = T + (3 + i) := ⟨a - T - 3, by omega⟩
          rw [vW_at (by omega), tC_q]
        · rw [if_neg h3]
          exact vW_out (by omega)
end TV

set_option maxHeartbeats 4000000 in
set_option maxRecDepth 100000 in
theorem c_X1_init {G : bkG} {M : bkM} {hb B : Nat} (hI : bI G B M) (hB : B + 12 ≤ hb) : bkCv G (fun z => z = hb + 1) (fun z => z = hb + 86) yX1_init cX1_init 3 3 85 540 [.ref hb, .ref B] (bku M hb (.inr (1, dfX1))) (fun M' => M' = hV G B hb 4 (fun i => some (hb + (2 + 21 * i))) M) := by
  refine bk_metv [some (.ref hb), some (.ref B), none] rfl pf_X1_init rfl rfl (fun E X hn K => ?_)
  refine bkV.eq vL_1 ?_
  refine r_aload_n (pc := 0) X rfl dX1_init_0 ?_
  refine r_objInit (pc := 1) X ml_X1_3 im_objectInit cd_objectInit rfl ⟨Nat.le_of_ble_eq_true rfl, Nat.le_of_ble_eq_true rfl⟩ dX1_init_1 ?_
  refine r_aload_n (pc := 4) X rfl dX1_init_4 ?_
  refine r_iconst (pc := 5) (v := 4) X rfl dX1_init_5 ?_
  refine r_newQ (pc := 6) X (a := (hb + 1)) (t := 6) 4 rfl (by decide) cl_X1_9 X.nw.2.2.2.2.2.2.1 rfl ⟨Nat.le_of_ble_eq_true rfl, Nat.le_of_ble_eq_true rfl⟩ dX1_init_6 ?_
  refine bkV.eq (show bku _ _ _ = vL hb [.inr (1, dfX1), aQ G 6 4 (fun _ => none)] M from vL_add) ?_
  refine pt_X1_11 (pc := 9) X vL_h (hn.trans rfl) rfl dX1_init_9 ?_
  refine bkV.eq (show bku _ _ _ = vL hb [.inr (1, [.ref (hb + 1), .int 0]), aQ G 6 4 (fun _ => none)] M from vL_put) ?_
  refine r_aload_n (pc := 12) X rfl dX1_init_12 ?_
  refine r_iconst (pc := 13) (v := 0) X rfl dX1_init_13 ?_
  refine pt_X1_17 (pc := 14) X vL_h  rfl dX1_init_14 ?_
  refine bkV.eq (show bku _ _ _ = vL hb [.inr (1, [.ref (hb + 1), .int 0]), aQ G 6 4 (fun _ => none)] M from vL_put) ?_
  refine r_iconst (pc := 17) (v := 0) X rfl dX1_init_17 ?_
  refine r_istore_n (pc := 18) X rfl rfl dX1_init_18 ?_
  have lp19 : ∀ (d j : Nat) (y : Int32), j ≤ 4 → 4 < j + d → (y = nI j) → bkV E G (fun z => z = hb + (2 + 21 * j)) (1 + 21 * j) (4 + 134 * j) (hV G B hb j (jfl 4 j (fun i => hb + (2 + 21 * i))) M) 19 [some (.ref hb), some (.ref B), some (.int y)] [] := by
    intro d
    induction d with
    | zero => intro j y; intros; exfalso; omega
    | succ d ih =>
      intro j y hj hd e1
      subst e1
      refine r_iload_n (pc := 19) X rfl dX1_init_19 ?_
      refine r_iconst (pc := 20) (v := 4) X rfl dX1_init_20 ?_
      refine r_icmpN_ge (pc := 21) X 44 (j) (4) rfl rfl (by omega) (by omega) (by decide) dX1_init_21 (fun q21 => ?_) (fun q21 => ?_)
      · skip
        obtain rfl : j = 4 := by omega
        refine bkV.z (Z2 := fun z => z = hb + (86)) (fun z h => Eq.trans h (by omega)) ?_
        refine bkV.kn (k2 := 85) (n2 := 540) (by omega) (by omega) ?_
        exact K dX1_init_44 (by rw [jfl_N])
      · skip
        refine r_aload_n (pc := 24) X rfl dX1_init_24 ?_
        refine gt_X1_11 (pc := 25) X hV_h rfl dX1_init_25 ?_
        refine r_iload_n (pc := 28) X rfl dX1_init_28 ?_
        refine r_new (pc := 29) X (a := (hb + (2 + 21 * j))) (ci := 6) rfl inX6 tyX6 tyX6_ok dfX6 dfX6_ok cl_X1_9 ins_X6 ini_X6 ⟨by show _ ≤ 85; omega, by show _ ≤ 540; omega⟩ dX1_init_29 ?_
        refine r_dup (pc := 32) X rfl dX1_init_32 ?_
        refine r_aload_n (pc := 33) X rfl dX1_init_33 ?_
        refine ca_X1_21 (pc := 34) X (c_X6_init (hI.hV (by omega)) (by omega)) (bk_rm rfl rfl (by show _ ≤ 85; omega) (by show _ ≤ 540; omega)) rfl rfl dX1_init_34 (fun M34 hp34 => ?_)
        obtain rfl := hp34
        refine bkV.eq hV_s ?_
        refine r_aast (pc := 37) X hV_a rfl (hV_o (i := j) (by omega)) rfl (j) rfl (by omega) (by decide) dX1_init_37 ?_
        rw [jfl_up (N := 4) (j := j) (f := (fun i => hb + (2 + 21 * i))) rfl]
        refine bkV.eq hS_a ?_
        refine r_iinc (pc := 38) X rfl rfl rfl dX1_init_38 ?_
        refine r_goto (pc := 41) X 19 (by decide) dX1_init_41 ?_
        refine bkV.z (Z2 := fun z => z = hb + (2 + 21 * (j + 1))) (fun z h => Eq.trans h (by omega)) ?_
        refine bkV.kn (k2 := 1 + 21 * (j + 1)) (n2 := 4 + 134 * (j + 1)) (by omega) (by omega) ?_
        exact ih (j + 1) _ (by omega) (by omega) (nI_1 j)
  refine bkV.eq (show _ = hV G B hb 0 (fun _ => none) M from hV_0) ?_
  refine bkV.ext3 (a := hb + 1) (t := 6) (g := jfl 4 0 (fun i => hb + (2 + 21 * i))) hV_a (fun i hi => jfl_0 hi) ?_
  refine bkV.eq hS_a ?_
  refine bkV.z (Z2 := fun z => z = hb + (2 + 21 * 0)) (fun z h => Eq.trans h (by omega)) ?_
  refine bkV.kn (k2 := 1 + 21 * 0) (n2 := 4 + 134 * 0) (by omega) (by omega) ?_
  exact lp19 (4 + 1) 0 _ (by omega) (by omega) rfl

set_option maxHeartbeats 4000000 in
set_option maxRecDepth 100000 in
theorem c_X7_init {G : bkG} {M : bkM} {T : Nat} : bkCv G (fun z => z = T + 1) (fun z => z = T + 23) yX7_init cX7_init 2 2 22 180 [.ref T] (bku M T (.inr (7, dfX7))) (fun M' => M' = tW G T jz 0 0 0 (fun _ => pt0) M) := by
  refine bk_metv [some (.ref T), none] rfl pf_X7_init rfl rfl (fun E X hn K => ?_)
  refine bkV.eq vL_1 ?_
  refine r_aload_n (pc := 0) X rfl dX7_init_0 ?_
  refine r_objInit (pc := 1) X ml_X7_3 im_objectInit cd_objectInit rfl ⟨Nat.le_of_ble_eq_true rfl, Nat.le_of_ble_eq_true rfl⟩ dX7_init_1 ?_
  refine r_aload_n (pc := 4) X rfl dX7_init_4 ?_
  refine r_bipush (pc := 5) (v := 60) X rfl dX7_init_5 ?_
  refine r_newC (pc := 7) X (a := (T + 1)) 60 rfl (by decide) ac_char ⟨Nat.le_of_ble_eq_true rfl, Nat.le_of_ble_eq_true rfl⟩ dX7_init_7 ?_
  refine bkV.eq (show bku _ _ _ = vL T [.inr (7, [.null, .int 0, .null, .int 0, .int 0]), aC G 60 jz] M from vL_add) ?_
  refine pt_X7_9 (pc := 9) X vL_h (hn.trans rfl) rfl dX7_init_9 ?_
  refine bkV.eq (show bku _ _ _ = vL T [.inr (7, [.ref (T + 1), .int 0, .null, .int 0, .int 0]), aC G 60 jz] M from vL_put) ?_
  refine r_aload_n (pc := 12) X rfl dX7_init_12 ?_
  refine r_iconst (pc := 13) (v := 0) X rfl dX7_init_13 ?_
  refine pt_X7_15 (pc := 14) X vL_h  rfl dX7_init_14 ?_
  refine bkV.eq (show bku _ _ _ = vL T [.inr (7, [.ref (T + 1), .int 0, .null, .int 0, .int 0]), aC G 60 jz] M from vL_put) ?_
  refine r_aload_n (pc := 17) X rfl dX7_init_17 ?_
  refine r_bipush (pc := 18) (v := 20) X rfl dX7_init_18 ?_
  refine r_newQ (pc := 20) X (a := (T + 2)) (t := 7) 20 rfl (by decide) cl_X7_19 X.nw.2.2.2.2.1 rfl ⟨Nat.le_of_ble_eq_true rfl, Nat.le_of_ble_eq_true rfl⟩ dX7_init_20 ?_
  refine bkV.eq (show bku _ _ _ = vL T [.inr (7, [.ref (T + 1), .int 0, .null, .int 0, .int 0]), aC G 60 jz, aQ G 7 20 (fun _ => none)] M from vL_add) ?_
  refine pt_X7_21 (pc := 23) X vL_h (hn.trans rfl) rfl dX7_init_23 ?_
  refine bkV.eq (show bku _ _ _ = vL T [.inr (7, [.ref (T + 1), .int 0, .ref (T + 2), .int 0, .int 0]), aC G 60 jz, aQ G 7 20 (fun _ => none)] M from vL_put) ?_
  refine r_aload_n (pc := 26) X rfl dX7_init_26 ?_
  refine r_iconst (pc := 27) (v := 0) X rfl dX7_init_27 ?_
  refine pt_X7_25 (pc := 28) X vL_h  rfl dX7_init_28 ?_
  refine bkV.eq (show bku _ _ _ = vL T [.inr (7, [.ref (T + 1), .int 0, .ref (T + 2), .int 0, .int 0]), aC G 60 jz, aQ G 7 20 (fun _ => none)] M from vL_put) ?_
  refine r_aload_n (pc := 31) X rfl dX7_init_31 ?_
  refine r_iconst (pc := 32) (v := 0) X rfl dX7_init_32 ?_
  refine pt_X7_28 (pc := 33) X vL_h  rfl dX7_init_33 ?_
  refine bkV.eq (show bku _ _ _ = vL T [.inr (7, [.ref (T + 1), .int 0, .ref (T + 2), .int 0, .int 0]), aC G 60 jz, aQ G 7 20 (fun _ => none)] M from vL_put) ?_
  refine r_iconst (pc := 36) (v := 0) X rfl dX7_init_36 ?_
  refine r_istore_n (pc := 37) X rfl rfl dX7_init_37 ?_
  have lp38 : ∀ (d j : Nat) (y : Int32), j ≤ 20 → 20 < j + d → (y = nI j) → bkV E G (fun z => z = T + (3 + j)) (2 + j) (80 + 5 * j) (vW T (3 + j) (tC G T (jfl 20 j (fun i => T + 3 + i))) M) 38 [some (.ref T), some (.int y)] [] := by
    intro d
    induction d with
    | zero => intro j y; intros; exfalso; omega
    | succ d ih =>
      intro j y hj hd e1
      subst e1
      refine r_iload_n (pc := 38) X rfl dX7_init_38 ?_
      refine r_bipush (pc := 39) (v := 20) X rfl dX7_init_39 ?_
      refine r_icmpN_ge (pc := 41) X 63 (j) (20) rfl rfl (by omega) (by omega) (by decide) dX7_init_41 (fun q41 => ?_) (fun q41 => ?_)
      · skip
        obtain rfl : j = 20 := by omega
        refine bkV.z (Z2 := fun z => z = T + (23)) (fun z h => Eq.trans h (by omega)) ?_
        refine bkV.kn (k2 := 22) (n2 := 180) (by omega) (by omega) ?_
        exact K dX7_init_63 tC_W
      · skip
        refine r_aload_n (pc := 44) X rfl dX7_init_44 ?_
        refine gt_X7_21 (pc := 45) X (tC_o (by omega)) rfl dX7_init_45 ?_
        refine r_iload_n (pc := 48) X rfl dX7_init_48 ?_
        refine r_new (pc := 49) X (a := (T + (3 + j))) (ci := 4) rfl inX4 tyX4 tyX4_ok dfX4 dfX4_ok cl_X7_19 ins_X4 ini_X4 ⟨by show _ ≤ 22; omega, by show _ ≤ 180; omega⟩ dX7_init_49 ?_
        refine r_dup (pc := 52) X rfl dX7_init_52 ?_
        refine ca_X7_31 (pc := 53) X (c_X4_init bku_at) (bk_rm rfl rfl (by show _ ≤ 22; omega) (by show _ ≤ 180; omega)) rfl rfl dX7_init_53 (fun M53 hp53 => ?_)
        obtain rfl := hp53
        refine bkV.eq bku_bku ?_
        refine bkV.eq (vW_add tC_q) ?_
        refine r_aast (pc := 56) X (tC_a (by omega)) rfl ((vW_at (j := 3 + j) (by omega)).trans (congrArg some tC_q)) rfl (j) rfl (by omega) (by decide) dX7_init_56 ?_
        rw [jfl_up (N := 20) (j := j) (f := (fun i => T + 3 + i)) (show T + (3 + j) = T + 3 + j by omega)]
        refine bkV.eq (tC_2 (by omega)) ?_
        refine r_iinc (pc := 57) X rfl rfl rfl dX7_init_57 ?_
        refine r_goto (pc := 60) X 38 (by decide) dX7_init_60 ?_
        refine bkV.z (Z2 := fun z => z = T + (3 + (j + 1))) (fun z h => Eq.trans h (by omega)) ?_
        refine bkV.kn (k2 := 2 + (j + 1)) (n2 := 80 + 5 * (j + 1)) (by omega) (by omega) ?_
        exact ih (j + 1) _ (by omega) (by omega) (nI_1 j)
  refine bkV.eq (show _ = vW T 3 (tC G T (fun _ => none)) M from tC_L) ?_
  refine bkV.ext3 (a := T + 2) (t := 7) (g := jfl 20 0 (fun i => T + 3 + i)) (tC_a (by omega)) (fun i hi => jfl_0 hi) ?_
  refine bkV.eq (tC_2 (by omega)) ?_
  refine bkV.z (Z2 := fun z => z = T + (3 + 0)) (fun z h => Eq.trans h (by omega)) ?_
  refine bkV.kn (k2 := 2 + 0) (n2 := 80 + 5 * 0) (by omega) (by omega) ?_
  exact lp38 (20 + 1) 0 _ (by omega) (by omega) rfl

section UX
variable {G : bkG} {B b x hb T j a : Nat} {s go t : Nat → Int32} {A : Nat → Option Nat} {ln pc pl : Int32} {pf : Nat → Nat → Int32} {M : bkM} {e : va_E}
theorem xBr_out (h : a < B ∨ B + 12 ≤ a) : xBr G B M a = M a := by
  unfold xBr
  rw [if_neg (by omega), if_neg (by omega), if_neg (by omega), if_neg (by omega), if_neg (by omega), if_neg (by omega)]
theorem xBr_in {M2 : bkM} (h : B ≤ a ∧ a < B + 12) : xBr G B M a = xBr G B M2 a := by
  rw [← yC_X, ← yC_X]
  unfold vW
  rw [if_pos h, if_pos h]
theorem bI_X : bI G B (xBr G B M) := by
  refine ⟨if_pos rfl, ?_, ?_⟩
  · unfold xBr
    rw [if_neg (by omega), if_pos rfl]
  · unfold xBr
    rw [if_neg (by omega), if_neg (by omega), if_pos rfl]
theorem ux_Br (h : x < B ∨ B + 12 ≤ x) : bku (xBr G B M) x e = xBr G B (bku M x e) := by
  funext a
  by_cases hx : a = x
  · subst hx
    rw [bku_at, xBr_out h, bku_at]
  · rw [bku_ne hx]
    by_cases h1 : B ≤ a ∧ a < B + 12
    · exact xBr_in h1
    · rw [xBr_out (by omega), xBr_out (by omega), bku_ne hx]
theorem ux_sW (h : x < b ∨ b + 21 ≤ x) : bku (sW G B b s go M) x e = sW G B b s go (bku M x e) := by
  funext a
  by_cases hx : a = x
  · subst hx
    rw [bku_at, sW_out h, bku_at]
  · rw [bku_ne hx]
    unfold sW
    rw [bku_ne hx]
theorem ux_hV (h : x < hb ∨ hb + (2 + 21 * j) ≤ x) : bku (hV G B hb j A M) x e = hV G B hb j A (bku M x e) := by
  funext a
  by_cases hx : a = x
  · subst hx
    rw [bku_at, hV_out h, bku_at]
  · rw [bku_ne hx]
    unfold hV
    rw [bku_ne hx]
theorem ux_tW (h : x < T ∨ T + 23 ≤ x) : bku (tW G T t ln pc pl pf M) x e = tW G T t ln pc pl pf (bku M x e) := by
  funext a
  by_cases hx : a = x
  · subst hx
    rw [bku_at, tW_out h, bku_at]
  · rw [bku_ne hx]
    unfold tW
    rw [bku_ne hx]
theorem xW_i0 {S O : Nat → Nat → Int32} {od : Nat → Nat} {sz kp : Int32} {j : Nat} (hj : j < 21) : xW G x S O od sz kp t ln pc pl pf M (x + 13 + j) = some (sE G (x + 1) (x + 13) (S 0) (O 0) j) := xW_in (k := 0) (by decide) hj
theorem xW_i1 {S O : Nat → Nat → Int32} {od : Nat → Nat} {sz kp : Int32} {j : Nat} (hj : j < 21) : xW G x S O od sz kp t ln pc pl pf M (x + 34 + j) = some (sE G (x + 1) (x + 34) (S 1) (O 1) j) := xW_in (k := 1) (by decide) hj
theorem xW_i2 {S O : Nat → Nat → Int32} {od : Nat → Nat} {sz kp : Int32} {j : Nat} (hj : j < 21) : xW G x S O od sz kp t ln pc pl pf M (x + 55 + j) = some (sE G (x + 1) (x + 55) (S 2) (O 2) j) := xW_in (k := 2) (by decide) hj
end UX

theorem xW_new {G : bkG} {x : Nat} {M : bkM} : (tW G (x + 162) jz 0 0 0 (fun _ => pt0) (hV G (x + 1) (x + 76) 4 (fun i => some (x + 76 + (2 + 21 * i))) (sW G (x + 1) (x + 55) jS0 jg0 (sW G (x + 1) (x + 34) jS0 jg0 (sW G (x + 1) (x + 13) jS0 jg0 (xBr G (x + 1) (bku M x (.inr (8, xO x 0))))))))) = xW G x (fun _ => jS0) (fun _ => jg0) (fun i => 3 + i) 0 0 jz 0 0 0 (fun _ => pt0) M := by
  funext a
  by_cases c0 : a < x ∨ x + 185 ≤ a
  · rw [tW_out (by omega), hV_out (by omega), sW_out (by omega), sW_out (by omega), sW_out (by omega), xBr_out (by omega), bku_ne (by omega), xW_out c0]
  · by_cases c1 : a = x
    · subst c1
      rw [tW_out (by omega), hV_out (by omega), sW_out (by omega), sW_out (by omega), sW_out (by omega), xBr_out (by omega), bku_at, xW_o]
    · by_cases c2 : a < x + 13
      · rw [tW_out (by omega), hV_out (by omega), sW_out (by omega), sW_out (by omega), sW_out (by omega)]
        unfold xW
        rw [if_neg c0, if_neg c1, if_pos c2]
        exact xBr_in (by omega)
      · by_cases c3 : a < x + 34
        · obtain ⟨j, rfl⟩ : ∃ j, a = x + 13 + j := ⟨a - x - 13, by omega⟩
          rw [tW_out (by omega), hV_out (by omega), sW_out (by omega), sW_out (by omega), sW_in (by omega)]
          refine Eq.trans ?_ (xW_i0 (S := fun _ => jS0) (O := fun _ => jg0) (j := j) (by omega)).symm
          rfl
        · by_cases c4 : a < x + 55
          · obtain ⟨j, rfl⟩ : ∃ j, a = x + 34 + j := ⟨a - x - 34, by omega⟩
            rw [tW_out (by omega), hV_out (by omega), sW_out (by omega), sW_in (by omega)]
            refine Eq.trans ?_ (xW_i1 (S := fun _ => jS0) (O := fun _ => jg0) (j := j) (by omega)).symm
            rfl
          · by_cases c5 : a < x + 76
            · obtain ⟨j, rfl⟩ : ∃ j, a = x + 55 + j := ⟨a - x - 55, by omega⟩
              rw [tW_out (by omega), hV_out (by omega), sW_in (by omega)]
              refine Eq.trans ?_ (xW_i2 (S := fun _ => jS0) (O := fun _ => jg0) (j := j) (by omega)).symm
              rfl
            · by_cases c6 : a = x + 76
              · subst c6
                rw [tW_out (by omega), hV_h, xW_h]
                rfl
              · by_cases c7 : a = x + 77
                · subst c7
                  rw [tW_out (by omega), show x + 77 = x + 76 + 1 from rfl, hV_a, show x + 76 + 1 = x + 77 from rfl, xW_ha]
                  have e : (fun i => some (x + 76 + (2 + 21 * i))) = (fun i => some (xb x (3 + i))) := by
                    funext i
                    unfold xb
                    rw [if_neg (by omega)]
                    exact congrArg some (by omega)
                  rw [e]
                · by_cases c8 : a < x + 162
                  · obtain ⟨i, q, hi, hq, rfl⟩ : ∃ i q, i < 4 ∧ q < 21 ∧ a = x + 76 + (2 + 21 * i) + q := ⟨(a - x - 78) / 21, (a - x - 78) % 21, by omega, by omega, by omega⟩
                    rw [tW_out (by omega), hV_in hi hq]
                    have e : x + 76 + (2 + 21 * i) = xb x (3 + i) := by
                      unfold xb
                      rw [if_neg (by omega)]
                      omega
                    rw [e]
                    refine Eq.trans ?_ (xW_in (S := fun _ => jS0) (O := fun _ => jg0) (k := 3 + i) (by omega) hq).symm
                    rfl
                  · rw [xW_tr (by omega)]
                    exact tW_inr (by omega)

set_option maxHeartbeats 4000000 in
set_option maxRecDepth 100000 in
theorem c_X8_init {G : bkG} {M : bkM} {x : Nat} : bkCv G (fun z => z = x + 1) (fun z => z = x + 185) yX8_init cX8_init 1 4 184 2040 [.ref x] (bku M x (.inr (8, dfX8))) (fun M' => M' = xW G x (fun _ => jS0) (fun _ => jg0) (fun i => 3 + i) 0 0 jz 0 0 0 (fun _ => pt0) M) := by
  refine bk_metv [some (.ref x)] rfl pf_X8_init rfl rfl (fun E X hn K => ?_)
  refine r_aload_n (pc := 0) X rfl dX8_init_0 ?_
  refine r_objInit (pc := 1) X ml_X8_1 im_objectInit cd_objectInit rfl ⟨Nat.le_of_ble_eq_true rfl, Nat.le_of_ble_eq_true rfl⟩ dX8_init_1 ?_
  refine r_aload_n (pc := 4) X rfl dX8_init_4 ?_
  refine bkV.z (Z2 := fun z => z = x + (1)) (fun z h => Eq.trans h (by omega)) ?_
  refine r_new (pc := 5) X (a := (x + 1)) (ci := 0) rfl inX0 tyX0 tyX0_ok dfX0 dfX0_ok cl_X8_7 ins_X0 ini_X0 ⟨Nat.le_of_ble_eq_true rfl, Nat.le_of_ble_eq_true rfl⟩ dX8_init_5 ?_
  refine r_dup (pc := 8) X rfl dX8_init_8 ?_
  refine ca_X8_9 (pc := 9) X (c_X0_init) rfl rfl rfl dX8_init_9 (fun M9 hp9 => ?_)
  obtain rfl := hp9
  refine pt_X8_10 (pc := 12) X (by rw [xBr_out (by omega), bku_at]) (hn.trans rfl) rfl dX8_init_12 ?_
  refine bkV.eq (show _ = (xBr G (x + 1) (bku M x (.inr (8, [.ref (x + 1), .null, .null, .null, .int 0, .null, .null])))) from (by rw [ux_Br (by omega), bku_bku]; rfl)) ?_
  refine r_aload_n (pc := 15) X rfl dX8_init_15 ?_
  refine bkV.z (Z2 := fun z => z = x + (13)) (fun z h => Eq.trans h (by omega)) ?_
  refine r_new (pc := 16) X (a := (x + 13)) (ci := 6) rfl inX6 tyX6 tyX6_ok dfX6 dfX6_ok cl_X8_16 ins_X6 ini_X6 ⟨Nat.le_of_ble_eq_true rfl, Nat.le_of_ble_eq_true rfl⟩ dX8_init_16 ?_
  refine r_dup (pc := 19) X rfl dX8_init_19 ?_
  refine r_aload_n (pc := 20) X rfl dX8_init_20 ?_
  refine gt_X8_10 (pc := 21) X (by rw [bku_ne (by omega), xBr_out (by omega), bku_at]) rfl dX8_init_21 ?_
  refine ca_X8_18 (pc := 24) X (c_X6_init bI_X (by omega)) rfl rfl rfl dX8_init_24 (fun M24 hp24 => ?_)
  obtain rfl := hp24
  refine pt_X8_21 (pc := 27) X (by rw [sW_out (by omega), xBr_out (by omega), bku_at]) (hn.trans rfl) rfl dX8_init_27 ?_
  refine bkV.eq (show _ = (sW G (x + 1) (x + 13) jS0 jg0 (xBr G (x + 1) (bku M x (.inr (8, [.ref (x + 1), .ref (x + 13), .null, .null, .int 0, .null, .null]))))) from (by rw [ux_sW (by omega), ux_Br (by omega), bku_bku]; rfl)) ?_
  refine r_aload_n (pc := 30) X rfl dX8_init_30 ?_
  refine bkV.z (Z2 := fun z => z = x + (34)) (fun z h => Eq.trans h (by omega)) ?_
  refine r_new (pc := 31) X (a := (x + 34)) (ci := 6) rfl inX6 tyX6 tyX6_ok dfX6 dfX6_ok cl_X8_16 ins_X6 ini_X6 ⟨Nat.le_of_ble_eq_true rfl, Nat.le_of_ble_eq_true rfl⟩ dX8_init_31 ?_
  refine r_dup (pc := 34) X rfl dX8_init_34 ?_
  refine r_aload_n (pc := 35) X rfl dX8_init_35 ?_
  refine gt_X8_10 (pc := 36) X (by rw [bku_ne (by omega), sW_out (by omega), xBr_out (by omega), bku_at]) rfl dX8_init_36 ?_
  refine ca_X8_18 (pc := 39) X (c_X6_init (bI_X.sW (by omega)) (by omega)) rfl rfl rfl dX8_init_39 (fun M39 hp39 => ?_)
  obtain rfl := hp39
  refine pt_X8_25 (pc := 42) X (by rw [sW_out (by omega), sW_out (by omega), xBr_out (by omega), bku_at]) (hn.trans rfl) rfl dX8_init_42 ?_
  refine bkV.eq (show _ = (sW G (x + 1) (x + 34) jS0 jg0 (sW G (x + 1) (x + 13) jS0 jg0 (xBr G (x + 1) (bku M x (.inr (8, [.ref (x + 1), .ref (x + 13), .ref (x + 34), .null, .int 0, .null, .null])))))) from (by rw [ux_sW (by omega), ux_sW (by omega), ux_Br (by omega), bku_bku]; rfl)) ?_
  refine r_aload_n (pc := 45) X rfl dX8_init_45 ?_
  refine bkV.z (Z2 := fun z => z = x + (55)) (fun z h => Eq.trans h (by omega)) ?_
  refine r_new (pc := 46) X (a := (x + 55)) (ci := 6) rfl inX6 tyX6 tyX6_ok dfX6 dfX6_ok cl_X8_16 ins_X6 ini_X6 ⟨Nat.le_of_ble_eq_true rfl, Nat.le_of_ble_eq_true rfl⟩ dX8_init_46 ?_
  refine r_dup (pc := 49) X rfl dX8_init_49 ?_
  refine r_aload_n (pc := 50) X rfl dX8_init_50 ?_
  refine gt_X8_10 (pc := 51) X (by rw [bku_ne (by omega), sW_out (by omega), sW_out (by omega), xBr_out (by omega), bku_at]) rfl dX8_init_51 ?_
  refine ca_X8_18 (pc := 54) X (c_X6_init ((bI_X.sW (by omega)).sW (by omega)) (by omega)) rfl rfl rfl dX8_init_54 (fun M54 hp54 => ?_)
  obtain rfl := hp54
  refine pt_X8_28 (pc := 57) X (by rw [sW_out (by omega), sW_out (by omega), sW_out (by omega), xBr_out (by omega), bku_at]) (hn.trans rfl) rfl dX8_init_57 ?_
  refine bkV.eq (show _ = (sW G (x + 1) (x + 55) jS0 jg0 (sW G (x + 1) (x + 34) jS0 jg0 (sW G (x + 1) (x + 13) jS0 jg0 (xBr G (x + 1) (bku M x (.inr (8, [.ref (x + 1), .ref (x + 13), .ref (x + 34), .ref (x + 55), .int 0, .null, .null]))))))) from (by rw [ux_sW (by omega), ux_sW (by omega), ux_sW (by omega), ux_Br (by omega), bku_bku]; rfl)) ?_
  refine r_aload_n (pc := 60) X rfl dX8_init_60 ?_
  refine r_iconst (pc := 61) (v := 0) X rfl dX8_init_61 ?_
  refine pt_X8_31 (pc := 62) X (by rw [sW_out (by omega), sW_out (by omega), sW_out (by omega), xBr_out (by omega), bku_at]) (Or.inl rfl) rfl dX8_init_62 ?_
  refine bkV.eq (show _ = (sW G (x + 1) (x + 55) jS0 jg0 (sW G (x + 1) (x + 34) jS0 jg0 (sW G (x + 1) (x + 13) jS0 jg0 (xBr G (x + 1) (bku M x (.inr (8, [.ref (x + 1), .ref (x + 13), .ref (x + 34), .ref (x + 55), .int 0, .null, .null]))))))) from (by rw [ux_sW (by omega), ux_sW (by omega), ux_sW (by omega), ux_Br (by omega), bku_bku]; rfl)) ?_
  refine r_aload_n (pc := 65) X rfl dX8_init_65 ?_
  refine bkV.z (Z2 := fun z => z = x + (76)) (fun z h => Eq.trans h (by omega)) ?_
  refine r_new (pc := 66) X (a := (x + 76)) (ci := 1) rfl inX1 tyX1 tyX1_ok dfX1 dfX1_ok cl_X8_35 ins_X1 ini_X1 ⟨Nat.le_of_ble_eq_true rfl, Nat.le_of_ble_eq_true rfl⟩ dX8_init_66 ?_
  refine r_dup (pc := 69) X rfl dX8_init_69 ?_
  refine r_aload_n (pc := 70) X rfl dX8_init_70 ?_
  refine gt_X8_10 (pc := 71) X (by rw [bku_ne (by omega), sW_out (by omega), sW_out (by omega), sW_out (by omega), xBr_out (by omega), bku_at]) rfl dX8_init_71 ?_
  refine ca_X8_37 (pc := 74) X (c_X1_init (((bI_X.sW (by omega)).sW (by omega)).sW (by omega)) (by omega)) rfl rfl rfl dX8_init_74 (fun M74 hp74 => ?_)
  obtain rfl := hp74
  refine pt_X8_38 (pc := 77) X (by rw [hV_out (by omega), sW_out (by omega), sW_out (by omega), sW_out (by omega), xBr_out (by omega), bku_at]) (hn.trans rfl) rfl dX8_init_77 ?_
  refine bkV.eq (show _ = (hV G (x + 1) (x + 76) 4 (fun i => some (x + 76 + (2 + 21 * i))) (sW G (x + 1) (x + 55) jS0 jg0 (sW G (x + 1) (x + 34) jS0 jg0 (sW G (x + 1) (x + 13) jS0 jg0 (xBr G (x + 1) (bku M x (.inr (8, [.ref (x + 1), .ref (x + 13), .ref (x + 34), .ref (x + 55), .int 0, .ref (x + 76), .null])))))))) from (by rw [ux_hV (by omega), ux_sW (by omega), ux_sW (by omega), ux_sW (by omega), ux_Br (by omega), bku_bku]; rfl)) ?_
  refine r_aload_n (pc := 80) X rfl dX8_init_80 ?_
  refine bkV.z (Z2 := fun z => z = x + (162)) (fun z h => Eq.trans h (by omega)) ?_
  refine r_new (pc := 81) X (a := (x + 162)) (ci := 7) rfl inX7 tyX7 tyX7_ok dfX7 dfX7_ok cl_X8_42 ins_X7 ini_X7 ⟨Nat.le_of_ble_eq_true rfl, Nat.le_of_ble_eq_true rfl⟩ dX8_init_81 ?_
  refine r_dup (pc := 84) X rfl dX8_init_84 ?_
  refine ca_X8_44 (pc := 85) X (c_X7_init) rfl rfl rfl dX8_init_85 (fun M85 hp85 => ?_)
  obtain rfl := hp85
  refine pt_X8_45 (pc := 88) X (by rw [tW_out (by omega), hV_out (by omega), sW_out (by omega), sW_out (by omega), sW_out (by omega), xBr_out (by omega), bku_at]) (hn.trans rfl) rfl dX8_init_88 ?_
  refine bkV.eq (show _ = (tW G (x + 162) jz 0 0 0 (fun _ => pt0) (hV G (x + 1) (x + 76) 4 (fun i => some (x + 76 + (2 + 21 * i))) (sW G (x + 1) (x + 55) jS0 jg0 (sW G (x + 1) (x + 34) jS0 jg0 (sW G (x + 1) (x + 13) jS0 jg0 (xBr G (x + 1) (bku M x (.inr (8, [.ref (x + 1), .ref (x + 13), .ref (x + 34), .ref (x + 55), .int 0, .ref (x + 76), .ref (x + 162)]))))))))) from (by rw [ux_tW (by omega), ux_hV (by omega), ux_sW (by omega), ux_sW (by omega), ux_sW (by omega), ux_Br (by omega), bku_bku]; rfl)) ?_
  refine bkV.z (Z2 := fun z => z = x + (185)) (fun z h => Eq.trans h (by omega)) ?_
  refine bkV.kn (k2 := 184) (n2 := 2040) rfl rfl ?_
  exact K dX8_init_91 xW_new

