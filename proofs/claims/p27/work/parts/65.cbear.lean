/-! the bearings, made -/
def yC (G : bkG) (B : Nat) (o : va_E) (W D : Nat → Nat → Int32) (N : Nat → Int32) (i : Nat) : va_E :=
  if i = 0 then o else if i = 1 then aQ G 2 4 (fun i => if i < 4 then some (B + 2 + i) else none) else if i = 6 then aQ G 2 4 (fun i => if i < 4 then some (B + 7 + i) else none) else if i = 11 then aI G 100 N else if i < 6 then aI G 100 (W (i - 2)) else aI G 100 (D (i - 7))
abbrev yZ : Nat → Nat → Int32 := fun _ _ => 0
section YC
variable {G : bkG} {B n : Nat} {o : va_E} {W W' D D' : Nat → Nat → Int32} {N N' : Nat → Int32} {M : bkM}
theorem yC_1 : bkI (bku M B o) (B + 1) 4 (aQ G 2 4 (fun i => if i < 4 then some (B + 1 + 1 + i) else none)) (aI G 100 (fun _ => 0)) = vW B 6 (yC G B o yZ yZ jz) M := by
  funext x
  unfold bkI vW
  by_cases h1 : x = B + 1
  · subst h1
    rw [if_pos rfl, if_pos (by omega), Nat.add_sub_cancel_left]
    rfl
  · rw [if_neg h1]
    by_cases h2 : B + 1 < x ∧ x ≤ B + 1 + 4
    · rw [if_pos h2, if_pos (by omega)]
      unfold yC
      rw [if_neg (by omega), if_neg (by omega), if_neg (by omega), if_neg (by omega), if_pos (by omega)]
    · rw [if_neg h2]
      by_cases h3 : x = B
      · subst h3
        rw [bku_at, if_pos (by omega), Nat.sub_self]
        rfl
      · rw [bku_ne h3, if_neg (by omega)]
theorem yC_2 : bkI (vW B 6 (yC G B o yZ yZ jz) M) (B + 6) 4 (aQ G 2 4 (fun i => if i < 4 then some (B + 6 + 1 + i) else none)) (aI G 100 (fun _ => 0)) = vW B 11 (yC G B o yZ yZ jz) M := by
  funext x
  unfold bkI
  by_cases h1 : x = B + 6
  · subst h1
    rw [if_pos rfl, vW_at (by omega)]
    rfl
  · rw [if_neg h1]
    by_cases h2 : B + 6 < x ∧ x ≤ B + 6 + 4
    · rw [if_pos h2]
      unfold vW
      rw [if_pos (by omega)]
      unfold yC
      rw [if_neg (by omega), if_neg (by omega), if_neg (by omega), if_neg (by omega), if_neg (by omega)]
    · rw [if_neg h2]
      unfold vW
      by_cases h3 : B ≤ x ∧ x < B + 6
      · rw [if_pos h3, if_pos (by omega)]
      · rw [if_neg h3, if_neg (by omega)]
theorem yC_o (h : 0 < n) : vW B n (yC G B o W D N) M B = some o := vW_at (j := 0) h
theorem yC_w (h : 1 < n) : vW B n (yC G B o W D N) M (B + 1) = some (aQ G 2 4 (fun i => if i < 4 then some (B + 2 + i) else none)) := vW_at (j := 1) h
theorem yC_d (h : 6 < n) : vW B n (yC G B o W D N) M (B + 6) = some (aQ G 2 4 (fun i => if i < 4 then some (B + 7 + i) else none)) := vW_at (j := 6) h
theorem yC_n (h : 11 < n) : vW B n (yC G B o W D N) M (B + 11) = some (aI G 100 N) := vW_at (j := 11) h
theorem yC_W {l : Nat} (hl : l < 4) (h : 6 ≤ n) : vW B n (yC G B o W D N) M (B + 2 + l) = some (aI G 100 (W l)) := by
  rw [Nat.add_assoc, vW_at (by omega)]
  unfold yC
  rw [if_neg (by omega), if_neg (by omega), if_neg (by omega), if_neg (by omega), if_pos (by omega), Nat.add_sub_cancel_left]
theorem yC_D {l : Nat} (hl : l < 4) (h : 11 ≤ n) : vW B n (yC G B o W D N) M (B + 7 + l) = some (aI G 100 (D l)) := by
  rw [Nat.add_assoc, vW_at (by omega)]
  unfold yC
  rw [if_neg (by omega), if_neg (by omega), if_neg (by omega), if_neg (by omega), if_neg (by omega), Nat.add_sub_cancel_left]
theorem yS_o {e : va_E} (h : 0 < n) : bku (vW B n (yC G B o W D N) M) B e = vW B n (yC G B e W D N) M := vW_put (j := 0) h (fun i _ => by
  unfold yC
  by_cases h : i = 0
  · rw [if_pos h, if_pos h]
  · rw [if_neg h, if_neg h, if_neg h])
theorem yS_W {l : Nat} {f : Nat → Int32} (hl : l < 4) (h : 6 ≤ n) : bku (vW B n (yC G B o W D N) M) (B + 2 + l) (aI G 100 f) = vW B n (yC G B o (pfu W l f) D N) M := by
  rw [Nat.add_assoc]
  refine vW_put (by omega) (fun i _ => ?_)
  unfold yC pfu
  by_cases h0 : i = 0
  · rw [if_pos h0, if_neg (by omega), if_pos h0]
  · rw [if_neg h0, if_neg h0]
    by_cases h1 : i = 1
    · rw [if_pos h1, if_neg (by omega), if_pos h1]
    · rw [if_neg h1, if_neg h1]
      by_cases h6 : i = 6
      · rw [if_pos h6, if_neg (by omega), if_pos h6]
      · rw [if_neg h6, if_neg h6]
        by_cases h11 : i = 11
        · rw [if_pos h11, if_neg (by omega), if_pos h11]
        · rw [if_neg h11, if_neg h11]
          by_cases hi : i < 6
          · rw [if_pos hi, if_pos hi]
            by_cases e : i = 2 + l
            · rw [if_pos e, if_pos (by omega)]
            · rw [if_neg e, if_neg (by omega)]
          · rw [if_neg hi, if_neg hi, if_neg (by omega)]
theorem yS_D {l : Nat} {f : Nat → Int32} (hl : l < 4) (h : 11 ≤ n) : bku (vW B n (yC G B o W D N) M) (B + 7 + l) (aI G 100 f) = vW B n (yC G B o W (pfu D l f) N) M := by
  rw [Nat.add_assoc]
  refine vW_put (by omega) (fun i _ => ?_)
  unfold yC pfu
  by_cases h0 : i = 0
  · rw [if_pos h0, if_neg (by omega), if_pos h0]
  · rw [if_neg h0, if_neg h0]
    by_cases h1 : i = 1
    · rw [if_pos h1, if_neg (by omega), if_pos h1]
    · rw [if_neg h1, if_neg h1]
      by_cases h6 : i = 6
      · rw [if_pos h6, if_neg (by omega), if_pos h6]
      · rw [if_neg h6, if_neg h6]
        by_cases h11 : i = 11
        · rw [if_pos h11, if_neg (by omega), if_pos h11]
        · rw [if_neg h11, if_neg h11]
          by_cases hi : i < 6
          · rw [if_pos hi, if_pos hi, if_neg (by omega)]
          · rw [if_neg hi, if_neg hi]
            by_cases e : i = 7 + l
            · rw [if_pos e, if_pos (by omega)]
            · rw [if_neg e, if_neg (by omega)]
theorem yS_n {f : Nat → Int32} (h : 11 < n) : bku (vW B n (yC G B o W D N) M) (B + 11) (aI G 100 f) = vW B n (yC G B o W D f) M := vW_put h (fun i _ => by
  unfold yC
  by_cases h0 : i = 0
  · rw [if_pos h0, if_neg (by omega), if_pos h0]
  · rw [if_neg h0, if_neg h0]
    by_cases h1 : i = 1
    · rw [if_pos h1, if_neg (by omega), if_pos h1]
    · rw [if_neg h1, if_neg h1]
      by_cases h6 : i = 6
      · rw [if_pos h6, if_neg (by omega), if_pos h6]
      · rw [if_neg h6, if_neg h6]
        by_cases h11 : i = 11
        · rw [if_pos h11, if_pos h11]
        · rw [if_neg h11, if_neg h11, if_neg h11])
theorem yC_cg (hW : ∀ l, l < 4 → W l = W' l) (hD : ∀ l, l < 4 → D l = D' l) (hN : N = N') : vW B 12 (yC G B o W D N) M = vW B 12 (yC G B o W' D' N') M := vW_cg (fun i hi => by
  subst hN
  unfold yC
  by_cases h0 : i = 0
  · rw [if_pos h0, if_pos h0]
  · rw [if_neg h0, if_neg h0]
    by_cases h1 : i = 1
    · rw [if_pos h1, if_pos h1]
    · rw [if_neg h1, if_neg h1]
      by_cases h6 : i = 6
      · rw [if_pos h6, if_pos h6]
      · rw [if_neg h6, if_neg h6]
        by_cases h11 : i = 11
        · rw [if_pos h11, if_pos h11]
        · rw [if_neg h11, if_neg h11]
          by_cases hi6 : i < 6
          · rw [if_pos hi6, if_pos hi6, hW _ (by omega)]
          · rw [if_neg hi6, if_neg hi6, hD _ (by omega)])
theorem yC_X : vW B 12 (yC G B (.inr (0, [.ref (B + 1), .ref (B + 6), .ref (B + 11)])) cwd cds (fun c => nI (jnr c))) M = xBr G B M := by
  funext x
  unfold vW xBr
  by_cases hin : B ≤ x ∧ x < B + 12
  · rw [if_pos hin]
    obtain ⟨i, rfl⟩ : ∃ i, x = B + i := ⟨x - B, by omega⟩
    rw [Nat.add_sub_cancel_left]
    unfold yC
    by_cases h0 : i = 0
    · rw [if_pos h0, if_pos (by omega)]
    · rw [if_neg h0, if_neg (show ¬ B + i = B by omega)]
      by_cases h1 : i = 1
      · rw [if_pos h1, if_pos (by omega)]
      · rw [if_neg h1, if_neg (show ¬ B + i = B + 1 by omega)]
        by_cases h6 : i = 6
        · rw [if_pos h6, if_pos (by omega)]
        · rw [if_neg h6, if_neg (show ¬ B + i = B + 6 by omega)]
          by_cases h11 : i = 11
          · rw [if_pos h11, if_pos (by omega)]
          · rw [if_neg h11, if_neg (show ¬ B + i = B + 11 by omega)]
            by_cases hi6 : i < 6
            · rw [if_pos hi6, if_pos (by omega)]
            · rw [if_neg hi6, if_neg (show ¬ (B + 2 ≤ B + i ∧ B + i < B + 6) by omega), if_pos (by omega)]
  · rw [if_neg hin, if_neg (by omega), if_neg (by omega), if_neg (by omega), if_neg (by omega), if_neg (by omega), if_neg (by omega)]
end YC
def bpf (c l : Nat) (F : Nat → Nat → Int32) : Nat → Nat → Int32 := fun l' c' => if 100 ≤ c' ∨ c' < c ∨ (c' = c ∧ l' < l) then F l' c' else 0
def bpn (c l : Nat) : Nat → Int32 := fun c' => if 100 ≤ c' ∨ c' < c then nI (jnr c') else if c' = c then nI (jnrA c (l - 1)) else 0
section BP
variable {c l : Nat} {F : Nat → Nat → Int32}
theorem bpf_up (hc : c < 100) : pfu (bpf c l F) l (upd (bpf c l F l) c (F l c)) = bpf c (l + 1) F := by
  funext l' c'
  unfold pfu
  by_cases h : l' = l
  · subst h
    rw [if_pos rfl]
    unfold upd bpf
    by_cases e : c' = c
    · rw [if_pos e, if_pos (by omega), e]
    · rw [if_neg e]
      by_cases g : 100 ≤ c' ∨ c' < c ∨ c' = c ∧ l' < l'
      · rw [if_pos g, if_pos (by omega)]
      · rw [if_neg g, if_neg (by omega)]
  · rw [if_neg h]
    unfold bpf
    by_cases g : 100 ≤ c' ∨ c' < c ∨ c' = c ∧ l' < l
    · rw [if_pos g, if_pos (by omega)]
    · rw [if_neg g, if_neg (by omega)]
theorem bpf_at {l' : Nat} (h : l' < l) : bpf c l F l' c = F l' c := if_pos (Or.inr (Or.inr ⟨rfl, h⟩))
theorem bpf_nx (h : l < 4) : bpf c 4 F l = bpf (c + 1) 0 F l := by
  funext c'
  unfold bpf
  by_cases g : 100 ≤ c' ∨ c' < c ∨ c' = c ∧ l < 4
  · rw [if_pos g, if_pos (by omega)]
  · rw [if_neg g, if_neg (by omega)]
theorem bpf_end : bpf 100 0 F l = F l := by
  funext c'
  exact if_pos (by omega)
theorem bpn_at (hc : c < 100) : bpn c l c = nI (jnrA c (l - 1)) := by
  unfold bpn
  rw [if_neg (by omega), if_pos rfl]
theorem jnrA_l (h : ¬ jds (jhm l) c < jds (jhm (jnrA c (l - 1))) c) : jnrA c (l - 1) = jnrA c l := by
  cases l with
  | zero => rfl
  | succ l => exact (if_neg h).symm
theorem jnrA_g (h : jds (jhm l) c < jds (jhm (jnrA c (l - 1))) c) : l = jnrA c l := by
  cases l with
  | zero => rfl
  | succ l => exact (if_pos h).symm
theorem bpn_t (h : ¬ jds (jhm l) c < jds (jhm (jnrA c (l - 1))) c) : bpn c l = bpn c (l + 1) := by
  funext c'
  unfold bpn
  rw [Nat.add_sub_cancel, jnrA_l h]
theorem bpn_f (hc : c < 100) (h : jds (jhm l) c < jds (jhm (jnrA c (l - 1))) c) : upd (bpn c l) c (nI l) = bpn c (l + 1) := by
  funext c'
  unfold upd bpn
  by_cases e : c' = c
  · rw [if_pos e, if_neg (by omega), if_pos e, Nat.add_sub_cancel, ← jnrA_g h]
  · rw [if_neg e]
    by_cases g : 100 ≤ c' ∨ c' < c
    · rw [if_pos g, if_pos g]
    · rw [if_neg g, if_neg g, if_neg e, if_neg e]
/-- the least distance so far -/
def bls (c l : Nat) : Int32 := if l = 0 then 10 else jds (jhm (jnrA c (l - 1))) c
theorem bls_s : bls c (l + 1) = jds (jhm (jnrA c (l + 1 - 1))) c := if_neg (Nat.succ_ne_zero l)
theorem bls_0 : bls c 0 = 10 := if_pos rfl
theorem jds_10 : ∀ c, c < 100 → jds (jhm 0) c < 10 := by decide +kernel
theorem bls_t (hc : c < 100) (h : bls c l ≤ jds (jhm l) c) : bpn c l = bpn c (l + 1) ∧ bls c l = bls c (l + 1) := by
  cases l with
  | zero =>
    rw [bls_0] at h
    exact absurd h (Int32.not_le.mpr (jds_10 c hc))
  | succ l =>
    rw [bls_s] at h
    have h' := Int32.not_lt.mpr h
    refine ⟨bpn_t h', ?_⟩
    rw [bls_s, bls_s, jnrA_l h', Nat.add_sub_cancel]
theorem bls_f (hc : c < 100) (h : jds (jhm l) c < bls c l) : upd (bpn c l) c (nI l) = bpn c (l + 1) ∧ jds (jhm l) c = bls c (l + 1) := by
  cases l with
  | zero =>
    refine ⟨?_, by rw [bls_s]; rfl⟩
    funext c'
    unfold upd bpn
    by_cases e : c' = c
    · rw [if_pos e, if_neg (by omega), if_pos e]
      rfl
    · rw [if_neg e]
  | succ l =>
    rw [bls_s] at h
    refine ⟨bpn_f hc h, ?_⟩
    rw [bls_s, Nat.add_sub_cancel, ← jnrA_g h]
theorem bpn_nx (hc : c < 100) : bpn c 4 = bpn (c + 1) 0 := by
  funext c'
  unfold bpn
  by_cases g : 100 ≤ c' ∨ c' < c
  · rw [if_pos g, if_pos (by omega)]
  · rw [if_neg g]
    by_cases e : c' = c
    · rw [if_pos e, if_pos (by omega), e]
      rfl
    · rw [if_neg e, if_neg (by omega)]
      by_cases e2 : c' = c + 1
      · rw [if_pos e2]
        rfl
      · rw [if_neg e2]
theorem bpn_end : bpn 100 0 = fun c => nI (jnr c) := by
  funext c'
  exact if_pos (by omega)
theorem bkLC_n {l : Nat} (h : l < 4) : bkLC l = nI (jhm l) := by
  match l, h with
  | 0, _ => rfl
  | 1, _ => rfl
  | 2, _ => rfl
  | 3, _ => rfl
  | l + 4, h => exact absurd h (by omega)
theorem jnrA_lt (c : Nat) (l : Nat) (h : l < 4) : jnrA c (l - 1) < 4 ∧ jnrA c (l - 1) < l + 1 := by
  have := jnrA_le c (l - 1)
  omega
end BP

theorem bpn_0 {i : Nat} (h : i < 100) : (0 : Int32) = bpn 0 0 i := by
  unfold bpn
  rw [if_neg (by omega)]
  by_cases e : i = 0
  · rw [if_pos e]
    rfl
  · rw [if_neg e]

set_option maxHeartbeats 4000000 in
set_option maxRecDepth 100000 in
theorem c_X0_init {G : bkG} {M : bkM} {B : Nat} : bkCv G (fun z => z = B + 1) (fun z => z = B + 12) yX0_init cX0_init 6 2 11 908 [.ref B] (bku M B (.inr (0, dfX0))) (fun M' => M' = xBr G B M) := by
  refine bk_metv [some (.ref B), none, none, none, none, none] rfl pf_X0_init rfl rfl (fun E X hn K => ?_)
  refine r_aload_n (pc := 0) X rfl dX0_init_0 ?_
  refine r_objInit (pc := 1) X ml_X0_3 im_objectInit cd_objectInit rfl ⟨Nat.le_of_ble_eq_true rfl, Nat.le_of_ble_eq_true rfl⟩ dX0_init_1 ?_
  refine r_aload_n (pc := 4) X rfl dX0_init_4 ?_
  refine r_iconst (pc := 5) (v := 4) X rfl dX0_init_5 ?_
  refine r_bipush (pc := 6) (v := 100) X rfl dX0_init_6 ?_
  refine r_newII (pc := 8) X (a := B + 1) 4 100 rfl rfl (by decide) (by decide) cl_X0_9 X.nw.2.2.2.2.2.2.2 ac_int ⟨Nat.le_of_ble_eq_true rfl, Nat.le_of_ble_eq_true rfl⟩ dX0_init_8 ?_
  refine bkV.eq (show _ = (vW B 6 (yC G B (.inr (0, [.null, .null, .null])) yZ yZ jz) M) from yC_1) ?_
  refine pt_X0_11 (pc := 12) X (yC_o (by omega)) (hn.trans rfl) rfl dX0_init_12 ?_
  refine bkV.eq (show _ = (vW B 6 (yC G B (.inr (0, [.ref (B + 1), .null, .null])) yZ yZ jz) M) from yS_o (by omega)) ?_
  refine r_aload_n (pc := 15) X rfl dX0_init_15 ?_
  refine r_iconst (pc := 16) (v := 4) X rfl dX0_init_16 ?_
  refine r_bipush (pc := 17) (v := 100) X rfl dX0_init_17 ?_
  refine bkV.z (Z2 := fun z => z = B + 6) (fun z h => Eq.trans h (by omega)) ?_
  refine r_newII (pc := 19) X (a := B + 6) 4 100 rfl rfl (by decide) (by decide) cl_X0_9 X.nw.2.2.2.2.2.2.2 ac_int ⟨Nat.le_of_ble_eq_true rfl, Nat.le_of_ble_eq_true rfl⟩ dX0_init_19 ?_
  refine bkV.eq (show _ = (vW B 11 (yC G B (.inr (0, [.ref (B + 1), .null, .null])) yZ yZ jz) M) from yC_2) ?_
  refine pt_X0_16 (pc := 23) X (yC_o (by omega)) (hn.trans rfl) rfl dX0_init_23 ?_
  refine bkV.eq (show _ = (vW B 11 (yC G B (.inr (0, [.ref (B + 1), .ref (B + 6), .null])) yZ yZ jz) M) from yS_o (by omega)) ?_
  refine r_aload_n (pc := 26) X rfl dX0_init_26 ?_
  refine r_bipush (pc := 27) (v := 100) X rfl dX0_init_27 ?_
  refine bkV.z (Z2 := fun z => z = B + 11) (fun z h => Eq.trans h (by omega)) ?_
  refine r_newI (pc := 29) X (a := (B + 11)) 100 rfl (by decide) ac_int ⟨Nat.le_of_ble_eq_true rfl, Nat.le_of_ble_eq_true rfl⟩ dX0_init_29 ?_
  refine bkV.eq (show _ = (vW B 12 (yC G B (.inr (0, [.ref (B + 1), .ref (B + 6), .null])) yZ yZ jz) M) from vW_add rfl) ?_
  refine pt_X0_19 (pc := 31) X (yC_o (by omega)) (hn.trans rfl) rfl dX0_init_31 ?_
  refine bkV.eq (show _ = (vW B 12 (yC G B (.inr (0, [.ref (B + 1), .ref (B + 6), .ref (B + 11)])) yZ yZ jz) M) from yS_o (by omega)) ?_
  refine r_iconst (pc := 34) (v := 0) X rfl dX0_init_34 ?_
  refine r_istore_n (pc := 35) X rfl rfl dX0_init_35 ?_
  have lp36 : ∀ (d j : Nat) (y : Int32), j ≤ 100 → 100 < j + d → (y = nI j) → bkV E G (fun z => z = B + 12) 11 908 (vW B 12 (yC G B (.inr (0, [.ref (B + 1), .ref (B + 6), .ref (B + 11)])) (bpf j 0 cwd) (bpf j 0 cds) (bpn j 0)) M) 36 [some (.ref B), some (.int y), none, none, none, none] [] := by
    intro d
    induction d with
    | zero => intro j y; intros; exfalso; omega
    | succ d ih =>
      intro j y hj hd e1
      subst e1
      refine r_iload_n (pc := 36) X rfl dX0_init_36 ?_
      refine r_bipush (pc := 37) (v := 100) X rfl dX0_init_37 ?_
      refine r_icmpN_ge (pc := 39) X 136 (j) (100) rfl rfl (by omega) (by omega) (by decide) dX0_init_39 (fun q39 => ?_) (fun q39 => ?_)
      · skip
        obtain rfl : j = 100 := by omega
        refine bkV.eq (show _ = xBr G B M from (yC_cg (fun l _ => bpf_end) (fun l _ => bpf_end) bpn_end).trans yC_X) ?_
        exact K dX0_init_136 rfl
      · skip
        refine r_bipush (pc := 42) (v := 10) X rfl dX0_init_42 ?_
        refine r_istore_n (pc := 44) X rfl rfl dX0_init_44 ?_
        refine r_iconst (pc := 45) (v := 0) X rfl dX0_init_45 ?_
        refine r_istore_n (pc := 46) X rfl rfl dX0_init_46 ?_
        have lp47 : ∀ (d2 i : Nat) (z : Int32) (y : Int32), i ≤ 4 → 4 < i + d2 → (z = bls j i) → (y = nI i) → bkV E G (fun z => z = B + 12) 11 908 (vW B 12 (yC G B (.inr (0, [.ref (B + 1), .ref (B + 6), .ref (B + 11)])) (bpf j i cwd) (bpf j i cds) (bpn j i)) M) 47 [some (.ref B), some (.int (nI j)), some (.int z), some (.int y), none, none] [] := by
          intro d2
          induction d2 with
          | zero => intro i z y; intros; exfalso; omega
          | succ d2 ih2 =>
            intro i z y hj2 hd2 e21 e22
            subst e21
            subst e22
            refine r_iload_n (pc := 47) X rfl dX0_init_47 ?_
            refine r_iconst (pc := 48) (v := 4) X rfl dX0_init_48 ?_
            refine r_icmpN_ge (pc := 49) X 130 (i) (4) rfl rfl (by omega) (by omega) (by decide) dX0_init_49 (fun q49 => ?_) (fun q49 => ?_)
            · skip
              obtain rfl : i = 4 := by omega
              refine bkV.eq (yC_cg (fun l hl => bpf_nx hl) (fun l hl => bpf_nx hl) (bpn_nx (by omega))) ?_
              refine r_iinc (pc := 130) X rfl rfl rfl dX0_init_130 ?_
              refine r_goto (pc := 133) X 36 (by decide) dX0_init_133 ?_
              exact bkV.drop 2 (bkV.drop 3 (ih (j + 1) _ (by omega) (by omega) (nI_1 j)))
            · skip
              have hi4 : i < 4 := by omega
              have hj100 : j < 100 := by omega
              refine r_getsN (pc := 52) X (fun z => z.1) X.nw.2.1.1 dX0_init_52 ?_
              refine r_iload_n (pc := 55) X rfl dX0_init_55 ?_
              refine r_ialdS (pc := 56) X (fun z => z.1) (i) rfl (by omega) dX0_init_56 ?_
              refine bk_top (bkLC_n hi4) ?_
              refine r_istore (pc := 57) X rfl rfl dX0_init_57 ?_
              refine r_iload (pc := 59) X rfl dX0_init_59 ?_
              refine r_iload_n (pc := 61) X rfl dX0_init_61 ?_
              refine ca_X0_26 (pc := 62) X (c_X8_distanceBetween (jhm i) j (jhm_lt i) hj100) rfl rfl rfl dX0_init_62 (fun r62 M62 hp62 => ?_)
              obtain ⟨rfl, rfl⟩ := hp62
              refine r_istore (pc := 65) X rfl rfl dX0_init_65 ?_
              refine r_aload_n (pc := 67) X rfl dX0_init_67 ?_
              refine gt_X0_11 (pc := 68) X (yC_o (by omega)) rfl dX0_init_68 ?_
              refine r_iload_n (pc := 71) X rfl dX0_init_71 ?_
              refine r_aald (pc := 72) X (yC_w (by omega)) rfl rfl (i) rfl (by omega) (by decide) (if_pos hi4) dX0_init_72 ?_
              refine r_iload_n (pc := 73) X rfl dX0_init_73 ?_
              refine r_iload_n (pc := 74) X rfl dX0_init_74 ?_
              refine r_bipush (pc := 75) (v := 10) X rfl dX0_init_75 ?_
              refine r_irem (pc := 77) X (by decide) dX0_init_77 ?_
              refine bk_top (pk_rem (a := j) (d := 10) (by have := jhm_lt i; omega) (by omega) (by omega)) ?_
              refine r_iload (pc := 78) X rfl dX0_init_78 ?_
              refine r_bipush (pc := 80) (v := 10) X rfl dX0_init_80 ?_
              refine r_irem (pc := 82) X (by decide) dX0_init_82 ?_
              refine bk_top (pk_rem (a := jhm i) (d := 10) (by have := jhm_lt i; omega) (by omega) (by omega)) ?_
              refine r_isub (pc := 83) X dX0_init_83 ?_
              refine r_iload_n (pc := 84) X rfl dX0_init_84 ?_
              refine r_bipush (pc := 85) (v := 10) X rfl dX0_init_85 ?_
              refine r_idiv (pc := 87) X (by decide) dX0_init_87 ?_
              refine bk_top (pk_div (a := j) (d := 10) (by have := jhm_lt i; omega) (by omega) (by omega)) ?_
              refine r_iload (pc := 88) X rfl dX0_init_88 ?_
              refine r_bipush (pc := 90) (v := 10) X rfl dX0_init_90 ?_
              refine r_idiv (pc := 92) X (by decide) dX0_init_92 ?_
              refine bk_top (pk_div (a := jhm i) (d := 10) (by have := jhm_lt i; omega) (by omega) (by omega)) ?_
              refine r_isub (pc := 93) X dX0_init_93 ?_
              refine ca_X0_30 (pc := 94) X (c_X0_windOf (jea (jhm i) j) (jso (jhm i) j)) rfl rfl rfl dX0_init_94 (fun r94 M94 hp94 => ?_)
              obtain ⟨rfl, rfl⟩ := hp94
              refine r_iast (pc := 97) X (yC_W hi4 (by omega)) (j) rfl (by omega) (by decide) dX0_init_97 ?_
              refine bkV.eq ((yS_W hi4 (by omega)).trans (by rw [show cw2 (jea (jhm i) j) (jso (jhm i) j) = cwd i j from rfl, bpf_up hj100])) ?_
              refine r_aload_n (pc := 98) X rfl dX0_init_98 ?_
              refine gt_X0_16 (pc := 99) X (yC_o (by omega)) rfl dX0_init_99 ?_
              refine r_iload_n (pc := 102) X rfl dX0_init_102 ?_
              refine r_aald (pc := 103) X (yC_d (by omega)) rfl rfl (i) rfl (by omega) (by decide) (if_pos hi4) dX0_init_103 ?_
              refine r_iload_n (pc := 104) X rfl dX0_init_104 ?_
              refine r_iload (pc := 105) X rfl dX0_init_105 ?_
              refine r_iast (pc := 107) X (yC_D hi4 (by omega)) (j) rfl (by omega) (by decide) dX0_init_107 ?_
              refine bkV.eq ((yS_D hi4 (by omega)).trans (by rw [show jds (jhm i) j = cds i j from rfl, bpf_up hj100])) ?_
              refine r_iload (pc := 108) X rfl dX0_init_108 ?_
              refine r_iload_n (pc := 110) X rfl dX0_init_110 ?_
              refine r_icmp_ge (pc := 111) X 124 (by decide) dX0_init_111 (fun q111 => ?_) (fun q111 => ?_)
              · skip
                refine r_iinc (pc := 124) X rfl rfl rfl dX0_init_124 ?_
                refine r_goto (pc := 127) X 47 (by decide) dX0_init_127 ?_
                first | exact bkV.drop 4 (bkV.drop 5 (ih2 (i + 1) _ _ (by omega) (by omega) (bls_f hj100 (Int32.not_le.mp q111)).2 (nI_1 i))) | (refine bkV.eq (by rw [(bls_t hj100 q111).1]) (bkV.drop 4 (bkV.drop 5 (ih2 (i + 1) _ _ (by omega) (by omega) (bls_t hj100 q111).2 (nI_1 i)))))
              · skip
                refine r_iload (pc := 114) X rfl dX0_init_114 ?_
                refine r_istore_n (pc := 116) X rfl rfl dX0_init_116 ?_
                refine r_aload_n (pc := 117) X rfl dX0_init_117 ?_
                refine gt_X0_19 (pc := 118) X (yC_o (by omega)) rfl dX0_init_118 ?_
                refine r_iload_n (pc := 121) X rfl dX0_init_121 ?_
                refine r_iload_n (pc := 122) X rfl dX0_init_122 ?_
                refine r_iast (pc := 123) X (yC_n (by omega)) (j) rfl (by omega) (by decide) dX0_init_123 ?_
                refine bkV.eq ((yS_n (by omega)).trans (by rw [(bls_f hj100 (Int32.not_le.mp q111)).1])) ?_
                refine r_iinc (pc := 124) X rfl rfl rfl dX0_init_124 ?_
                refine r_goto (pc := 127) X 47 (by decide) dX0_init_127 ?_
                first | exact bkV.drop 4 (bkV.drop 5 (ih2 (i + 1) _ _ (by omega) (by omega) (bls_f hj100 (Int32.not_le.mp q111)).2 (nI_1 i))) | (refine bkV.eq (by rw [(bls_t hj100 q111).1]) (bkV.drop 4 (bkV.drop 5 (ih2 (i + 1) _ _ (by omega) (by omega) (bls_t hj100 q111).2 (nI_1 i)))))
        exact lp47 (4 + 1) 0 _ _ (by omega) (by omega) rfl rfl
  refine bkV.extI (a := B + 2 + 0) (g := bpf 0 0 cwd 0) (yC_W (by omega) (by omega)) (fun i hi => (if_neg (by omega)).symm) ?_
  refine bkV.eq (show _ = (vW B 12 (yC G B (.inr (0, [.ref (B + 1), .ref (B + 6), .ref (B + 11)])) (pfu yZ 0 (bpf 0 0 cwd 0)) yZ jz) M) from yS_W (by omega) (by omega)) ?_
  refine bkV.extI (a := B + 2 + 1) (g := bpf 0 0 cwd 1) (yC_W (by omega) (by omega)) (fun i hi => (if_neg (by omega)).symm) ?_
  refine bkV.eq (show _ = (vW B 12 (yC G B (.inr (0, [.ref (B + 1), .ref (B + 6), .ref (B + 11)])) (pfu (pfu yZ 0 (bpf 0 0 cwd 0)) 1 (bpf 0 0 cwd 1)) yZ jz) M) from yS_W (by omega) (by omega)) ?_
  refine bkV.extI (a := B + 2 + 2) (g := bpf 0 0 cwd 2) (yC_W (by omega) (by omega)) (fun i hi => (if_neg (by omega)).symm) ?_
  refine bkV.eq (show _ = (vW B 12 (yC G B (.inr (0, [.ref (B + 1), .ref (B + 6), .ref (B + 11)])) (pfu (pfu (pfu yZ 0 (bpf 0 0 cwd 0)) 1 (bpf 0 0 cwd 1)) 2 (bpf 0 0 cwd 2)) yZ jz) M) from yS_W (by omega) (by omega)) ?_
  refine bkV.extI (a := B + 2 + 3) (g := bpf 0 0 cwd 3) (yC_W (by omega) (by omega)) (fun i hi => (if_neg (by omega)).symm) ?_
  refine bkV.eq (show _ = (vW B 12 (yC G B (.inr (0, [.ref (B + 1), .ref (B + 6), .ref (B + 11)])) (pfu (pfu (pfu (pfu yZ 0 (bpf 0 0 cwd 0)) 1 (bpf 0 0 cwd 1)) 2 (bpf 0 0 cwd 2)) 3 (bpf 0 0 cwd 3)) yZ jz) M) from yS_W (by omega) (by omega)) ?_
  refine bkV.extI (a := B + 7 + 0) (g := bpf 0 0 cds 0) (yC_D (by omega) (by omega)) (fun i hi => (if_neg (by omega)).symm) ?_
  refine bkV.eq (show _ = (vW B 12 (yC G B (.inr (0, [.ref (B + 1), .ref (B + 6), .ref (B + 11)])) (pfu (pfu (pfu (pfu yZ 0 (bpf 0 0 cwd 0)) 1 (bpf 0 0 cwd 1)) 2 (bpf 0 0 cwd 2)) 3 (bpf 0 0 cwd 3)) (pfu yZ 0 (bpf 0 0 cds 0)) jz) M) from yS_D (by omega) (by omega)) ?_
  refine bkV.extI (a := B + 7 + 1) (g := bpf 0 0 cds 1) (yC_D (by omega) (by omega)) (fun i hi => (if_neg (by omega)).symm) ?_
  refine bkV.eq (show _ = (vW B 12 (yC G B (.inr (0, [.ref (B + 1), .ref (B + 6), .ref (B + 11)])) (pfu (pfu (pfu (pfu yZ 0 (bpf 0 0 cwd 0)) 1 (bpf 0 0 cwd 1)) 2 (bpf 0 0 cwd 2)) 3 (bpf 0 0 cwd 3)) (pfu (pfu yZ 0 (bpf 0 0 cds 0)) 1 (bpf 0 0 cds 1)) jz) M) from yS_D (by omega) (by omega)) ?_
  refine bkV.extI (a := B + 7 + 2) (g := bpf 0 0 cds 2) (yC_D (by omega) (by omega)) (fun i hi => (if_neg (by omega)).symm) ?_
  refine bkV.eq (show _ = (vW B 12 (yC G B (.inr (0, [.ref (B + 1), .ref (B + 6), .ref (B + 11)])) (pfu (pfu (pfu (pfu yZ 0 (bpf 0 0 cwd 0)) 1 (bpf 0 0 cwd 1)) 2 (bpf 0 0 cwd 2)) 3 (bpf 0 0 cwd 3)) (pfu (pfu (pfu yZ 0 (bpf 0 0 cds 0)) 1 (bpf 0 0 cds 1)) 2 (bpf 0 0 cds 2)) jz) M) from yS_D (by omega) (by omega)) ?_
  refine bkV.extI (a := B + 7 + 3) (g := bpf 0 0 cds 3) (yC_D (by omega) (by omega)) (fun i hi => (if_neg (by omega)).symm) ?_
  refine bkV.eq (show _ = (vW B 12 (yC G B (.inr (0, [.ref (B + 1), .ref (B + 6), .ref (B + 11)])) (pfu (pfu (pfu (pfu yZ 0 (bpf 0 0 cwd 0)) 1 (bpf 0 0 cwd 1)) 2 (bpf 0 0 cwd 2)) 3 (bpf 0 0 cwd 3)) (pfu (pfu (pfu (pfu yZ 0 (bpf 0 0 cds 0)) 1 (bpf 0 0 cds 1)) 2 (bpf 0 0 cds 2)) 3 (bpf 0 0 cds 3)) jz) M) from yS_D (by omega) (by omega)) ?_
  refine bkV.extI (a := B + 11) (g := bpn 0 0) (yC_n (by omega)) (fun i hi => bpn_0 hi) ?_
  refine bkV.eq (show _ = (vW B 12 (yC G B (.inr (0, [.ref (B + 1), .ref (B + 6), .ref (B + 11)])) (pfu (pfu (pfu (pfu yZ 0 (bpf 0 0 cwd 0)) 1 (bpf 0 0 cwd 1)) 2 (bpf 0 0 cwd 2)) 3 (bpf 0 0 cwd 3)) (pfu (pfu (pfu (pfu yZ 0 (bpf 0 0 cds 0)) 1 (bpf 0 0 cds 1)) 2 (bpf 0 0 cds 2)) 3 (bpf 0 0 cds 3)) (bpn 0 0)) M) from yS_n (by omega)) ?_
  refine bkV.eq (show _ = (vW B 12 (yC G B (.inr (0, [.ref (B + 1), .ref (B + 6), .ref (B + 11)])) (bpf 0 0 cwd) (bpf 0 0 cds) (bpn 0 0)) M) from yC_cg (fun l hl => by rcases (by omega : l = 0 ∨ l = 1 ∨ l = 2 ∨ l = 3) with z | z | z | z <;> subst z <;> rfl) (fun l hl => by rcases (by omega : l = 0 ∨ l = 1 ∨ l = 2 ∨ l = 3) with z | z | z | z <;> subst z <;> rfl) rfl) ?_
  refine bkV.z (Z2 := fun z => z = B + 12) (fun z h => Eq.trans h (by omega)) ?_
  refine bkV.kn (k2 := 11) (n2 := 908) rfl rfl ?_
  exact lp36 (100 + 1) 0 _ (by omega) (by omega) rfl

