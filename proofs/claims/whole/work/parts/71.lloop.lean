/-! the law's loop and its entry -/
theorem lcmp {Ls i : Nat} (hL : Ls ≤ 2560) (hi : i ≤ 3000) : nI Ls - 5 < nI i ↔ Ls < i + 5 := by
  by_cases h : 5 ≤ Ls
  · obtain ⟨m, rfl⟩ : ∃ m, Ls = m + 5 := ⟨Ls - 5, by omega⟩
    have e : nI (m + 5) - 5 = nI m := by
      rw [← nI_add m 5]
      show nI m + 5 - 5 = nI m
      grind
    rw [e, nI_ltI (by omega) (by omega)]
    omega
  · have e : nI Ls - 5 < nI i := by
      refine Int32.lt_of_lt_of_le ?_ (nI_pos' (n := i) (by omega))
      match Ls, h with
      | 0, _ => decide
      | 1, _ => decide
      | 2, _ => decide
      | 3, _ => decide
      | 4, _ => decide
      | k + 5, h => exact absurd (by omega) h
    exact ⟨fun _ => by omega, fun _ => e⟩
theorem LI_0 : LI (fun _ => jS0) (fun _ => jg0) (fun i => 3 + i) 0 0 jz 0 jS0 jz jz jz := by
  refine ⟨fun _ _ => rfl, ⟨0, ⟨by omega, jS0_z (by omega) (by omega), fun c hc => Or.inl (jS0_z (by omega) (by omega)), fun k hk => ⟨⟨0, by omega, jS0_z (by omega) (by omega)⟩, ⟨0, by omega, jS0_z (by omega) (by omega)⟩, ⟨0, by omega, jS0_z (by omega) (by omega)⟩⟩⟩, fun l hl => ?_, cgo_0⟩, ⟨by omega, fun i hi => ⟨show 3 ≤ 3 + i by omega, show 3 + i < 7 by omega, fun j hj e => Nat.add_left_cancel e⟩, rfl⟩, ⟨rfl, by omega, fun j _ => ⟨rfl, rfl⟩⟩, fun i hi => absurd hi (Nat.not_lt_zero _), rfl, fun z => absurd rfl z⟩
  match l, hl with
  | 0, _ => exact ⟨⟨0, by omega, rfl⟩, ⟨1, by omega, rfl⟩, ⟨5, by omega, rfl⟩, ⟨0, by omega, rfl⟩⟩
  | 1, _ => exact ⟨⟨1, by omega, rfl⟩, ⟨1, by omega, rfl⟩, ⟨5, by omega, rfl⟩, ⟨0, by omega, rfl⟩⟩
  | 2, _ => exact ⟨⟨2, by omega, rfl⟩, ⟨1, by omega, rfl⟩, ⟨5, by omega, rfl⟩, ⟨0, by omega, rfl⟩⟩
  | 3, _ => exact ⟨⟨3, by omega, rfl⟩, ⟨1, by omega, rfl⟩, ⟨5, by omega, rfl⟩, ⟨0, by omega, rfl⟩⟩
  | l + 4, h => exact absurd h (by omega)
set_option maxHeartbeats 2000000 in
set_option maxRecDepth 100000 in
theorem law_loop {E : bkEnv} {G : bkG} {x b Ls : Nat} {xs : Nat → Int32} {M : bkM} (X : bkX E G RL cL_law 8 ret room_1) (hXs : va_X b Ls xs (eS E) (eS E).heap) (hbl : b < (eS E).heap.size) (hbA : ¬ bkA G b) (hL : Ls ≤ 2560) (K : ∀ (M' : bkM) (Z' : Nat → Prop) (L' : List (Option Value)), bkV E G Z' 600000 7302250 M' 805 L' [.int 1]) {r : Nat} (hr : x + 185 ≤ r) : ∀ (d i : Nat) (y : Int32) (S O : Nat → Nat → Int32) (od : Nat → Nat) (np : Nat) (kp : Int32) (t : Nat → Int32) (len : Nat) (pc pl : Int32) (pf : Nat → Nat → Int32) (s a p q o f : Nat → Int32), LI S O od np kp t len s p q f → y = nI i → Ls < i + d → i ≤ Ls + 5 → bkV E G (fun z => z = r + 7) 192 3411 (xW G x S O od (nI np) kp t (nI len) pc pl pf (mW G M r s a p q t o f)) 18 [some (.ref b), some (.ref x), some (.ref r), some (.int y), none, none, none, none] [] := by
  intro d
  induction d with
  | zero =>
    intro i y S O od np kp t len pc pl pf s a p q o f hI ey hd hi
    subst ey
    refine r_iload_n (pc := 18) X rfl dL_law_18 ?_
    refine r_aload_n (pc := 19) X rfl dL_law_19 ?_
    refine r_slen (pc := 20) X hXs hbl hbA dL_law_20 ?_
    refine r_iconst (pc := 21) (v := 5) X rfl dL_law_21 ?_
    refine r_isub (pc := 22) X dL_law_22 ?_
    refine r_icmp_gt (pc := 23) X 804 (by decide) dL_law_23 (fun q23 => ?_) (fun q23 => ?_)
    · skip
      refine r_iconst (pc := 804) (v := 1) X rfl dL_law_804 ?_
      exact bkV.widen (by omega) (by omega) (K _ _ _)
    · skip
      exact absurd ((lcmp hL (by omega)).mpr (by omega)) q23
  | succ d ih =>
    intro i y S O od np kp t len pc pl pf s a p q o f hI ey hd hi
    subst ey
    have hB : i + 5 ≤ Ls → LB E G x r b i M := by
      intro hi5 S O od np kp t len pc pl pf s a p q o f hI
      refine r_iinc (pc := 798) X rfl rfl rfl dL_law_798 ?_
      refine r_goto (pc := 801) X 18 (by decide) dL_law_801 ?_
      exact ih (i + 5) _ _ _ _ _ _ _ _ _ _ _ _ _ _ _ _ _ hI (nI_add i 5) (by omega) (by omega)
    refine r_iload_n (pc := 18) X rfl dL_law_18 ?_
    refine r_aload_n (pc := 19) X rfl dL_law_19 ?_
    refine r_slen (pc := 20) X hXs hbl hbA dL_law_20 ?_
    refine r_iconst (pc := 21) (v := 5) X rfl dL_law_21 ?_
    refine r_isub (pc := 22) X dL_law_22 ?_
    refine r_icmp_gt (pc := 23) X 804 (by decide) dL_law_23 (fun q23 => ?_) (fun q23 => ?_)
    · skip
      refine r_iconst (pc := 804) (v := 1) X rfl dL_law_804 ?_
      exact bkV.widen (by omega) (by omega) (K _ _ _)
    · skip
      have hi5 : i + 5 ≤ Ls := Nat.not_lt.mp (fun z => q23 ((lcmp hL (by omega)).mpr z))
      refine bkV.eq (xW_congr (k := 0) (by decide) (fun m hm => hI.1 m hm)) ?_
      refine r_aload_n (pc := 26) X rfl dL_law_26 ?_
      refine r_iload_n (pc := 27) X rfl dL_law_27 ?_
      refine r_sld (pc := 28) X hXs hbl hbA (i) rfl (by omega) (by omega) dL_law_28 ?_
      refine r_bipush (pc := 29) (v := 31) X rfl dL_law_29 ?_
      refine r_iand (pc := 31) X dL_law_31 ?_
      rcases tb_case 23 (by decide) (xs i &&& 31) with ⟨w9, hw9, e9⟩ | ⟨hq, hne⟩
      · refine bk_top e9 ?_
        match w9, hw9 with
        | 0, _ =>
          refine r_tableIn (pc := 32) X 144 (by decide) (by decide) rfl (by decide) dL_law_32 ?_
          exact lc_rock X hXs hbl hbA hL hr hi5 (hB hi5) hI.strict pfu_at
        | 1, _ =>
          refine r_tableIn (pc := 32) X 167 (by decide) (by decide) rfl (by decide) dL_law_32 ?_
          exact lc_light X hXs hbl hbA hL hr hi5 (hB hi5) hI.strict pfu_at
        | 2, _ =>
          refine r_tableIn (pc := 32) X 210 (by decide) (by decide) rfl (by decide) dL_law_32 ?_
          exact lc_ship X hXs hbl hbA hL hr hi5 (hB hi5) hI.strict pfu_at
        | 3, _ =>
          refine r_tableIn (pc := 32) X 253 (by decide) (by decide) rfl (by decide) dL_law_32 ?_
          exact lc_doAll X hXs hbl hbA hL hr hi5 (hB hi5) hI.strict pfu_at
        | 4, _ =>
          refine r_tableIn (pc := 32) X 266 (by decide) (by decide) rfl (by decide) dL_law_32 ?_
          exact lc_card X hXs hbl hbA hL hr hi5 (hB hi5) hI.strict pfu_at
        | 5, _ =>
          refine r_tableIn (pc := 32) X 299 (by decide) (by decide) rfl (by decide) dL_law_32 ?_
          exact lc_pass X hXs hbl hbA hL hr hi5 (hB hi5) hI.strict pfu_at
        | 6, _ =>
          refine r_tableIn (pc := 32) X 322 (by decide) (by decide) rfl (by decide) dL_law_32 ?_
          exact lc_wage X hXs hbl hbA hL hr hi5 (hB hi5) hI.strict pfu_at
        | 7, _ =>
          refine r_tableIn (pc := 32) X 345 (by decide) (by decide) rfl (by decide) dL_law_32 ?_
          exact lc_type X hXs hbl hbA hL hr hi5 (hB hi5) hI.strict pfu_at
        | 8, _ =>
          refine r_tableIn (pc := 32) X 370 (by decide) (by decide) rfl (by decide) dL_law_32 ?_
          exact lc_clearText X hXs hbl hbA hL hr hi5 (hB hi5) hI.strict pfu_at
        | 9, _ =>
          refine r_tableIn (pc := 32) X 383 (by decide) (by decide) rfl (by decide) dL_law_32 ?_
          exact lc_fault X hXs hbl hbA hL hr hi5 (hB hi5) hI.strict pfu_at
        | 10, _ =>
          refine r_tableIn (pc := 32) X 396 (by decide) (by decide) rfl (by decide) dL_law_32 ?_
          exact lc_undo X hXs hbl hbA hL hr hi5 (hB hi5) hI.strict pfu_at
        | 11, _ =>
          refine r_tableIn (pc := 32) X 409 (by decide) (by decide) rfl (by decide) dL_law_32 ?_
          exact lc_keep X hXs hbl hbA hL hr hi5 (hB hi5) hI.strict pfu_at
        | 12, _ =>
          refine r_tableIn (pc := 32) X 422 (by decide) (by decide) rfl (by decide) dL_law_32 ?_
          exact lc_restore X hXs hbl hbA hL hr hi5 (hB hi5) hI.strict pfu_at
        | 13, _ =>
          refine r_tableIn (pc := 32) X 435 (by decide) (by decide) rfl (by decide) dL_law_32 ?_
          exact lc_cellOf X hXs hbl hbA hL hr hi5 (hB hi5) hI.strict pfu_at
        | 14, _ =>
          refine r_tableIn (pc := 32) X 468 (by decide) (by decide) rfl (by decide) dL_law_32 ?_
          exact lc_lightOf X hXs hbl hbA hL hr hi5 (hB hi5) hI.strict pfu_at
        | 15, _ =>
          refine r_tableIn (pc := 32) X 501 (by decide) (by decide) rfl (by decide) dL_law_32 ?_
          exact lc_keeperOf X hXs hbl hbA hL hr hi5 (hB hi5) hI.strict pfu_at
        | 16, _ =>
          refine r_tableIn (pc := 32) X 534 (by decide) (by decide) rfl (by decide) dL_law_32 ?_
          exact lc_shipOf X hXs hbl hbA hL hr hi5 (hB hi5) hI.strict pfu_at
        | 17, _ =>
          refine r_tableIn (pc := 32) X 567 (by decide) (by decide) rfl (by decide) dL_law_32 ?_
          exact lc_isLit X hXs hbl hbA hL hr hi5 (hB hi5) hI.strict pfu_at
        | 18, _ =>
          refine r_tableIn (pc := 32) X 620 (by decide) (by decide) rfl (by decide) dL_law_32 ?_
          exact lc_why X hXs hbl hbA hL hr hi5 (hB hi5) hI.strict pfu_at
        | 19, _ =>
          refine r_tableIn (pc := 32) X 653 (by decide) (by decide) rfl (by decide) dL_law_32 ?_
          exact lc_count X hXs hbl hbA hL hr hi5 (hB hi5) hI.strict pfu_at
        | 20, _ =>
          refine r_tableIn (pc := 32) X 676 (by decide) (by decide) rfl (by decide) dL_law_32 ?_
          exact lc_share X hXs hbl hbA hL hr hi5 (hB hi5) hI.strict pfu_at
        | 21, _ =>
          refine r_tableIn (pc := 32) X 729 (by decide) (by decide) rfl (by decide) dL_law_32 ?_
          exact lc_litIn X hXs hbl hbA hL hr hi5 (hB hi5) hI.strict pfu_at
        | 22, _ =>
          refine r_tableIn (pc := 32) X 752 (by decide) (by decide) rfl (by decide) dL_law_32 ?_
          exact lc_ifPassed X hXs hbl hbA hL hr hi5 (hB hi5) hI.strict pfu_at
        | 23, _ =>
          refine r_tableIn (pc := 32) X 775 (by decide) (by decide) rfl (by decide) dL_law_32 ?_
          exact lc_bestCard X hXs hbl hbA hL hr hi5 (hB hi5) hI.strict pfu_at
        | w9 + 24, hw9 => exact absurd hw9 (by omega)
      · refine r_tableOut (pc := 32) X 798 hq (by decide) dL_law_32 ?_
        exact hB hi5 _ _ _ _ _ _ _ _ _ _ _ _ _ _ _ _ hI.strict

set_option maxHeartbeats 2000000 in
set_option maxRecDepth 100000 in
theorem law_main {E : bkEnv} {G : bkG} {x b Ls : Nat} {xs : Nat → Int32} {M : bkM} (X : bkX E G RL cL_law 8 ret room_1) (hXs : va_X b Ls xs (eS E) (eS E).heap) (hbl : b < (eS E).heap.size) (hbA : ¬ bkA G b) (hL : Ls ≤ 2560) (K : ∀ (M' : bkM) (Z' : Nat → Prop) (L' : List (Option Value)), bkV E G Z' 600000 7302250 M' 805 L' [.int 1]) : bkV E G (fun z => z = x) 0 0 M 0 [some (.ref b), none, none, none, none, none, none, none] [] := by
  refine r_new (pc := 0) X (a := x) (ci := 8) rfl inX8 tyX8 tyX8_ok dfX8 dfX8_ok cl_L_7 ins_X8 ini_X8 ⟨Nat.le_of_ble_eq_true rfl, Nat.le_of_ble_eq_true rfl⟩ dL_law_0 ?_
  refine r_dup (pc := 3) X rfl dL_law_3 ?_
  refine ca_L_9 (pc := 4) X (c_X8_init) rfl rfl rfl dL_law_4 (fun M4 hp4 => ?_)
  obtain rfl := hp4
  refine r_astore_n (pc := 7) X rfl rfl dL_law_7 ?_
  refine r_new (pc := 8) X (a := (x + 185)) (ci := 9) rfl inX9 tyX9 tyX9_ok dfX9 dfX9_ok cl_L_10 ins_X9 ini_X9 ⟨Nat.le_of_ble_eq_true rfl, Nat.le_of_ble_eq_true rfl⟩ dL_law_8 ?_
  refine r_dup (pc := 11) X rfl dL_law_11 ?_
  refine ca_L_12 (pc := 12) X (c_X9_init) rfl rfl rfl dL_law_12 (fun M12 hp12 => ?_)
  obtain rfl := hp12
  refine bkV.eq (mx_comm (Nat.le_refl _)) ?_
  refine r_astore_n (pc := 15) X rfl rfl dL_law_15 ?_
  refine r_iconst (pc := 16) (v := 0) X rfl dL_law_16 ?_
  refine r_istore_n (pc := 17) X rfl rfl dL_law_17 ?_
  exact law_loop X hXs hbl hbA hL K (Nat.le_refl _) (Ls + 1) 0 0 (fun _ => jS0) (fun _ => jg0) (fun i => 3 + i) 0 0 jz 0 0 0 (fun _ => pt0) jS0 jz jz jz jz jz LI_0 rfl (by omega) (by omega)
