set_option maxHeartbeats 4000000 in
set_option maxRecDepth 100000 in
theorem c_J6_bitCount_0f7a4 {G : bkG} {Z : Nat → Prop} {M : bkM} (m : Nat) (hm : m < 1024) : bkCi G Z Z yJ6_bitCount_0f7a4 cJ6_bitCount_0f7a4 1 (some .int) 0 0 0 [.int (nI m)] M (fun v M' => v = nI (jpc 10 m) ∧ M' = M) := by
  refine bk_meti [some (.int (nI m))] rfl pf_J6_bitCount_0f7a4 rfl rfl (fun E X K => ?_)
  refine r_iload_n (pc := 0) X rfl dJ6_bitCount_0f7a4_0 ?_
  refine r_iload_n (pc := 1) X rfl dJ6_bitCount_0f7a4_1 ?_
  refine r_iconst (pc := 2) (v := 1) X rfl dJ6_bitCount_0f7a4_2 ?_
  refine r_iushr (pc := 3) X dJ6_bitCount_0f7a4_3 ?_
  refine r_ldcw (pc := 4) X co_J6_265 dJ6_bitCount_0f7a4_4 ?_
  refine r_iand (pc := 7) X dJ6_bitCount_0f7a4_7 ?_
  refine r_isub (pc := 8) X dJ6_bitCount_0f7a4_8 ?_
  refine r_istore_n (pc := 9) X rfl rfl dJ6_bitCount_0f7a4_9 ?_
  refine r_iload_n (pc := 10) X rfl dJ6_bitCount_0f7a4_10 ?_
  refine r_ldcw (pc := 11) X co_J6_266 dJ6_bitCount_0f7a4_11 ?_
  refine r_iand (pc := 14) X dJ6_bitCount_0f7a4_14 ?_
  refine r_iload_n (pc := 15) X rfl dJ6_bitCount_0f7a4_15 ?_
  refine r_iconst (pc := 16) (v := 2) X rfl dJ6_bitCount_0f7a4_16 ?_
  refine r_iushr (pc := 17) X dJ6_bitCount_0f7a4_17 ?_
  refine r_ldcw (pc := 18) X co_J6_266 dJ6_bitCount_0f7a4_18 ?_
  refine r_iand (pc := 21) X dJ6_bitCount_0f7a4_21 ?_
  refine r_iadd (pc := 22) X dJ6_bitCount_0f7a4_22 ?_
  refine r_istore_n (pc := 23) X rfl rfl dJ6_bitCount_0f7a4_23 ?_
  refine r_iload_n (pc := 24) X rfl dJ6_bitCount_0f7a4_24 ?_
  refine r_iload_n (pc := 25) X rfl dJ6_bitCount_0f7a4_25 ?_
  refine r_iconst (pc := 26) (v := 4) X rfl dJ6_bitCount_0f7a4_26 ?_
  refine r_iushr (pc := 27) X dJ6_bitCount_0f7a4_27 ?_
  refine r_iadd (pc := 28) X dJ6_bitCount_0f7a4_28 ?_
  refine r_ldcw (pc := 29) X co_J6_267 dJ6_bitCount_0f7a4_29 ?_
  refine r_iand (pc := 32) X dJ6_bitCount_0f7a4_32 ?_
  refine r_istore_n (pc := 33) X rfl rfl dJ6_bitCount_0f7a4_33 ?_
  refine r_iload_n (pc := 34) X rfl dJ6_bitCount_0f7a4_34 ?_
  refine r_iload_n (pc := 35) X rfl dJ6_bitCount_0f7a4_35 ?_
  refine r_bipush (pc := 36) (v := 8) X rfl dJ6_bitCount_0f7a4_36 ?_
  refine r_iushr (pc := 38) X dJ6_bitCount_0f7a4_38 ?_
  refine r_iadd (pc := 39) X dJ6_bitCount_0f7a4_39 ?_
  refine r_istore_n (pc := 40) X rfl rfl dJ6_bitCount_0f7a4_40 ?_
  refine r_iload_n (pc := 41) X rfl dJ6_bitCount_0f7a4_41 ?_
  refine r_iload_n (pc := 42) X rfl dJ6_bitCount_0f7a4_42 ?_
  refine r_bipush (pc := 43) (v := 16) X rfl dJ6_bitCount_0f7a4_43 ?_
  refine r_iushr (pc := 45) X dJ6_bitCount_0f7a4_45 ?_
  refine r_iadd (pc := 46) X dJ6_bitCount_0f7a4_46 ?_
  refine r_istore_n (pc := 47) X rfl rfl dJ6_bitCount_0f7a4_47 ?_
  refine r_iload_n (pc := 48) X rfl dJ6_bitCount_0f7a4_48 ?_
  refine r_bipush (pc := 49) (v := 63) X rfl dJ6_bitCount_0f7a4_49 ?_
  refine r_iand (pc := 51) X dJ6_bitCount_0f7a4_51 ?_
  exact K dJ6_bitCount_0f7a4_52 ⟨(jbc_eq m hm).symm ▸ rfl, rfl⟩

set_option maxHeartbeats 4000000 in
set_option maxRecDepth 100000 in
theorem c_X6_rocks {G : bkG} {Z : Nat → Prop} {M : bkM} {B b : Nat} {s go : Nat → Int32} : bkCi G Z Z yX6_rocks cX6_rocks 6 (some .int) 1 0 0 [.ref b] (sW G B b s go M) (fun v M' => v = nI (jct (fun c => decide (s c = 1)) 100) ∧ M' = sW G B b s go M) := by
  refine bk_meti [some (.ref b), none, none, none, none, none] rfl pf_X6_rocks rfl rfl (fun E X K => ?_)
  refine r_iconst (pc := 0) (v := 0) X rfl dX6_rocks_0 ?_
  refine r_istore_n (pc := 1) X rfl rfl dX6_rocks_1 ?_
  refine r_aload_n (pc := 2) X rfl dX6_rocks_2 ?_
  refine gt_X6_9 (pc := 3) X sW_o rfl dX6_rocks_3 ?_
  refine r_astore_n (pc := 6) X rfl rfl dX6_rocks_6 ?_
  refine r_aload_n (pc := 7) X rfl dX6_rocks_7 ?_
  refine r_alen (pc := 8) (t := 0) X sW_r 0 rfl dX6_rocks_8 ?_
  refine r_istore_n (pc := 9) X rfl rfl dX6_rocks_9 ?_
  refine r_iconst (pc := 10) (v := 0) X rfl dX6_rocks_10 ?_
  refine r_istore (pc := 11) X rfl rfl dX6_rocks_11 ?_
  have lp13 : ∀ (d j : Nat) (x : Int32) (y : Int32), j ≤ 10 → 10 < j + d → (x = nI (jct (fun c => decide (s c = 1)) (10 * j))) → (y = nI j) → bkV E G Z 0 0 (sW G B b s go M) 13 [some (.ref b), some (.int x), some (.ref (b + 1)), some (.int (nI 10)), some (.int y), none] [] := by
    intro d
    induction d with
    | zero => intro j x y; intros; exfalso; omega
    | succ d ih =>
      intro j x y hj hd e1 e2
      subst e1
      subst e2
      refine r_iload (pc := 13) X rfl dX6_rocks_13 ?_
      refine r_iload_n (pc := 15) X rfl dX6_rocks_15 ?_
      refine r_icmpN_ge (pc := 16) X 39 (j) (10) rfl rfl (by omega) (by omega) (by decide) dX6_rocks_16 (fun q16 => ?_) (fun q16 => ?_)
      · skip
        refine r_iload_n (pc := 39) X rfl dX6_rocks_39 ?_
        exact K dX6_rocks_40 ⟨by rw [show j = 10 by omega], rfl⟩
      · skip
        refine r_aload_n (pc := 19) X rfl dX6_rocks_19 ?_
        refine r_iload (pc := 20) X rfl dX6_rocks_20 ?_
        refine r_iald (pc := 22) X sW_r (j) rfl (by omega) (by decide) dX6_rocks_22 ?_
        refine bk_top (jrow_n (by omega)) ?_
        refine r_istore (pc := 23) X rfl rfl dX6_rocks_23 ?_
        refine r_iload_n (pc := 25) X rfl dX6_rocks_25 ?_
        refine r_iload (pc := 26) X rfl dX6_rocks_26 ?_
        refine ca_X6_72 (pc := 28) X (c_J6_bitCount_0f7a4 _ (jset_t10 (jrp2 s j))) rfl rfl rfl dX6_rocks_28 (fun r28 M28 hp28 => ?_)
        obtain ⟨rfl, rfl⟩ := hp28
        refine r_iadd (pc := 31) X dX6_rocks_31 ?_
        refine r_istore_n (pc := 32) X rfl rfl dX6_rocks_32 ?_
        refine r_iinc (pc := 33) X rfl rfl rfl dX6_rocks_33 ?_
        refine r_goto (pc := 36) X 13 (by decide) dX6_rocks_36 ?_
        exact bkV.drop 5 (ih (j + 1) _ _ (by omega) (by omega) jrow_sum (nI_1 j))
  exact lp13 (10 + 1) 0 _ _ (by omega) (by omega) rfl rfl

theorem jbr_no {v : Int32} (h : jin v 0 99 = false) : jbr v = -1 := by unfold jbr; rw [if_neg (by rw [h]; decide)]
theorem jbr_hit {v : Int32} (h : jin v 0 99 = true) (g : jhome v = true) : jbr v = -4 := by unfold jbr; rw [if_pos h, if_pos g]
theorem jbr_ok {v : Int32} (h : jin v 0 99 = true) (g : ∀ i, i < 4 → v ≠ bkLC i) : jbr v = 0 := by
  unfold jbr
  rw [if_pos h, if_neg (fun z => by obtain ⟨i, hi, e⟩ := jbr_home.mp z; exact g i hi e)]
set_option maxHeartbeats 4000000 in
set_option maxRecDepth 100000 in
theorem c_X6_rockError {G : bkG} {Z : Nat → Prop} {M : bkM} {B b : Nat} {s go : Nat → Int32} (v : Int32) : bkCi G Z Z yX6_rockError cX6_rockError 6 (some .int) 1 0 0 [.ref b, .int v] (sW G B b s go M) (fun x M' => x = jbr v ∧ M' = sW G B b s go M) := by
  refine bk_meti [some (.ref b), some (.int v), none, none, none, none] rfl pf_X6_rockError rfl rfl (fun E X K => ?_)
  refine r_iload_n (pc := 0) X rfl dX6_rockError_0 ?_
  refine ca_X6_68 (pc := 1) X (c_X8_isCell v) rfl rfl rfl dX6_rockError_1 (fun r1 M1 hp1 => ?_)
  obtain ⟨rfl, rfl⟩ := hp1
  refine r_if_ne (pc := 4) X 9 (by decide) dX6_rockError_4 (fun q4 => ?_) (fun q4 => ?_)
  · skip
    refine r_getsN (pc := 9) X (fun z => z.1) X.nw.2.1.2.2 dX6_rockError_9 ?_
    refine r_astore_n (pc := 12) X rfl rfl dX6_rockError_12 ?_
    refine r_aload_n (pc := 13) X rfl dX6_rockError_13 ?_
    refine r_alenS (pc := 14) X (fun z => z.1) dX6_rockError_14 ?_
    refine r_istore_n (pc := 15) X rfl rfl dX6_rockError_15 ?_
    refine r_iconst (pc := 16) (v := 0) X rfl dX6_rockError_16 ?_
    refine r_istore (pc := 17) X rfl rfl dX6_rockError_17 ?_
    have lp19 : ∀ (d j : Nat) (y : Int32), j ≤ 4 → 4 < j + d → (y = nI j) → (∀ i, i < j → v ≠ bkLC i) → bkV E G Z 0 0 (sW G B b s go M) 19 [some (.ref b), some (.int v), some (.ref (G.2.2.2.1 0)), some (.int 4), some (.int y), none] [] := by
      intro d
      induction d with
      | zero => intro j y; intros; exfalso; omega
      | succ d ih =>
        intro j y hj hd e1 e2
        subst e1
        refine r_iload (pc := 19) X rfl dX6_rockError_19 ?_
        refine r_iload_n (pc := 21) X rfl dX6_rockError_21 ?_
        refine r_icmpN_ge (pc := 22) X 46 (j) (4) rfl rfl (by omega) (by omega) (by decide) dX6_rockError_22 (fun q22 => ?_) (fun q22 => ?_)
        · skip
          refine r_iconst (pc := 46) (v := 0) X rfl dX6_rockError_46 ?_
          exact K dX6_rockError_47 ⟨(jbr_ok (bi_n0.mp q4) (fun i hi => e2 i (by omega))).symm, rfl⟩
        · skip
          refine r_aload_n (pc := 25) X rfl dX6_rockError_25 ?_
          refine r_iload (pc := 26) X rfl dX6_rockError_26 ?_
          refine r_ialdS (pc := 28) X (fun z => z.1) (j) rfl (by omega) dX6_rockError_28 ?_
          refine r_istore (pc := 29) X rfl rfl dX6_rockError_29 ?_
          refine r_iload_n (pc := 31) X rfl dX6_rockError_31 ?_
          refine r_iload (pc := 32) X rfl dX6_rockError_32 ?_
          refine r_icmp_ne (pc := 34) X 40 (by decide) dX6_rockError_34 (fun q34 => ?_) (fun q34 => ?_)
          · skip
            refine r_iinc (pc := 40) X rfl rfl rfl dX6_rockError_40 ?_
            refine r_goto (pc := 43) X 19 (by decide) dX6_rockError_43 ?_
            refine bkV.drop 5 (ih (j + 1) _ (by omega) (by omega) (nI_1 j) (fun i hi => ?_))
            rcases Nat.lt_or_ge i j with z | z
            · exact e2 i z
            · obtain rfl : i = j := by omega
              exact q34
          · skip
            refine r_bipush (pc := 37) (v := (-4)) X rfl dX6_rockError_37 ?_
            exact K dX6_rockError_39 ⟨(jbr_hit (bi_n0.mp q4) (jbr_home.mpr ⟨j, q22, q34⟩)).symm, rfl⟩
    exact lp19 (4 + 1) 0 _ (by omega) (by omega) rfl (fun i hi => absurd hi (Nat.not_lt_zero i))
  · skip
    refine r_iconst (pc := 7) (v := (-1)) X rfl dX6_rockError_7 ?_
    exact K dX6_rockError_8 ⟨(jbr_no (bi_0.mp q4)).symm, rfl⟩

set_option maxHeartbeats 4000000 in
set_option maxRecDepth 100000 in
theorem c_X6_turnRock {G : bkG} {Z : Nat → Prop} {M : bkM} {B b : Nat} {s go : Nat → Int32} (c : Nat) (hc : c < 100) (h01 : s c = 0 ∨ s c = 1) : bkCv G Z Z yX6_turnRock cX6_turnRock 2 1 0 0 [.ref b, .int (nI c)] (sW G B b s go M) (fun M' => M' = sW G B b (upd s c (1 - s c)) go M) := by
  refine bk_metv [some (.ref b), some (.int (nI c))] rfl pf_X6_turnRock rfl rfl (fun E X hn K => ?_)
  refine r_iload_n (pc := 0) X rfl dX6_turnRock_0 ?_
  refine ca_X6_68 (pc := 1) X (c_X8_isCell (nI c)) rfl rfl rfl dX6_turnRock_1 (fun r1 M1 hp1 => ?_)
  obtain ⟨rfl, rfl⟩ := hp1
  refine r_if_eq (pc := 4) X 25 (by decide) dX6_turnRock_4 (fun q4 => ?_) (fun q4 => ?_)
  · skip
    exact absurd (bi_0.mp q4) (by rw [jin_99 hc]; decide)
  · skip
    refine r_aload_n (pc := 7) X rfl dX6_turnRock_7 ?_
    refine gt_X6_9 (pc := 8) X sW_o rfl dX6_turnRock_8 ?_
    refine r_iload_n (pc := 11) X rfl dX6_turnRock_11 ?_
    refine r_bipush (pc := 12) (v := 10) X rfl dX6_turnRock_12 ?_
    refine r_idiv (pc := 14) X (by decide) dX6_turnRock_14 ?_
    refine bk_top (pk_div (a := c) (d := 10) (by omega) (by omega) (by omega)) ?_
    refine r_dup2 (pc := 15) X rfl rfl dX6_turnRock_15 ?_
    refine r_iald (pc := 16) X sW_r (c / 10) rfl (by omega) (by decide) dX6_turnRock_16 ?_
    refine r_iconst (pc := 17) (v := 1) X rfl dX6_turnRock_17 ?_
    refine r_iload_n (pc := 18) X rfl dX6_turnRock_18 ?_
    refine r_bipush (pc := 19) (v := 10) X rfl dX6_turnRock_19 ?_
    refine r_irem (pc := 21) X (by decide) dX6_turnRock_21 ?_
    refine bk_top (pk_rem (a := c) (d := 10) (by omega) (by omega) (by omega)) ?_
    refine r_ishl (pc := 22) X dX6_turnRock_22 ?_
    refine r_ixor (pc := 23) X dX6_turnRock_23 ?_
    refine r_iast (pc := 24) X sW_r (c / 10) rfl (by omega) (by decide) dX6_turnRock_24 ?_
    refine bkV.eq (congrArg (fun z => bku _ _ (aI G 10 z)) (jrow_flip hc h01)) ?_
    refine bkV.eq (sS_r (fun m _ hm => upd_n (fun e => hm (by rw [e]; exact jow_r hc)))) ?_
    exact K dX6_turnRock_25 rfl

set_option maxHeartbeats 4000000 in
set_option maxRecDepth 100000 in
theorem c_X6_shipError {G : bkG} {Z : Nat → Prop} {M : bkM} {B b : Nat} {s go : Nat → Int32} {n : Nat} (hw : jwf s n) (hg : cgo s n go) (w c h : Int32) : bkCi G Z Z yX6_shipError cX6_shipError 4 (some .int) 2 0 0 [.ref b, .int w, .int c, .int h] (sW G B b s go M) (fun v M' => v = jbs s n w c h ∧ M' = sW G B b s go M) := by
  refine bk_meti [some (.ref b), some (.int w), some (.int c), some (.int h)] rfl pf_X6_shipError rfl rfl (fun E X K => ?_)
  refine r_iload_n (pc := 0) X rfl dX6_shipError_0 ?_
  refine ca_X6_68 (pc := 1) X (c_X8_isCell c) rfl rfl rfl dX6_shipError_1 (fun r1 M1 hp1 => ?_)
  obtain ⟨rfl, rfl⟩ := hp1
  refine r_if_eq (pc := 4) X 14 (by decide) dX6_shipError_4 (fun q4 => ?_) (fun q4 => ?_)
  · skip
    refine r_iconst (pc := 14) (v := (-1)) X rfl dX6_shipError_14 ?_
    exact K dX6_shipError_15 ⟨by clear K X; have h8 : (s 180 = 8) ↔ n = 8 := (by rw [hw.2.1]; exact nI_eq (a := n) (b := 8) (by have := hw.1; omega) (by omega)); have hle := hw.1; unfold jbs; grind [jin, bi_0, bi_n0], rfl⟩
  · skip
    refine r_iload_n (pc := 7) X rfl dX6_shipError_7 ?_
    refine ca_X6_68 (pc := 8) X (c_X8_isCell h) rfl rfl rfl dX6_shipError_8 (fun r8 M8 hp8 => ?_)
    obtain ⟨rfl, rfl⟩ := hp8
    refine r_if_ne (pc := 11) X 16 (by decide) dX6_shipError_11 (fun q11 => ?_) (fun q11 => ?_)
    · skip
      obtain ⟨cn, hcn, rfl⟩ := jin_of (n := 99) rfl (by decide) (bi_n0.mp q4)
      obtain ⟨hn2, hhn, rfl⟩ := jin_of (n := 99) rfl (by decide) (bi_n0.mp q11)
      have tc : tn (nI cn) = cn := tn_nI (by omega)
      have th : tn (nI hn2) = hn2 := tn_nI (by omega)
      have rc := rk_01 (hw.2.2.1 cn (by omega))
      have rh := rk_01 (hw.2.2.1 hn2 (by omega))
      refine r_iload_n (pc := 16) X rfl dX6_shipError_16 ?_
      refine r_iconst (pc := 17) (v := 1) X rfl dX6_shipError_17 ?_
      refine r_icmp_lt (pc := 18) X 27 (by decide) dX6_shipError_18 (fun q18 => ?_) (fun q18 => ?_)
      · skip
        refine r_bipush (pc := 27) (v := (-2)) X rfl dX6_shipError_27 ?_
        exact K dX6_shipError_29 ⟨by clear K X; have h8 : (s 180 = 8) ↔ n = 8 := (by rw [hw.2.1]; exact nI_eq (a := n) (b := 8) (by have := hw.1; omega) (by omega)); have hle := hw.1; unfold jbs; grind [jin, bi_0, bi_n0], rfl⟩
      · skip
        refine r_iload_n (pc := 21) X rfl dX6_shipError_21 ?_
        refine r_bipush (pc := 22) (v := 99) X rfl dX6_shipError_22 ?_
        refine r_icmp_le (pc := 24) X 30 (by decide) dX6_shipError_24 (fun q24 => ?_) (fun q24 => ?_)
        · skip
          refine r_iload_n (pc := 30) X rfl dX6_shipError_30 ?_
          refine r_iload_n (pc := 31) X rfl dX6_shipError_31 ?_
          refine r_icmp_eq (pc := 32) X 61 (by decide) dX6_shipError_32 (fun q32 => ?_) (fun q32 => ?_)
          · skip
            refine r_bipush (pc := 61) (v := (-4)) X rfl dX6_shipError_61 ?_
            exact K dX6_shipError_63 ⟨by clear K X; have h8 : (s 180 = 8) ↔ n = 8 := (by rw [hw.2.1]; exact nI_eq (a := n) (b := 8) (by have := hw.1; omega) (by omega)); have hle := hw.1; unfold jbs; grind [jin, bi_0, bi_n0], rfl⟩
          · skip
            refine r_aload_n (pc := 35) X rfl dX6_shipError_35 ?_
            refine r_iload_n (pc := 36) X rfl dX6_shipError_36 ?_
            refine ca_X6_81 (pc := 37) X (c_X6_hasRock cn (by omega)) sW_o rfl rfl rfl dX6_shipError_37 (fun r37 M37 hp37 => ?_)
            obtain ⟨rfl, rfl⟩ := hp37
            refine r_if_ne (pc := 40) X 61 (by decide) dX6_shipError_40 (fun q40 => ?_) (fun q40 => ?_)
            · skip
              refine r_bipush (pc := 61) (v := (-4)) X rfl dX6_shipError_61 ?_
              exact K dX6_shipError_63 ⟨by clear K X; have h8 : (s 180 = 8) ↔ n = 8 := (by rw [hw.2.1]; exact nI_eq (a := n) (b := 8) (by have := hw.1; omega) (by omega)); have hle := hw.1; unfold jbs; grind [jin, bi_0, bi_n0], rfl⟩
            · skip
              refine r_aload_n (pc := 43) X rfl dX6_shipError_43 ?_
              refine r_iload_n (pc := 44) X rfl dX6_shipError_44 ?_
              refine ca_X6_81 (pc := 45) X (c_X6_hasRock hn2 (by omega)) sW_o rfl rfl rfl dX6_shipError_45 (fun r45 M45 hp45 => ?_)
              obtain ⟨rfl, rfl⟩ := hp45
              refine r_if_ne (pc := 48) X 61 (by decide) dX6_shipError_48 (fun q48 => ?_) (fun q48 => ?_)
              · skip
                refine r_bipush (pc := 61) (v := (-4)) X rfl dX6_shipError_61 ?_
                exact K dX6_shipError_63 ⟨by clear K X; have h8 : (s 180 = 8) ↔ n = 8 := (by rw [hw.2.1]; exact nI_eq (a := n) (b := 8) (by have := hw.1; omega) (by omega)); have hle := hw.1; unfold jbs; grind [jin, bi_0, bi_n0], rfl⟩
              · skip
                refine r_aload_n (pc := 51) X rfl dX6_shipError_51 ?_
                refine r_iload_n (pc := 52) X rfl dX6_shipError_52 ?_
                refine ca_X6_84 (pc := 53) X (c_X6_shipAtSeaIn hw.1 hg (nI cn)) sW_o rfl rfl rfl dX6_shipError_53 (fun r53 M53 hp53 => ?_)
                obtain ⟨rfl, rfl⟩ := hp53
                refine r_bipush (pc := 56) (v := (-5)) X rfl dX6_shipError_56 ?_
                refine r_icmp_eq (pc := 58) X 64 (by decide) dX6_shipError_58 (fun q58 => ?_) (fun q58 => ?_)
                · skip
                  refine r_aload_n (pc := 64) X rfl dX6_shipError_64 ?_
                  refine gt_X6_33 (pc := 65) X sW_o rfl dX6_shipError_65 ?_
                  refine r_bipush (pc := 68) (v := 8) X rfl dX6_shipError_68 ?_
                  refine r_icmpN_ge (pc := 70) X 77 (n) (8) hw.2.1 rfl (by have := hw.1; omega) (by omega) (by decide) dX6_shipError_70 (fun q70 => ?_) (fun q70 => ?_)
                  · skip
                    refine r_bipush (pc := 77) (v := (-3)) X rfl dX6_shipError_77 ?_
                    exact K dX6_shipError_79 ⟨by clear K X; have h8 : (s 180 = 8) ↔ n = 8 := (by rw [hw.2.1]; exact nI_eq (a := n) (b := 8) (by have := hw.1; omega) (by omega)); have hle := hw.1; unfold jbs; grind [jin, bi_0, bi_n0], rfl⟩
                  · skip
                    refine r_iconst (pc := 73) (v := 0) X rfl dX6_shipError_73 ?_
                    refine r_goto (pc := 74) X 79 (by decide) dX6_shipError_74 ?_
                    exact K dX6_shipError_79 ⟨by clear K X; have h8 : (s 180 = 8) ↔ n = 8 := (by rw [hw.2.1]; exact nI_eq (a := n) (b := 8) (by have := hw.1; omega) (by omega)); have hle := hw.1; unfold jbs; grind [jin, bi_0, bi_n0], rfl⟩
                · skip
                  refine r_bipush (pc := 61) (v := (-4)) X rfl dX6_shipError_61 ?_
                  exact K dX6_shipError_63 ⟨by clear K X; have h8 : (s 180 = 8) ↔ n = 8 := (by rw [hw.2.1]; exact nI_eq (a := n) (b := 8) (by have := hw.1; omega) (by omega)); have hle := hw.1; unfold jbs; grind [jin, bi_0, bi_n0], rfl⟩
        · skip
          refine r_bipush (pc := 27) (v := (-2)) X rfl dX6_shipError_27 ?_
          exact K dX6_shipError_29 ⟨by clear K X; have h8 : (s 180 = 8) ↔ n = 8 := (by rw [hw.2.1]; exact nI_eq (a := n) (b := 8) (by have := hw.1; omega) (by omega)); have hle := hw.1; unfold jbs; grind [jin, bi_0, bi_n0], rfl⟩
    · skip
      refine r_iconst (pc := 14) (v := (-1)) X rfl dX6_shipError_14 ?_
      exact K dX6_shipError_15 ⟨by clear K X; have h8 : (s 180 = 8) ↔ n = 8 := (by rw [hw.2.1]; exact nI_eq (a := n) (b := 8) (by have := hw.1; omega) (by omega)); have hle := hw.1; unfold jbs; grind [jin, bi_0, bi_n0], rfl⟩

set_option maxHeartbeats 4000000 in
set_option maxRecDepth 100000 in
theorem c_X6_litBy {G : bkG} {Z : Nat → Prop} {M : bkM} {B b : Nat} {s go : Nat → Int32} (hB : bB G B M) (hs : B + 12 ≤ b) (c : Nat) (hc : c < 100) (hr th : Int32) : bkCi G Z Z yX6_litBy cX6_litBy 6 (some .int) 2 0 0 [.ref b, .int (nI c), .int hr, .int th] (sW G B b s go M) (fun v M' => v = nI (jset (fun i => clit s i c hr th) 4) ∧ M' = sW G B b s go M) := by
  refine bk_meti [some (.ref b), some (.int (nI c)), some (.int hr), some (.int th), none, none] rfl pf_X6_litBy rfl rfl (fun E X K => ?_)
  refine r_iconst (pc := 0) (v := 0) X rfl dX6_litBy_0 ?_
  refine r_istore (pc := 1) X rfl rfl dX6_litBy_1 ?_
  refine r_iconst (pc := 3) (v := 0) X rfl dX6_litBy_3 ?_
  refine r_istore (pc := 4) X rfl rfl dX6_litBy_4 ?_
  have lp6 : ∀ (d j : Nat) (x : Int32) (y : Int32), j ≤ 4 → 4 < j + d → (x = nI (jset (fun i => clit s i c hr th) j)) → (y = nI j) → bkV E G Z 0 0 (sW G B b s go M) 6 [some (.ref b), some (.int (nI c)), some (.int hr), some (.int th), some (.int x), some (.int y)] [] := by
    intro d
    induction d with
    | zero => intro j x y; intros; exfalso; omega
    | succ d ih =>
      intro j x y hj hd e1 e2
      subst e1
      subst e2
      refine r_iload (pc := 6) X rfl dX6_litBy_6 ?_
      refine r_iconst (pc := 8) (v := 4) X rfl dX6_litBy_8 ?_
      refine r_icmpN_ge (pc := 9) X 43 (j) (4) rfl rfl (by omega) (by omega) (by decide) dX6_litBy_9 (fun q9 => ?_) (fun q9 => ?_)
      · skip
        refine r_iload (pc := 43) X rfl dX6_litBy_43 ?_
        exact K dX6_litBy_45 ⟨by rw [show j = 4 by omega], rfl⟩
      · skip
        refine r_aload_n (pc := 12) X rfl dX6_litBy_12 ?_
        refine gt_X6_17 (pc := 13) X sW_o rfl dX6_litBy_13 ?_
        refine r_iload (pc := 16) X rfl dX6_litBy_16 ?_
        refine r_aald (pc := 18) X sW_l rfl rfl (j) rfl (by omega) (by decide) rfl dX6_litBy_18 ?_
        refine r_iload_n (pc := 19) X rfl dX6_litBy_19 ?_
        refine r_iload_n (pc := 20) X rfl dX6_litBy_20 ?_
        refine r_iload_n (pc := 21) X rfl dX6_litBy_21 ?_
        refine ca_X6_115 (pc := 22) X (c_X3_lightsCell (sW_lt (by omega)) (by omega) ((hB.sW hs).2.2 j (by omega)).1 ((hB.sW hs).2.2 j (by omega)).2 c hc hr th) (sW_lt (by omega)) rfl rfl rfl dX6_litBy_22 (fun r22 M22 hp22 => ?_)
        obtain ⟨rfl, rfl⟩ := hp22
        refine r_if_eq (pc := 25) X 37 (by decide) dX6_litBy_25 (fun q25 => ?_) (fun q25 => ?_)
        · skip
          refine r_iinc (pc := 37) X rfl rfl rfl dX6_litBy_37 ?_
          refine r_goto (pc := 40) X 6 (by decide) dX6_litBy_40 ?_
          refine ih (j + 1) _ _ (by omega) (by omega) ?_ (nI_1 j)
          first | exact jset_t (by omega) (bi_n0.mp q25) | exact (Int32.or_zero.symm.trans (jset_f (bi_0.mp q25)))
        · skip
          refine r_iload (pc := 28) X rfl dX6_litBy_28 ?_
          refine r_iconst (pc := 30) (v := 1) X rfl dX6_litBy_30 ?_
          refine r_iload (pc := 31) X rfl dX6_litBy_31 ?_
          refine r_ishl (pc := 33) X dX6_litBy_33 ?_
          refine r_ior (pc := 34) X dX6_litBy_34 ?_
          refine r_istore (pc := 35) X rfl rfl dX6_litBy_35 ?_
          refine r_iinc (pc := 37) X rfl rfl rfl dX6_litBy_37 ?_
          refine r_goto (pc := 40) X 6 (by decide) dX6_litBy_40 ?_
          refine ih (j + 1) _ _ (by omega) (by omega) ?_ (nI_1 j)
          first | exact jset_t (by omega) (bi_n0.mp q25) | exact (Int32.or_zero.symm.trans (jset_f (bi_0.mp q25)))
  exact lp6 (4 + 1) 0 _ _ (by omega) (by omega) rfl rfl

set_option maxHeartbeats 4000000 in
set_option maxRecDepth 100000 in
theorem c_X6_litCells {G : bkG} {Z : Nat → Prop} {M : bkM} {B b : Nat} {s go : Nat → Int32} (hB : bB G B M) (hs : B + 12 ≤ b) (hf : jlf s) (w : Bool) : bkCi G Z Z yX6_litCells cX6_litCells 4 (some .int) 3 0 0 [.ref b, .int (bi w)] (sW G B b s go M) (fun v M' => v = nI (jlitc s w) ∧ M' = sW G B b s go M) := by
  refine bk_meti [some (.ref b), some (.int (bi w)), none, none] rfl pf_X6_litCells rfl rfl (fun E X K => ?_)
  refine r_iconst (pc := 0) (v := 0) X rfl dX6_litCells_0 ?_
  refine r_istore_n (pc := 1) X rfl rfl dX6_litCells_1 ?_
  refine r_iconst (pc := 2) (v := 0) X rfl dX6_litCells_2 ?_
  refine r_istore_n (pc := 3) X rfl rfl dX6_litCells_3 ?_
  have lp4 : ∀ (d j : Nat) (x : Int32) (y : Int32), j ≤ 100 → 100 < j + d → (x = nI (jct (fun c => decide (¬ jlon s c = 0) && (!w || decide (s c = 1))) j)) → (y = nI j) → bkV E G Z 0 0 (sW G B b s go M) 4 [some (.ref b), some (.int (bi w)), some (.int x), some (.int y)] [] := by
    intro d
    induction d with
    | zero => intro j x y; intros; exfalso; omega
    | succ d ih =>
      intro j x y hj hd e1 e2
      subst e1
      subst e2
      refine r_iload_n (pc := 4) X rfl dX6_litCells_4 ?_
      refine r_bipush (pc := 5) (v := 100) X rfl dX6_litCells_5 ?_
      refine r_icmpN_ge (pc := 7) X 44 (j) (100) rfl rfl (by omega) (by omega) (by decide) dX6_litCells_7 (fun q7 => ?_) (fun q7 => ?_)
      · skip
        refine r_iload_n (pc := 44) X rfl dX6_litCells_44 ?_
        exact K dX6_litCells_45 ⟨by rw [show j = 100 by omega]; rfl, rfl⟩
      · skip
        refine r_iload_n (pc := 10) X rfl dX6_litCells_10 ?_
        refine r_if_eq (pc := 11) X 22 (by decide) dX6_litCells_11 (fun q11 => ?_) (fun q11 => ?_)
        · skip
          refine r_aload_n (pc := 22) X rfl dX6_litCells_22 ?_
          refine r_iload_n (pc := 23) X rfl dX6_litCells_23 ?_
          refine r_aload_n (pc := 24) X rfl dX6_litCells_24 ?_
          refine gt_X6_40 (pc := 25) X sW_o rfl dX6_litCells_25 ?_
          refine r_iconst (pc := 28) (v := 0) X rfl dX6_litCells_28 ?_
          refine ca_X6_119 (pc := 29) X (c_X6_litBy hB hs j (by omega) (s 181) 0) sW_o rfl rfl rfl dX6_litCells_29 (fun r29 M29 hp29 => ?_)
          obtain ⟨rfl, rfl⟩ := hp29
          rw [cby_eq hf (by omega)]
          refine r_if_eq (pc := 32) X 38 (by decide) dX6_litCells_32 (fun q32 => ?_) (fun q32 => ?_)
          · skip
            refine r_iinc (pc := 38) X rfl rfl rfl dX6_litCells_38 ?_
            refine r_goto (pc := 41) X 4 (by decide) dX6_litCells_41 ?_
            refine ih (j + 1) _ _ (by omega) (by omega) ?_ (nI_1 j)
            first | exact jct_t (by clear K X ih; grind [bi_0, bi_n0]) | exact jct_f0 (by clear K X ih; grind [bi_0, bi_n0])
          · skip
            refine r_iinc (pc := 35) X rfl rfl rfl dX6_litCells_35 ?_
            refine r_iinc (pc := 38) X rfl rfl rfl dX6_litCells_38 ?_
            refine r_goto (pc := 41) X 4 (by decide) dX6_litCells_41 ?_
            refine ih (j + 1) _ _ (by omega) (by omega) ?_ (nI_1 j)
            first | exact jct_t (by clear K X ih; grind [bi_0, bi_n0]) | exact jct_f0 (by clear K X ih; grind [bi_0, bi_n0])
        · skip
          refine r_aload_n (pc := 14) X rfl dX6_litCells_14 ?_
          refine r_iload_n (pc := 15) X rfl dX6_litCells_15 ?_
          refine ca_X6_81 (pc := 16) X (c_X6_hasRock j (by omega)) sW_o rfl rfl rfl dX6_litCells_16 (fun r16 M16 hp16 => ?_)
          obtain ⟨rfl, rfl⟩ := hp16
          refine r_if_eq (pc := 19) X 38 (by decide) dX6_litCells_19 (fun q19 => ?_) (fun q19 => ?_)
          · skip
            refine r_iinc (pc := 38) X rfl rfl rfl dX6_litCells_38 ?_
            refine r_goto (pc := 41) X 4 (by decide) dX6_litCells_41 ?_
            refine ih (j + 1) _ _ (by omega) (by omega) ?_ (nI_1 j)
            first | exact jct_t (by clear K X ih; grind [bi_0, bi_n0]) | exact jct_f0 (by clear K X ih; grind [bi_0, bi_n0])
          · skip
            refine r_aload_n (pc := 22) X rfl dX6_litCells_22 ?_
            refine r_iload_n (pc := 23) X rfl dX6_litCells_23 ?_
            refine r_aload_n (pc := 24) X rfl dX6_litCells_24 ?_
            refine gt_X6_40 (pc := 25) X sW_o rfl dX6_litCells_25 ?_
            refine r_iconst (pc := 28) (v := 0) X rfl dX6_litCells_28 ?_
            refine ca_X6_119 (pc := 29) X (c_X6_litBy hB hs j (by omega) (s 181) 0) sW_o rfl rfl rfl dX6_litCells_29 (fun r29 M29 hp29 => ?_)
            obtain ⟨rfl, rfl⟩ := hp29
            rw [cby_eq hf (by omega)]
            refine r_if_eq (pc := 32) X 38 (by decide) dX6_litCells_32 (fun q32 => ?_) (fun q32 => ?_)
            · skip
              refine r_iinc (pc := 38) X rfl rfl rfl dX6_litCells_38 ?_
              refine r_goto (pc := 41) X 4 (by decide) dX6_litCells_41 ?_
              refine ih (j + 1) _ _ (by omega) (by omega) ?_ (nI_1 j)
              first | exact jct_t (by clear K X ih; grind [bi_0, bi_n0]) | exact jct_f0 (by clear K X ih; grind [bi_0, bi_n0])
            · skip
              refine r_iinc (pc := 35) X rfl rfl rfl dX6_litCells_35 ?_
              refine r_iinc (pc := 38) X rfl rfl rfl dX6_litCells_38 ?_
              refine r_goto (pc := 41) X 4 (by decide) dX6_litCells_41 ?_
              refine ih (j + 1) _ _ (by omega) (by omega) ?_ (nI_1 j)
              first | exact jct_t (by clear K X ih; grind [bi_0, bi_n0]) | exact jct_f0 (by clear K X ih; grind [bi_0, bi_n0])
  exact lp4 (100 + 1) 0 _ _ (by omega) (by omega) rfl rfl

