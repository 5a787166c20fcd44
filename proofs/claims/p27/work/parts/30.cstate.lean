set_option maxHeartbeats 4000000 in
set_option maxRecDepth 100000 in
theorem c_X6_hasRock {G : bkG} {Z : Nat → Prop} {M : bkM} {B b : Nat} {s go : Nat → Int32} (c : Nat) (hc : c < 100) : bkCi G Z Z yX6_hasRock cX6_hasRock 2 (some .boolean) 1 0 0 [.ref b, .int (nI c)] (sW G B b s go M) (fun v M' => v = bi (decide (s c = 1)) ∧ M' = sW G B b s go M) := by
  refine bk_metz [some (.ref b), some (.int (nI c))] rfl pf_X6_hasRock rfl rfl (fun E X K => ?_)
  refine r_iload_n (pc := 0) X rfl dX6_hasRock_0 ?_
  refine ca_X6_68 (pc := 1) X (c_X8_isCell (nI c)) rfl rfl rfl dX6_hasRock_1 (fun r1 M1 hp1 => ?_)
  obtain ⟨rfl, rfl⟩ := hp1
  refine r_if_eq (pc := 4) X 30 (by decide) dX6_hasRock_4 (fun q4 => ?_) (fun q4 => ?_)
  · skip
    exact absurd (bi_0.mp q4) (by rw [jin_99 hc]; decide)
  · skip
    refine r_aload_n (pc := 7) X rfl dX6_hasRock_7 ?_
    refine gt_X6_9 (pc := 8) X sW_o rfl dX6_hasRock_8 ?_
    refine r_iload_n (pc := 11) X rfl dX6_hasRock_11 ?_
    refine r_bipush (pc := 12) (v := 10) X rfl dX6_hasRock_12 ?_
    refine r_idiv (pc := 14) X (by decide) dX6_hasRock_14 ?_
    refine bk_top (pk_div (a := c) (d := 10) (by omega) (by omega) (by omega)) ?_
    refine r_iald (pc := 15) X sW_r (c / 10) rfl (by omega) (by decide) dX6_hasRock_15 ?_
    refine r_iload_n (pc := 16) X rfl dX6_hasRock_16 ?_
    refine r_bipush (pc := 17) (v := 10) X rfl dX6_hasRock_17 ?_
    refine r_irem (pc := 19) X (by decide) dX6_hasRock_19 ?_
    refine bk_top (pk_rem (a := c) (d := 10) (by omega) (by omega) (by omega)) ?_
    refine r_ishr (pc := 20) X dX6_hasRock_20 ?_
    refine r_iconst (pc := 21) (v := 1) X rfl dX6_hasRock_21 ?_
    refine r_iand (pc := 22) X dX6_hasRock_22 ?_
    refine bk_top (jrow_bit hc) ?_
    refine r_if_eq (pc := 23) X 30 (by decide) dX6_hasRock_23 (fun q23 => ?_) (fun q23 => ?_)
    · skip
      refine r_iconst (pc := 30) (v := 0) X rfl dX6_hasRock_30 ?_
      exact K dX6_hasRock_31 (by first | exact Or.inl rfl | exact Or.inr rfl) ⟨by first | exact (show bi (decide (s c = 1)) = 0 from q23).symm | exact (bi_1.mpr (bi_n0.mp q23)).symm, rfl⟩
    · skip
      refine r_iconst (pc := 26) (v := 1) X rfl dX6_hasRock_26 ?_
      refine r_goto (pc := 27) X 31 (by decide) dX6_hasRock_27 ?_
      exact K dX6_hasRock_31 (by first | exact Or.inl rfl | exact Or.inr rfl) ⟨by first | exact (show bi (decide (s c = 1)) = 0 from q23).symm | exact (bi_1.mpr (bi_n0.mp q23)).symm, rfl⟩

set_option maxHeartbeats 4000000 in
set_option maxRecDepth 100000 in
theorem c_X6_shipAtSeaIn {G : bkG} {Z : Nat → Prop} {M : bkM} {B b : Nat} {s go : Nat → Int32} {n : Nat} (hn : n ≤ 8) (hg : cgo s n go) (c : Int32) : bkCi G Z Z yX6_shipAtSeaIn cX6_shipAtSeaIn 3 (some .int) 1 0 0 [.ref b, .int c] (sW G B b s go M) (fun v M' => v = jsin s n c ∧ M' = sW G B b s go M) := by
  refine bk_meti [some (.ref b), some (.int c), none] rfl pf_X6_shipAtSeaIn rfl rfl (fun E X K => ?_)
  refine r_iconst (pc := 0) (v := 0) X rfl dX6_shipAtSeaIn_0 ?_
  refine r_istore_n (pc := 1) X rfl rfl dX6_shipAtSeaIn_1 ?_
  have lp2 : ∀ (d j : Nat) (y : Int32), j ≤ 8 → 8 < j + d → (y = nI j) → (jsin s n c = jfind (fun k => decide (go (8 + k) = 0) && decide (s (140 + 5 * k + 1) = c)) j (8 - j)) → bkV E G Z 0 0 (sW G B b s go M) 2 [some (.ref b), some (.int c), some (.int y)] [] := by
    intro d
    induction d with
    | zero => intro j y; intros; exfalso; omega
    | succ d ih =>
      intro j y hj hd e1 e2
      subst e1
      refine r_iload_n (pc := 2) X rfl dX6_shipAtSeaIn_2 ?_
      refine r_bipush (pc := 3) (v := 8) X rfl dX6_shipAtSeaIn_3 ?_
      refine r_icmpN_ge (pc := 5) X 29 (j) (8) rfl rfl (by omega) (by omega) (by decide) dX6_shipAtSeaIn_5 (fun q5 => ?_) (fun q5 => ?_)
      · skip
        refine r_bipush (pc := 29) (v := (-5)) X rfl dX6_shipAtSeaIn_29 ?_
        exact K dX6_shipAtSeaIn_31 ⟨(e2.trans (by rw [show j = 8 by omega]; exact jfind_end)).symm, rfl⟩
      · skip
        refine r_aload_n (pc := 8) X rfl dX6_shipAtSeaIn_8 ?_
        refine gt_X6_29 (pc := 9) X sW_o rfl dX6_shipAtSeaIn_9 ?_
        refine r_iload_n (pc := 12) X rfl dX6_shipAtSeaIn_12 ?_
        refine r_aald (pc := 13) X sW_s rfl rfl (j) rfl (by omega) (by decide) rfl dX6_shipAtSeaIn_13 ?_
        refine r_iload_n (pc := 14) X rfl dX6_shipAtSeaIn_14 ?_
        refine ca_X6_94 (pc := 15) X (c_X5_isAtSeaIn (sW_sh (i := j) (by omega)) c) (sW_sh (i := j) (by omega)) rfl rfl rfl dX6_shipAtSeaIn_15 (fun r15 M15 hp15 => ?_)
        obtain ⟨rfl, rfl⟩ := hp15
        refine r_if_eq (pc := 18) X 23 (by decide) dX6_shipAtSeaIn_18 (fun q18 => ?_) (fun q18 => ?_)
        · skip
          refine r_iinc (pc := 23) X rfl rfl rfl dX6_shipAtSeaIn_23 ?_
          refine r_goto (pc := 26) X 2 (by decide) dX6_shipAtSeaIn_26 ?_
          exact ih (j + 1) _ (by omega) (by omega) (nI_1 j) (e2.trans (jfind_miss (by omega) (bi_0.mp q18)))
        · skip
          refine r_iload_n (pc := 21) X rfl dX6_shipAtSeaIn_21 ?_
          exact K dX6_shipAtSeaIn_22 ⟨(e2.trans (jfind_hit (p := (fun k => decide (go (8 + k) = 0) && decide (s (140 + 5 * k + 1) = c))) (by omega) (bi_n0.mp q18))).symm, rfl⟩
  exact lp2 (8 + 1) 0 _ (by omega) (by omega) rfl (hg.fnd hn c)

set_option maxHeartbeats 4000000 in
set_option maxRecDepth 100000 in
theorem c_X6_shipsThatAre {G : bkG} {Z : Nat → Prop} {M : bkM} {B b : Nat} {s go : Nat → Int32} {n : Nat} (hn : n ≤ 8) (hg : cgo s n go) (v : Int32) (hv : v ≠ -1) : bkCi G Z Z yX6_shipsThatAre cX6_shipsThatAre 7 (some .int) 0 0 0 [.ref b, .int v] (sW G B b s go M) (fun x M' => x = nI (jct (jst s v) n) ∧ M' = sW G B b s go M) := by
  refine bk_meti [some (.ref b), some (.int v), none, none, none, none, none] rfl pf_X6_shipsThatAre rfl rfl (fun E X K => ?_)
  refine r_iconst (pc := 0) (v := 0) X rfl dX6_shipsThatAre_0 ?_
  refine r_istore_n (pc := 1) X rfl rfl dX6_shipsThatAre_1 ?_
  refine r_aload_n (pc := 2) X rfl dX6_shipsThatAre_2 ?_
  refine gt_X6_29 (pc := 3) X sW_o rfl dX6_shipsThatAre_3 ?_
  refine r_astore_n (pc := 6) X rfl rfl dX6_shipsThatAre_6 ?_
  refine r_aload_n (pc := 7) X rfl dX6_shipsThatAre_7 ?_
  refine r_alen (pc := 8) (t := 0) X sW_s 5 rfl dX6_shipsThatAre_8 ?_
  refine r_istore (pc := 9) X rfl rfl dX6_shipsThatAre_9 ?_
  refine r_iconst (pc := 11) (v := 0) X rfl dX6_shipsThatAre_11 ?_
  refine r_istore (pc := 12) X rfl rfl dX6_shipsThatAre_12 ?_
  have lp14 : ∀ (d j : Nat) (x : Int32) (y : Int32), j ≤ 8 → 8 < j + d → (x = nI (jct (fun k => decide (go (8 + k) = v)) j)) → (y = nI j) → bkV E G Z 0 0 (sW G B b s go M) 14 [some (.ref b), some (.int v), some (.int x), some (.ref (b + 4)), some (.int (nI 8)), some (.int y), none] [] := by
    intro d
    induction d with
    | zero => intro j x y; intros; exfalso; omega
    | succ d ih =>
      intro j x y hj hd e1 e2
      subst e1
      subst e2
      refine r_iload (pc := 14) X rfl dX6_shipsThatAre_14 ?_
      refine r_iload (pc := 16) X rfl dX6_shipsThatAre_16 ?_
      refine r_icmpN_ge (pc := 18) X 45 (j) (8) rfl rfl (by omega) (by omega) (by decide) dX6_shipsThatAre_18 (fun q18 => ?_) (fun q18 => ?_)
      · skip
        refine r_iload_n (pc := 45) X rfl dX6_shipsThatAre_45 ?_
        exact K dX6_shipsThatAre_46 ⟨by rw [show j = 8 by omega, hg.cnt hn hv], rfl⟩
      · skip
        refine r_aload_n (pc := 21) X rfl dX6_shipsThatAre_21 ?_
        refine r_iload (pc := 22) X rfl dX6_shipsThatAre_22 ?_
        refine r_aald (pc := 24) X sW_s rfl rfl (j) rfl (by omega) (by decide) rfl dX6_shipsThatAre_24 ?_
        refine r_astore (pc := 25) X rfl rfl dX6_shipsThatAre_25 ?_
        refine r_aload (pc := 27) X rfl dX6_shipsThatAre_27 ?_
        refine gt_X6_97 (pc := 29) X (sW_sh (i := j) (by omega)) rfl dX6_shipsThatAre_29 ?_
        refine r_iload_n (pc := 32) X rfl dX6_shipsThatAre_32 ?_
        refine r_icmp_ne (pc := 33) X 39 (by decide) dX6_shipsThatAre_33 (fun q33 => ?_) (fun q33 => ?_)
        · skip
          refine r_iinc (pc := 39) X rfl rfl rfl dX6_shipsThatAre_39 ?_
          refine r_goto (pc := 42) X 14 (by decide) dX6_shipsThatAre_42 ?_
          refine bkV.drop 6 (ih (j + 1) _ _ (by omega) (by omega) ?_ (nI_1 j))
          first | exact jct_t (p := fun k => decide (go (8 + k) = v)) (decide_eq_true q33) | exact jct_f0 (p := fun k => decide (go (8 + k) = v)) (decide_eq_false q33)
        · skip
          refine r_iinc (pc := 36) X rfl rfl rfl dX6_shipsThatAre_36 ?_
          refine r_iinc (pc := 39) X rfl rfl rfl dX6_shipsThatAre_39 ?_
          refine r_goto (pc := 42) X 14 (by decide) dX6_shipsThatAre_42 ?_
          refine bkV.drop 6 (ih (j + 1) _ _ (by omega) (by omega) ?_ (nI_1 j))
          first | exact jct_t (p := fun k => decide (go (8 + k) = v)) (decide_eq_true q33) | exact jct_f0 (p := fun k => decide (go (8 + k) = v)) (decide_eq_false q33)
  exact lp14 (8 + 1) 0 _ _ (by omega) (by omega) rfl rfl

set_option maxHeartbeats 4000000 in
set_option maxRecDepth 100000 in
theorem c_X6_worthHome {G : bkG} {Z : Nat → Prop} {M : bkM} {B b : Nat} {s go : Nat → Int32} {n : Nat} (hn : n ≤ 8) (hg : cgo s n go) : bkCi G Z Z yX6_worthHome cX6_worthHome 6 (some .int) 0 0 0 [.ref b] (sW G B b s go M) (fun x M' => x = jworth s (jst s 1) n ∧ M' = sW G B b s go M) := by
  refine bk_meti [some (.ref b), none, none, none, none, none] rfl pf_X6_worthHome rfl rfl (fun E X K => ?_)
  refine r_iconst (pc := 0) (v := 0) X rfl dX6_worthHome_0 ?_
  refine r_istore_n (pc := 1) X rfl rfl dX6_worthHome_1 ?_
  refine r_aload_n (pc := 2) X rfl dX6_worthHome_2 ?_
  refine gt_X6_29 (pc := 3) X sW_o rfl dX6_worthHome_3 ?_
  refine r_astore_n (pc := 6) X rfl rfl dX6_worthHome_6 ?_
  refine r_aload_n (pc := 7) X rfl dX6_worthHome_7 ?_
  refine r_alen (pc := 8) (t := 0) X sW_s 5 rfl dX6_worthHome_8 ?_
  refine r_istore_n (pc := 9) X rfl rfl dX6_worthHome_9 ?_
  refine r_iconst (pc := 10) (v := 0) X rfl dX6_worthHome_10 ?_
  refine r_istore (pc := 11) X rfl rfl dX6_worthHome_11 ?_
  have lp13 : ∀ (d j : Nat) (x : Int32) (y : Int32), j ≤ 8 → 8 < j + d → (x = jworth s (fun k => decide (go (8 + k) = 1)) j) → (y = nI j) → bkV E G Z 0 0 (sW G B b s go M) 13 [some (.ref b), some (.int x), some (.ref (b + 4)), some (.int (nI 8)), some (.int y), none] [] := by
    intro d
    induction d with
    | zero => intro j x y; intros; exfalso; omega
    | succ d ih =>
      intro j x y hj hd e1 e2
      subst e1
      subst e2
      refine r_iload (pc := 13) X rfl dX6_worthHome_13 ?_
      refine r_iload_n (pc := 15) X rfl dX6_worthHome_15 ?_
      refine r_icmpN_ge (pc := 16) X 48 (j) (8) rfl rfl (by omega) (by omega) (by decide) dX6_worthHome_16 (fun q16 => ?_) (fun q16 => ?_)
      · skip
        refine r_iload_n (pc := 48) X rfl dX6_worthHome_48 ?_
        exact K dX6_worthHome_49 ⟨by rw [show j = 8 by omega, hg.wth hn (by decide)], rfl⟩
      · skip
        refine r_aload_n (pc := 19) X rfl dX6_worthHome_19 ?_
        refine r_iload (pc := 20) X rfl dX6_worthHome_20 ?_
        refine r_aald (pc := 22) X sW_s rfl rfl (j) rfl (by omega) (by decide) rfl dX6_worthHome_22 ?_
        refine r_astore (pc := 23) X rfl rfl dX6_worthHome_23 ?_
        refine r_aload (pc := 25) X rfl dX6_worthHome_25 ?_
        refine gt_X6_97 (pc := 27) X (sW_sh (i := j) (by omega)) rfl dX6_worthHome_27 ?_
        refine r_iconst (pc := 30) (v := 1) X rfl dX6_worthHome_30 ?_
        refine r_icmp_ne (pc := 31) X 42 (by decide) dX6_worthHome_31 (fun q31 => ?_) (fun q31 => ?_)
        · skip
          refine r_iinc (pc := 42) X rfl rfl rfl dX6_worthHome_42 ?_
          refine r_goto (pc := 45) X 13 (by decide) dX6_worthHome_45 ?_
          refine bkV.drop 5 (ih (j + 1) _ _ (by omega) (by omega) ?_ (nI_1 j))
          first | exact jworth_t (p := fun k => decide (go (8 + k) = 1)) (decide_eq_true q31) | exact jworth_f (p := fun k => decide (go (8 + k) = 1)) (decide_eq_false q31)
        · skip
          refine r_iload_n (pc := 34) X rfl dX6_worthHome_34 ?_
          refine r_aload (pc := 35) X rfl dX6_worthHome_35 ?_
          refine gt_X6_100 (pc := 37) X (sW_sh (i := j) (by omega)) rfl dX6_worthHome_37 ?_
          refine r_iadd (pc := 40) X dX6_worthHome_40 ?_
          refine r_istore_n (pc := 41) X rfl rfl dX6_worthHome_41 ?_
          refine r_iinc (pc := 42) X rfl rfl rfl dX6_worthHome_42 ?_
          refine r_goto (pc := 45) X 13 (by decide) dX6_worthHome_45 ?_
          refine bkV.drop 5 (ih (j + 1) _ _ (by omega) (by omega) ?_ (nI_1 j))
          first | exact jworth_t (p := fun k => decide (go (8 + k) = 1)) (decide_eq_true q31) | exact jworth_f (p := fun k => decide (go (8 + k) = 1)) (decide_eq_false q31)
  exact lp13 (8 + 1) 0 _ _ (by omega) (by omega) rfl rfl

set_option maxHeartbeats 4000000 in
set_option maxRecDepth 100000 in
theorem c_X6_placeOf {G : bkG} {Z : Nat → Prop} {M : bkM} {B b : Nat} {s go : Nat → Int32} {n : Nat} (hw : jwf s n) (hg : cgo s n go) (k : Nat) (hk : k < n) : bkCi G Z Z yX6_placeOf cX6_placeOf 6 (some .int) 1 0 0 [.ref b, .int (nI k)] (sW G B b s go M) (fun v M' => v = (if s (140 + 5 * k + 3) = 0 then nI (jrk s n k) else -5) ∧ M' = sW G B b s go M) := by
  refine bk_meti [some (.ref b), some (.int (nI k)), none, none, none, none] rfl pf_X6_placeOf rfl rfl (fun E X K => ?_)
  have hn := hw.1
  refine r_iload_n (pc := 0) X rfl dX6_placeOf_0 ?_
  refine ca_X6_87 (pc := 1) X (c_X8_isShip (nI k)) rfl rfl rfl dX6_placeOf_1 (fun r1 M1 hp1 => ?_)
  obtain ⟨rfl, rfl⟩ := hp1
  refine r_if_eq (pc := 4) X 19 (by decide) dX6_placeOf_4 (fun q4 => ?_) (fun q4 => ?_)
  · skip
    exact absurd (bi_0.mp q4) (by rw [jin_7 (show k < 8 by omega)]; decide)
  · skip
    refine r_aload_n (pc := 7) X rfl dX6_placeOf_7 ?_
    refine gt_X6_29 (pc := 8) X sW_o rfl dX6_placeOf_8 ?_
    refine r_iload_n (pc := 11) X rfl dX6_placeOf_11 ?_
    refine r_aald (pc := 12) X sW_s rfl rfl (k) rfl (by omega) (by decide) rfl dX6_placeOf_12 ?_
    refine gt_X6_97 (pc := 13) X (sW_sh (i := k) (by omega)) rfl dX6_placeOf_13 ?_
    refine bk_top (hg.lt (by omega) hk) ?_
    refine r_if_eq (pc := 16) X 22 (by decide) dX6_placeOf_16 (fun q16 => ?_) (fun q16 => ?_)
    · skip
      refine r_aload_n (pc := 22) X rfl dX6_placeOf_22 ?_
      refine gt_X6_29 (pc := 23) X sW_o rfl dX6_placeOf_23 ?_
      refine r_iload_n (pc := 26) X rfl dX6_placeOf_26 ?_
      refine r_aald (pc := 27) X sW_s rfl rfl (k) rfl (by omega) (by decide) rfl dX6_placeOf_27 ?_
      refine gt_X6_100 (pc := 28) X (sW_sh (i := k) (by omega)) rfl dX6_placeOf_28 ?_
      refine r_istore_n (pc := 31) X rfl rfl dX6_placeOf_31 ?_
      refine r_iconst (pc := 32) (v := 0) X rfl dX6_placeOf_32 ?_
      refine r_istore_n (pc := 33) X rfl rfl dX6_placeOf_33 ?_
      refine r_iconst (pc := 34) (v := 0) X rfl dX6_placeOf_34 ?_
      refine r_istore (pc := 35) X rfl rfl dX6_placeOf_35 ?_
      have lp37 : ∀ (d j : Nat) (x : Int32) (y : Int32), j ≤ 8 → 8 < j + d → (x = nI (jct (fun i => decide (go (8 + i) = 0) && jbw (jwn s) i k) j)) → (y = nI j) → bkV E G Z 0 0 (sW G B b s go M) 37 [some (.ref b), some (.int (nI k)), some (.int (s (140 + 5 * k + 0))), some (.int x), some (.int y), none] [] := by
        intro d
        induction d with
        | zero => intro j x y; intros; exfalso; omega
        | succ d ih =>
          intro j x y hj hd e1 e2
          subst e1
          subst e2
          refine r_iload (pc := 37) X rfl dX6_placeOf_37 ?_
          refine r_bipush (pc := 39) (v := 8) X rfl dX6_placeOf_39 ?_
          refine r_icmpN_ge (pc := 41) X 112 (j) (8) rfl rfl (by omega) (by omega) (by decide) dX6_placeOf_41 (fun q41 => ?_) (fun q41 => ?_)
          · skip
            refine r_iload_n (pc := 112) X rfl dX6_placeOf_112 ?_
            exact K dX6_placeOf_113 ⟨by rw [if_pos q16, show j = 8 by omega, hg.rnk hw.wo hn hk], rfl⟩
          · skip
            refine r_aload_n (pc := 44) X rfl dX6_placeOf_44 ?_
            refine gt_X6_29 (pc := 45) X sW_o rfl dX6_placeOf_45 ?_
            refine r_iload (pc := 48) X rfl dX6_placeOf_48 ?_
            refine r_aald (pc := 50) X sW_s rfl rfl (j) rfl (by omega) (by decide) rfl dX6_placeOf_50 ?_
            refine gt_X6_100 (pc := 51) X (sW_sh (i := j) (by omega)) rfl dX6_placeOf_51 ?_
            refine r_iload_n (pc := 54) X rfl dX6_placeOf_54 ?_
            refine r_icmpN_gt (pc := 55) X 78 (jwn s j) (jwn s k) (jwn_s hw (k := j) (by omega)) (jwn_s hw (k := k) (by omega)) (by have := jwn_lt hw (k := j) (by omega); omega) (by have := jwn_lt hw (k := k) (by omega); omega) (by decide) dX6_placeOf_55 (fun q55 => ?_) (fun q55 => ?_)
            · skip
              refine r_iconst (pc := 78) (v := 1) X rfl dX6_placeOf_78 ?_
              refine r_goto (pc := 79) X 83 (by decide) dX6_placeOf_79 ?_
              refine r_istore (pc := 83) X rfl rfl dX6_placeOf_83 ?_
              refine r_aload_n (pc := 85) X rfl dX6_placeOf_85 ?_
              refine gt_X6_29 (pc := 86) X sW_o rfl dX6_placeOf_86 ?_
              refine r_iload (pc := 89) X rfl dX6_placeOf_89 ?_
              refine r_aald (pc := 91) X sW_s rfl rfl (j) rfl (by omega) (by decide) rfl dX6_placeOf_91 ?_
              refine gt_X6_97 (pc := 92) X (sW_sh (i := j) (by omega)) rfl dX6_placeOf_92 ?_
              refine r_if_ne (pc := 95) X 106 (by decide) dX6_placeOf_95 (fun q95 => ?_) (fun q95 => ?_)
              · skip
                refine r_iinc (pc := 106) X rfl rfl rfl dX6_placeOf_106 ?_
                refine r_goto (pc := 109) X 37 (by decide) dX6_placeOf_109 ?_
                first | exact absurd q100 (by decide) | exact absurd rfl q100 | (refine bkV.drop 5 (ih (j + 1) _ _ (by omega) (by omega) ?_ (nI_1 j)); first | exact jct_t (p := (fun i => decide (go (8 + i) = 0) && jbw (jwn s) i k)) (by simp only [jbw, Bool.and_eq_true, Bool.or_eq_true, decide_eq_true_eq]; exact ⟨q95, by omega⟩) | exact jct_f0 (p := (fun i => decide (go (8 + i) = 0) && jbw (jwn s) i k)) (by rw [Bool.eq_false_iff]; simp only [ne_eq, jbw, Bool.and_eq_true, Bool.or_eq_true, decide_eq_true_eq]; rintro ⟨z1, z2⟩; first | exact q95 z1 | omega))
              · skip
                refine r_iload (pc := 98) X rfl dX6_placeOf_98 ?_
                refine r_if_eq (pc := 100) X 106 (by decide) dX6_placeOf_100 (fun q100 => ?_) (fun q100 => ?_)
                · skip
                  refine r_iinc (pc := 106) X rfl rfl rfl dX6_placeOf_106 ?_
                  refine r_goto (pc := 109) X 37 (by decide) dX6_placeOf_109 ?_
                  first | exact absurd q100 (by decide) | exact absurd rfl q100 | (refine bkV.drop 5 (ih (j + 1) _ _ (by omega) (by omega) ?_ (nI_1 j)); first | exact jct_t (p := (fun i => decide (go (8 + i) = 0) && jbw (jwn s) i k)) (by simp only [jbw, Bool.and_eq_true, Bool.or_eq_true, decide_eq_true_eq]; exact ⟨q95, by omega⟩) | exact jct_f0 (p := (fun i => decide (go (8 + i) = 0) && jbw (jwn s) i k)) (by rw [Bool.eq_false_iff]; simp only [ne_eq, jbw, Bool.and_eq_true, Bool.or_eq_true, decide_eq_true_eq]; rintro ⟨z1, z2⟩; first | exact q95 z1 | omega))
                · skip
                  refine r_iinc (pc := 103) X rfl rfl rfl dX6_placeOf_103 ?_
                  refine r_iinc (pc := 106) X rfl rfl rfl dX6_placeOf_106 ?_
                  refine r_goto (pc := 109) X 37 (by decide) dX6_placeOf_109 ?_
                  first | exact absurd q100 (by decide) | exact absurd rfl q100 | (refine bkV.drop 5 (ih (j + 1) _ _ (by omega) (by omega) ?_ (nI_1 j)); first | exact jct_t (p := (fun i => decide (go (8 + i) = 0) && jbw (jwn s) i k)) (by simp only [jbw, Bool.and_eq_true, Bool.or_eq_true, decide_eq_true_eq]; exact ⟨q95, by omega⟩) | exact jct_f0 (p := (fun i => decide (go (8 + i) = 0) && jbw (jwn s) i k)) (by rw [Bool.eq_false_iff]; simp only [ne_eq, jbw, Bool.and_eq_true, Bool.or_eq_true, decide_eq_true_eq]; rintro ⟨z1, z2⟩; first | exact q95 z1 | omega))
            · skip
              refine r_aload_n (pc := 58) X rfl dX6_placeOf_58 ?_
              refine gt_X6_29 (pc := 59) X sW_o rfl dX6_placeOf_59 ?_
              refine r_iload (pc := 62) X rfl dX6_placeOf_62 ?_
              refine r_aald (pc := 64) X sW_s rfl rfl (j) rfl (by omega) (by decide) rfl dX6_placeOf_64 ?_
              refine gt_X6_100 (pc := 65) X (sW_sh (i := j) (by omega)) rfl dX6_placeOf_65 ?_
              refine r_iload_n (pc := 68) X rfl dX6_placeOf_68 ?_
              refine r_icmpN_ne (pc := 69) X 82 (jwn s j) (jwn s k) (jwn_s hw (k := j) (by omega)) (jwn_s hw (k := k) (by omega)) (by have := jwn_lt hw (k := j) (by omega); omega) (by have := jwn_lt hw (k := k) (by omega); omega) (by decide) dX6_placeOf_69 (fun q69 => ?_) (fun q69 => ?_)
              · skip
                refine r_iconst (pc := 82) (v := 0) X rfl dX6_placeOf_82 ?_
                refine r_istore (pc := 83) X rfl rfl dX6_placeOf_83 ?_
                refine r_aload_n (pc := 85) X rfl dX6_placeOf_85 ?_
                refine gt_X6_29 (pc := 86) X sW_o rfl dX6_placeOf_86 ?_
                refine r_iload (pc := 89) X rfl dX6_placeOf_89 ?_
                refine r_aald (pc := 91) X sW_s rfl rfl (j) rfl (by omega) (by decide) rfl dX6_placeOf_91 ?_
                refine gt_X6_97 (pc := 92) X (sW_sh (i := j) (by omega)) rfl dX6_placeOf_92 ?_
                refine r_if_ne (pc := 95) X 106 (by decide) dX6_placeOf_95 (fun q95 => ?_) (fun q95 => ?_)
                · skip
                  refine r_iinc (pc := 106) X rfl rfl rfl dX6_placeOf_106 ?_
                  refine r_goto (pc := 109) X 37 (by decide) dX6_placeOf_109 ?_
                  first | exact absurd q100 (by decide) | exact absurd rfl q100 | (refine bkV.drop 5 (ih (j + 1) _ _ (by omega) (by omega) ?_ (nI_1 j)); first | exact jct_t (p := (fun i => decide (go (8 + i) = 0) && jbw (jwn s) i k)) (by simp only [jbw, Bool.and_eq_true, Bool.or_eq_true, decide_eq_true_eq]; exact ⟨q95, by omega⟩) | exact jct_f0 (p := (fun i => decide (go (8 + i) = 0) && jbw (jwn s) i k)) (by rw [Bool.eq_false_iff]; simp only [ne_eq, jbw, Bool.and_eq_true, Bool.or_eq_true, decide_eq_true_eq]; rintro ⟨z1, z2⟩; first | exact q95 z1 | omega))
                · skip
                  refine r_iload (pc := 98) X rfl dX6_placeOf_98 ?_
                  refine r_if_eq (pc := 100) X 106 (by decide) dX6_placeOf_100 (fun q100 => ?_) (fun q100 => ?_)
                  · skip
                    refine r_iinc (pc := 106) X rfl rfl rfl dX6_placeOf_106 ?_
                    refine r_goto (pc := 109) X 37 (by decide) dX6_placeOf_109 ?_
                    first | exact absurd q100 (by decide) | exact absurd rfl q100 | (refine bkV.drop 5 (ih (j + 1) _ _ (by omega) (by omega) ?_ (nI_1 j)); first | exact jct_t (p := (fun i => decide (go (8 + i) = 0) && jbw (jwn s) i k)) (by simp only [jbw, Bool.and_eq_true, Bool.or_eq_true, decide_eq_true_eq]; exact ⟨q95, by omega⟩) | exact jct_f0 (p := (fun i => decide (go (8 + i) = 0) && jbw (jwn s) i k)) (by rw [Bool.eq_false_iff]; simp only [ne_eq, jbw, Bool.and_eq_true, Bool.or_eq_true, decide_eq_true_eq]; rintro ⟨z1, z2⟩; first | exact q95 z1 | omega))
                  · skip
                    refine r_iinc (pc := 103) X rfl rfl rfl dX6_placeOf_103 ?_
                    refine r_iinc (pc := 106) X rfl rfl rfl dX6_placeOf_106 ?_
                    refine r_goto (pc := 109) X 37 (by decide) dX6_placeOf_109 ?_
                    first | exact absurd q100 (by decide) | exact absurd rfl q100 | (refine bkV.drop 5 (ih (j + 1) _ _ (by omega) (by omega) ?_ (nI_1 j)); first | exact jct_t (p := (fun i => decide (go (8 + i) = 0) && jbw (jwn s) i k)) (by simp only [jbw, Bool.and_eq_true, Bool.or_eq_true, decide_eq_true_eq]; exact ⟨q95, by omega⟩) | exact jct_f0 (p := (fun i => decide (go (8 + i) = 0) && jbw (jwn s) i k)) (by rw [Bool.eq_false_iff]; simp only [ne_eq, jbw, Bool.and_eq_true, Bool.or_eq_true, decide_eq_true_eq]; rintro ⟨z1, z2⟩; first | exact q95 z1 | omega))
              · skip
                refine r_iload (pc := 72) X rfl dX6_placeOf_72 ?_
                refine r_iload_n (pc := 74) X rfl dX6_placeOf_74 ?_
                refine r_icmpN_ge (pc := 75) X 82 (j) (k) rfl rfl (by omega) (by omega) (by decide) dX6_placeOf_75 (fun q75 => ?_) (fun q75 => ?_)
                · skip
                  refine r_iconst (pc := 82) (v := 0) X rfl dX6_placeOf_82 ?_
                  refine r_istore (pc := 83) X rfl rfl dX6_placeOf_83 ?_
                  refine r_aload_n (pc := 85) X rfl dX6_placeOf_85 ?_
                  refine gt_X6_29 (pc := 86) X sW_o rfl dX6_placeOf_86 ?_
                  refine r_iload (pc := 89) X rfl dX6_placeOf_89 ?_
                  refine r_aald (pc := 91) X sW_s rfl rfl (j) rfl (by omega) (by decide) rfl dX6_placeOf_91 ?_
                  refine gt_X6_97 (pc := 92) X (sW_sh (i := j) (by omega)) rfl dX6_placeOf_92 ?_
                  refine r_if_ne (pc := 95) X 106 (by decide) dX6_placeOf_95 (fun q95 => ?_) (fun q95 => ?_)
                  · skip
                    refine r_iinc (pc := 106) X rfl rfl rfl dX6_placeOf_106 ?_
                    refine r_goto (pc := 109) X 37 (by decide) dX6_placeOf_109 ?_
                    first | exact absurd q100 (by decide) | exact absurd rfl q100 | (refine bkV.drop 5 (ih (j + 1) _ _ (by omega) (by omega) ?_ (nI_1 j)); first | exact jct_t (p := (fun i => decide (go (8 + i) = 0) && jbw (jwn s) i k)) (by simp only [jbw, Bool.and_eq_true, Bool.or_eq_true, decide_eq_true_eq]; exact ⟨q95, by omega⟩) | exact jct_f0 (p := (fun i => decide (go (8 + i) = 0) && jbw (jwn s) i k)) (by rw [Bool.eq_false_iff]; simp only [ne_eq, jbw, Bool.and_eq_true, Bool.or_eq_true, decide_eq_true_eq]; rintro ⟨z1, z2⟩; first | exact q95 z1 | omega))
                  · skip
                    refine r_iload (pc := 98) X rfl dX6_placeOf_98 ?_
                    refine r_if_eq (pc := 100) X 106 (by decide) dX6_placeOf_100 (fun q100 => ?_) (fun q100 => ?_)
                    · skip
                      refine r_iinc (pc := 106) X rfl rfl rfl dX6_placeOf_106 ?_
                      refine r_goto (pc := 109) X 37 (by decide) dX6_placeOf_109 ?_
                      first | exact absurd q100 (by decide) | exact absurd rfl q100 | (refine bkV.drop 5 (ih (j + 1) _ _ (by omega) (by omega) ?_ (nI_1 j)); first | exact jct_t (p := (fun i => decide (go (8 + i) = 0) && jbw (jwn s) i k)) (by simp only [jbw, Bool.and_eq_true, Bool.or_eq_true, decide_eq_true_eq]; exact ⟨q95, by omega⟩) | exact jct_f0 (p := (fun i => decide (go (8 + i) = 0) && jbw (jwn s) i k)) (by rw [Bool.eq_false_iff]; simp only [ne_eq, jbw, Bool.and_eq_true, Bool.or_eq_true, decide_eq_true_eq]; rintro ⟨z1, z2⟩; first | exact q95 z1 | omega))
                    · skip
                      refine r_iinc (pc := 103) X rfl rfl rfl dX6_placeOf_103 ?_
                      refine r_iinc (pc := 106) X rfl rfl rfl dX6_placeOf_106 ?_
                      refine r_goto (pc := 109) X 37 (by decide) dX6_placeOf_109 ?_
                      first | exact absurd q100 (by decide) | exact absurd rfl q100 | (refine bkV.drop 5 (ih (j + 1) _ _ (by omega) (by omega) ?_ (nI_1 j)); first | exact jct_t (p := (fun i => decide (go (8 + i) = 0) && jbw (jwn s) i k)) (by simp only [jbw, Bool.and_eq_true, Bool.or_eq_true, decide_eq_true_eq]; exact ⟨q95, by omega⟩) | exact jct_f0 (p := (fun i => decide (go (8 + i) = 0) && jbw (jwn s) i k)) (by rw [Bool.eq_false_iff]; simp only [ne_eq, jbw, Bool.and_eq_true, Bool.or_eq_true, decide_eq_true_eq]; rintro ⟨z1, z2⟩; first | exact q95 z1 | omega))
                · skip
                  refine r_iconst (pc := 78) (v := 1) X rfl dX6_placeOf_78 ?_
                  refine r_goto (pc := 79) X 83 (by decide) dX6_placeOf_79 ?_
                  refine r_istore (pc := 83) X rfl rfl dX6_placeOf_83 ?_
                  refine r_aload_n (pc := 85) X rfl dX6_placeOf_85 ?_
                  refine gt_X6_29 (pc := 86) X sW_o rfl dX6_placeOf_86 ?_
                  refine r_iload (pc := 89) X rfl dX6_placeOf_89 ?_
                  refine r_aald (pc := 91) X sW_s rfl rfl (j) rfl (by omega) (by decide) rfl dX6_placeOf_91 ?_
                  refine gt_X6_97 (pc := 92) X (sW_sh (i := j) (by omega)) rfl dX6_placeOf_92 ?_
                  refine r_if_ne (pc := 95) X 106 (by decide) dX6_placeOf_95 (fun q95 => ?_) (fun q95 => ?_)
                  · skip
                    refine r_iinc (pc := 106) X rfl rfl rfl dX6_placeOf_106 ?_
                    refine r_goto (pc := 109) X 37 (by decide) dX6_placeOf_109 ?_
                    first | exact absurd q100 (by decide) | exact absurd rfl q100 | (refine bkV.drop 5 (ih (j + 1) _ _ (by omega) (by omega) ?_ (nI_1 j)); first | exact jct_t (p := (fun i => decide (go (8 + i) = 0) && jbw (jwn s) i k)) (by simp only [jbw, Bool.and_eq_true, Bool.or_eq_true, decide_eq_true_eq]; exact ⟨q95, by omega⟩) | exact jct_f0 (p := (fun i => decide (go (8 + i) = 0) && jbw (jwn s) i k)) (by rw [Bool.eq_false_iff]; simp only [ne_eq, jbw, Bool.and_eq_true, Bool.or_eq_true, decide_eq_true_eq]; rintro ⟨z1, z2⟩; first | exact q95 z1 | omega))
                  · skip
                    refine r_iload (pc := 98) X rfl dX6_placeOf_98 ?_
                    refine r_if_eq (pc := 100) X 106 (by decide) dX6_placeOf_100 (fun q100 => ?_) (fun q100 => ?_)
                    · skip
                      refine r_iinc (pc := 106) X rfl rfl rfl dX6_placeOf_106 ?_
                      refine r_goto (pc := 109) X 37 (by decide) dX6_placeOf_109 ?_
                      first | exact absurd q100 (by decide) | exact absurd rfl q100 | (refine bkV.drop 5 (ih (j + 1) _ _ (by omega) (by omega) ?_ (nI_1 j)); first | exact jct_t (p := (fun i => decide (go (8 + i) = 0) && jbw (jwn s) i k)) (by simp only [jbw, Bool.and_eq_true, Bool.or_eq_true, decide_eq_true_eq]; exact ⟨q95, by omega⟩) | exact jct_f0 (p := (fun i => decide (go (8 + i) = 0) && jbw (jwn s) i k)) (by rw [Bool.eq_false_iff]; simp only [ne_eq, jbw, Bool.and_eq_true, Bool.or_eq_true, decide_eq_true_eq]; rintro ⟨z1, z2⟩; first | exact q95 z1 | omega))
                    · skip
                      refine r_iinc (pc := 103) X rfl rfl rfl dX6_placeOf_103 ?_
                      refine r_iinc (pc := 106) X rfl rfl rfl dX6_placeOf_106 ?_
                      refine r_goto (pc := 109) X 37 (by decide) dX6_placeOf_109 ?_
                      first | exact absurd q100 (by decide) | exact absurd rfl q100 | (refine bkV.drop 5 (ih (j + 1) _ _ (by omega) (by omega) ?_ (nI_1 j)); first | exact jct_t (p := (fun i => decide (go (8 + i) = 0) && jbw (jwn s) i k)) (by simp only [jbw, Bool.and_eq_true, Bool.or_eq_true, decide_eq_true_eq]; exact ⟨q95, by omega⟩) | exact jct_f0 (p := (fun i => decide (go (8 + i) = 0) && jbw (jwn s) i k)) (by rw [Bool.eq_false_iff]; simp only [ne_eq, jbw, Bool.and_eq_true, Bool.or_eq_true, decide_eq_true_eq]; rintro ⟨z1, z2⟩; first | exact q95 z1 | omega))
      exact lp37 (8 + 1) 0 _ _ (by omega) (by omega) rfl rfl
    · skip
      refine r_bipush (pc := 19) (v := (-5)) X rfl dX6_placeOf_19 ?_
      exact K dX6_placeOf_21 ⟨(if_neg q16).symm, rfl⟩

set_option maxHeartbeats 4000000 in
set_option maxRecDepth 100000 in
theorem c_X6_canLayCard {G : bkG} {Z : Nat → Prop} {M : bkM} {B b : Nat} {s go : Nat → Int32} (k l : Nat) (hk : k < 4) (hl : l < 4) : bkCi G Z Z yX6_canLayCard cX6_canLayCard 3 (some .boolean) 0 0 0 [.ref b, .int (nI k), .int (nI l)] (sW G B b s go M) (fun x M' => x = bi (jcl s k l) ∧ M' = sW G B b s go M) := by
  refine bk_metz [some (.ref b), some (.int (nI k)), some (.int (nI l))] rfl pf_X6_canLayCard rfl rfl (fun E X K => ?_)
  refine r_iload_n (pc := 0) X rfl dX6_canLayCard_0 ?_
  refine r_iload_n (pc := 1) X rfl dX6_canLayCard_1 ?_
  refine r_icmpN_eq (pc := 2) X 35 (k) (l) rfl rfl (by omega) (by omega) (by decide) dX6_canLayCard_2 (fun q2 => ?_) (fun q2 => ?_)
  · skip
    refine r_iconst (pc := 35) (v := 0) X rfl dX6_canLayCard_35 ?_
    exact K dX6_canLayCard_36 (by first | exact Or.inl rfl | exact Or.inr rfl) ⟨by clear K X; grind [jcl, bi], rfl⟩
  · skip
    refine r_aload_n (pc := 5) X rfl dX6_canLayCard_5 ?_
    refine gt_X6_23 (pc := 6) X sW_o rfl dX6_canLayCard_6 ?_
    refine r_iload_n (pc := 9) X rfl dX6_canLayCard_9 ?_
    refine r_aald (pc := 10) X sW_k rfl rfl (k) rfl (by omega) (by decide) rfl dX6_canLayCard_10 ?_
    refine gt_X6_103 (pc := 11) X (sW_kp (i := k) (by omega)) rfl dX6_canLayCard_11 ?_
    refine r_if_le (pc := 14) X 35 (by decide) dX6_canLayCard_14 (fun q14 => ?_) (fun q14 => ?_)
    · skip
      refine r_iconst (pc := 35) (v := 0) X rfl dX6_canLayCard_35 ?_
      exact K dX6_canLayCard_36 (by first | exact Or.inl rfl | exact Or.inr rfl) ⟨by clear K X; grind [jcl, bi], rfl⟩
    · skip
      refine r_aload_n (pc := 17) X rfl dX6_canLayCard_17 ?_
      refine gt_X6_17 (pc := 18) X sW_o rfl dX6_canLayCard_18 ?_
      refine r_iload_n (pc := 21) X rfl dX6_canLayCard_21 ?_
      refine r_aald (pc := 22) X sW_l rfl rfl (l) rfl (by omega) (by decide) rfl dX6_canLayCard_22 ?_
      refine gt_X6_106 (pc := 23) X (sW_lt (i := l) (by omega)) rfl dX6_canLayCard_23 ?_
      refine r_bipush (pc := 26) (v := 9) X rfl dX6_canLayCard_26 ?_
      refine r_icmp_ge (pc := 28) X 35 (by decide) dX6_canLayCard_28 (fun q28 => ?_) (fun q28 => ?_)
      · skip
        refine r_iconst (pc := 35) (v := 0) X rfl dX6_canLayCard_35 ?_
        exact K dX6_canLayCard_36 (by first | exact Or.inl rfl | exact Or.inr rfl) ⟨by clear K X; grind [jcl, bi], rfl⟩
      · skip
        refine r_iconst (pc := 31) (v := 1) X rfl dX6_canLayCard_31 ?_
        refine r_goto (pc := 32) X 36 (by decide) dX6_canLayCard_32 ?_
        exact K dX6_canLayCard_36 (by first | exact Or.inl rfl | exact Or.inr rfl) ⟨by clear K X; grind [jcl, bi], rfl⟩

set_option maxHeartbeats 4000000 in
set_option maxRecDepth 100000 in
theorem c_X6_debts {G : bkG} {Z : Nat → Prop} {M : bkM} {B b : Nat} {s go : Nat → Int32} : bkCi G Z Z yX6_debts cX6_debts 6 (some .int) 0 0 0 [.ref b] (sW G B b s go M) (fun v M' => v = jsm (fun l => s (120 + 5 * l + 1)) 4 ∧ M' = sW G B b s go M) := by
  refine bk_meti [some (.ref b), none, none, none, none, none] rfl pf_X6_debts rfl rfl (fun E X K => ?_)
  refine r_iconst (pc := 0) (v := 0) X rfl dX6_debts_0 ?_
  refine r_istore_n (pc := 1) X rfl rfl dX6_debts_1 ?_
  refine r_aload_n (pc := 2) X rfl dX6_debts_2 ?_
  refine gt_X6_23 (pc := 3) X sW_o rfl dX6_debts_3 ?_
  refine r_astore_n (pc := 6) X rfl rfl dX6_debts_6 ?_
  refine r_aload_n (pc := 7) X rfl dX6_debts_7 ?_
  refine r_alen (pc := 8) (t := 0) X sW_k 4 rfl dX6_debts_8 ?_
  refine r_istore_n (pc := 9) X rfl rfl dX6_debts_9 ?_
  refine r_iconst (pc := 10) (v := 0) X rfl dX6_debts_10 ?_
  refine r_istore (pc := 11) X rfl rfl dX6_debts_11 ?_
  have lp13 : ∀ (d j : Nat) (x : Int32) (y : Int32), j ≤ 4 → 4 < j + d → (x = jsm (fun l => s (120 + 5 * l + 1)) j) → (y = nI j) → bkV E G Z 0 0 (sW G B b s go M) 13 [some (.ref b), some (.int x), some (.ref (b + 3)), some (.int (nI 4)), some (.int y), none] [] := by
    intro d
    induction d with
    | zero => intro j x y; intros; exfalso; omega
    | succ d ih =>
      intro j x y hj hd e1 e2
      subst e1
      subst e2
      refine r_iload (pc := 13) X rfl dX6_debts_13 ?_
      refine r_iload_n (pc := 15) X rfl dX6_debts_15 ?_
      refine r_icmpN_ge (pc := 16) X 39 (j) (4) rfl rfl (by omega) (by omega) (by decide) dX6_debts_16 (fun q16 => ?_) (fun q16 => ?_)
      · skip
        refine r_iload_n (pc := 39) X rfl dX6_debts_39 ?_
        exact K dX6_debts_40 ⟨by rw [show j = 4 by omega], rfl⟩
      · skip
        refine r_aload_n (pc := 19) X rfl dX6_debts_19 ?_
        refine r_iload (pc := 20) X rfl dX6_debts_20 ?_
        refine r_aald (pc := 22) X sW_k rfl rfl (j) rfl (by omega) (by decide) rfl dX6_debts_22 ?_
        refine r_astore (pc := 23) X rfl rfl dX6_debts_23 ?_
        refine r_iload_n (pc := 25) X rfl dX6_debts_25 ?_
        refine r_aload (pc := 26) X rfl dX6_debts_26 ?_
        refine gt_X6_109 (pc := 28) X (sW_kp (i := j) (by omega)) rfl dX6_debts_28 ?_
        refine r_iadd (pc := 31) X dX6_debts_31 ?_
        refine r_istore_n (pc := 32) X rfl rfl dX6_debts_32 ?_
        refine r_iinc (pc := 33) X rfl rfl rfl dX6_debts_33 ?_
        refine r_goto (pc := 36) X 13 (by decide) dX6_debts_36 ?_
        exact bkV.drop 5 (ih (j + 1) _ _ (by omega) (by omega) rfl (nI_1 j))
  exact lp13 (4 + 1) 0 _ _ (by omega) (by omega) rfl rfl

set_option maxHeartbeats 4000000 in
set_option maxRecDepth 100000 in
theorem c_X6_paid {G : bkG} {Z : Nat → Prop} {M : bkM} {B b : Nat} {s go : Nat → Int32} : bkCi G Z Z yX6_paid cX6_paid 6 (some .int) 0 0 0 [.ref b] (sW G B b s go M) (fun v M' => v = jsm (fun l => s (120 + 5 * l + 4)) 4 ∧ M' = sW G B b s go M) := by
  refine bk_meti [some (.ref b), none, none, none, none, none] rfl pf_X6_paid rfl rfl (fun E X K => ?_)
  refine r_iconst (pc := 0) (v := 0) X rfl dX6_paid_0 ?_
  refine r_istore_n (pc := 1) X rfl rfl dX6_paid_1 ?_
  refine r_aload_n (pc := 2) X rfl dX6_paid_2 ?_
  refine gt_X6_23 (pc := 3) X sW_o rfl dX6_paid_3 ?_
  refine r_astore_n (pc := 6) X rfl rfl dX6_paid_6 ?_
  refine r_aload_n (pc := 7) X rfl dX6_paid_7 ?_
  refine r_alen (pc := 8) (t := 0) X sW_k 4 rfl dX6_paid_8 ?_
  refine r_istore_n (pc := 9) X rfl rfl dX6_paid_9 ?_
  refine r_iconst (pc := 10) (v := 0) X rfl dX6_paid_10 ?_
  refine r_istore (pc := 11) X rfl rfl dX6_paid_11 ?_
  have lp13 : ∀ (d j : Nat) (x : Int32) (y : Int32), j ≤ 4 → 4 < j + d → (x = jsm (fun l => s (120 + 5 * l + 4)) j) → (y = nI j) → bkV E G Z 0 0 (sW G B b s go M) 13 [some (.ref b), some (.int x), some (.ref (b + 3)), some (.int (nI 4)), some (.int y), none] [] := by
    intro d
    induction d with
    | zero => intro j x y; intros; exfalso; omega
    | succ d ih =>
      intro j x y hj hd e1 e2
      subst e1
      subst e2
      refine r_iload (pc := 13) X rfl dX6_paid_13 ?_
      refine r_iload_n (pc := 15) X rfl dX6_paid_15 ?_
      refine r_icmpN_ge (pc := 16) X 39 (j) (4) rfl rfl (by omega) (by omega) (by decide) dX6_paid_16 (fun q16 => ?_) (fun q16 => ?_)
      · skip
        refine r_iload_n (pc := 39) X rfl dX6_paid_39 ?_
        exact K dX6_paid_40 ⟨by rw [show j = 4 by omega], rfl⟩
      · skip
        refine r_aload_n (pc := 19) X rfl dX6_paid_19 ?_
        refine r_iload (pc := 20) X rfl dX6_paid_20 ?_
        refine r_aald (pc := 22) X sW_k rfl rfl (j) rfl (by omega) (by decide) rfl dX6_paid_22 ?_
        refine r_astore (pc := 23) X rfl rfl dX6_paid_23 ?_
        refine r_iload_n (pc := 25) X rfl dX6_paid_25 ?_
        refine r_aload (pc := 26) X rfl dX6_paid_26 ?_
        refine gt_X6_112 (pc := 28) X (sW_kp (i := j) (by omega)) rfl dX6_paid_28 ?_
        refine r_iadd (pc := 31) X dX6_paid_31 ?_
        refine r_istore_n (pc := 32) X rfl rfl dX6_paid_32 ?_
        refine r_iinc (pc := 33) X rfl rfl rfl dX6_paid_33 ?_
        refine r_goto (pc := 36) X 13 (by decide) dX6_paid_36 ?_
        exact bkV.drop 5 (ih (j + 1) _ _ (by omega) (by omega) rfl (nI_1 j))
  exact lp13 (4 + 1) 0 _ _ (by omega) (by omega) rfl rfl

set_option maxHeartbeats 4000000 in
set_option maxRecDepth 100000 in
theorem c_X6_passError {G : bkG} {Z : Nat → Prop} {M : bkM} {B b : Nat} {s go : Nat → Int32} (v : Int32) : bkCi G Z Z yX6_passError cX6_passError 2 (some .int) 0 0 0 [.ref b, .int v] (sW G B b s go M) (fun x M' => x = jbp s v ∧ M' = sW G B b s go M) := by
  refine bk_meti [some (.ref b), some (.int v)] rfl pf_X6_passError rfl rfl (fun E X K => ?_)
  refine r_iload_n (pc := 0) X rfl dX6_passError_0 ?_
  refine r_iconst (pc := 1) (v := 1) X rfl dX6_passError_1 ?_
  refine r_icmp_lt (pc := 2) X 11 (by decide) dX6_passError_2 (fun q2 => ?_) (fun q2 => ?_)
  · skip
    refine r_bipush (pc := 11) (v := (-2)) X rfl dX6_passError_11 ?_
    exact K dX6_passError_13 ⟨by clear K X; unfold jbp jin; grind, rfl⟩
  · skip
    refine r_iload_n (pc := 5) X rfl dX6_passError_5 ?_
    refine r_bipush (pc := 6) (v := 20) X rfl dX6_passError_6 ?_
    refine r_icmp_le (pc := 8) X 14 (by decide) dX6_passError_8 (fun q8 => ?_) (fun q8 => ?_)
    · skip
      refine r_aload_n (pc := 14) X rfl dX6_passError_14 ?_
      refine gt_X6_40 (pc := 15) X sW_o rfl dX6_passError_15 ?_
      refine r_iload_n (pc := 18) X rfl dX6_passError_18 ?_
      refine r_iadd (pc := 19) X dX6_passError_19 ?_
      refine r_sipush (pc := 20) (v := 9999) X rfl dX6_passError_20 ?_
      refine r_icmp_le (pc := 23) X 31 (by decide) dX6_passError_23 (fun q23 => ?_) (fun q23 => ?_)
      · skip
        refine r_iconst (pc := 31) (v := 0) X rfl dX6_passError_31 ?_
        exact K dX6_passError_32 ⟨by clear K X; unfold jbp jin; grind, rfl⟩
      · skip
        refine r_bipush (pc := 26) (v := (-3)) X rfl dX6_passError_26 ?_
        refine r_goto (pc := 28) X 32 (by decide) dX6_passError_28 ?_
        exact K dX6_passError_32 ⟨by clear K X; unfold jbp jin; grind, rfl⟩
    · skip
      refine r_bipush (pc := 11) (v := (-2)) X rfl dX6_passError_11 ?_
      exact K dX6_passError_13 ⟨by clear K X; unfold jbp jin; grind, rfl⟩

