set_option maxHeartbeats 4000000 in
set_option maxRecDepth 100000 in
theorem c_X6_hasRock {G : bkG} {Z : Nat → Prop} {M : bkM} {B b : Nat} {s go : Nat → Int32} (c : Nat) (hc : c < 100) : bkCi G Z Z yX6_hasRock cX6_hasRock 2 (some .boolean) 0 0 0 [.ref b, .int (nI c)] (sW G B b s go M) (fun v M' => v = bi (decide (s c = 1)) ∧ M' = sW G B b s go M) := by
  refine bk_metz [some (.ref b), some (.int (nI c))] rfl pf_X6_hasRock rfl rfl (fun E X K => ?_)
  refine r_aload_n (pc := 0) X rfl dX6_hasRock_0 ?_
  refine gt_X6_9 (pc := 1) X sW_o rfl dX6_hasRock_1 ?_
  refine r_iload_n (pc := 4) X rfl dX6_hasRock_4 ?_
  refine r_bipush (pc := 5) (v := 10) X rfl dX6_hasRock_5 ?_
  refine r_idiv (pc := 7) X (by decide) dX6_hasRock_7 ?_
  refine bk_top (pk_div (a := c) (d := 10) (by omega) (by omega) (by omega)) ?_
  refine r_iald (pc := 8) X sW_r (c / 10) rfl (by omega) (by decide) dX6_hasRock_8 ?_
  refine r_iload_n (pc := 9) X rfl dX6_hasRock_9 ?_
  refine r_bipush (pc := 10) (v := 10) X rfl dX6_hasRock_10 ?_
  refine r_irem (pc := 12) X (by decide) dX6_hasRock_12 ?_
  refine bk_top (pk_rem (a := c) (d := 10) (by omega) (by omega) (by omega)) ?_
  refine r_ishr (pc := 13) X dX6_hasRock_13 ?_
  refine r_iconst (pc := 14) (v := 1) X rfl dX6_hasRock_14 ?_
  refine r_iand (pc := 15) X dX6_hasRock_15 ?_
  refine bk_top (jrow_bit hc) ?_
  refine r_if_eq (pc := 16) X 23 (by decide) dX6_hasRock_16 (fun q16 => ?_) (fun q16 => ?_)
  · skip
    refine r_iconst (pc := 23) (v := 0) X rfl dX6_hasRock_23 ?_
    exact K dX6_hasRock_24 (by first | exact Or.inl rfl | exact Or.inr rfl) ⟨by first | exact (show bi (decide (s c = 1)) = 0 from q16).symm | exact (bi_1.mpr (bi_n0.mp q16)).symm, rfl⟩
  · skip
    refine r_iconst (pc := 19) (v := 1) X rfl dX6_hasRock_19 ?_
    refine r_goto (pc := 20) X 24 (by decide) dX6_hasRock_20 ?_
    exact K dX6_hasRock_24 (by first | exact Or.inl rfl | exact Or.inr rfl) ⟨by first | exact (show bi (decide (s c = 1)) = 0 from q16).symm | exact (bi_1.mpr (bi_n0.mp q16)).symm, rfl⟩

set_option maxHeartbeats 4000000 in
set_option maxRecDepth 100000 in
theorem c_X6_shipAtSeaIn {G : bkG} {Z : Nat → Prop} {M : bkM} {B b : Nat} {s go : Nat → Int32} {n : Nat} (hn : n ≤ 8) (hs : s 180 = nI n) (c : Int32) : bkCi G Z Z yX6_shipAtSeaIn cX6_shipAtSeaIn 3 (some .int) 0 0 0 [.ref b, .int c] (sW G B b s go M) (fun v M' => v = jsin s n c ∧ M' = sW G B b s go M) := by
  refine bk_meti [some (.ref b), some (.int c), none] rfl pf_X6_shipAtSeaIn rfl rfl (fun E X K => ?_)
  refine r_iconst (pc := 0) (v := 0) X rfl dX6_shipAtSeaIn_0 ?_
  refine r_istore_n (pc := 1) X rfl rfl dX6_shipAtSeaIn_1 ?_
  have lp2 : ∀ (d j : Nat) (y : Int32), j ≤ n → n < j + d → (y = nI j) → (jsin s n c = jfind (fun k => decide (s (140 + 5 * k + 3) = 0) && decide (s (140 + 5 * k + 1) = c)) j (n - j)) → bkV E G Z 0 0 (sW G B b s go M) 2 [some (.ref b), some (.int c), some (.int y)] [] := by
    intro d
    induction d with
    | zero => intro j y; intros; exfalso; omega
    | succ d ih =>
      intro j y hj hd e1 e2
      subst e1
      refine r_iload_n (pc := 2) X rfl dX6_shipAtSeaIn_2 ?_
      refine r_aload_n (pc := 3) X rfl dX6_shipAtSeaIn_3 ?_
      refine gt_X6_36 (pc := 4) X sW_o rfl dX6_shipAtSeaIn_4 ?_
      refine r_icmpN_ge (pc := 7) X 43 (j) (n) rfl hs (by omega) (by omega) (by decide) dX6_shipAtSeaIn_7 (fun q7 => ?_) (fun q7 => ?_)
      · skip
        refine r_bipush (pc := 43) (v := (-5)) X rfl dX6_shipAtSeaIn_43 ?_
        exact K dX6_shipAtSeaIn_45 ⟨(e2.trans (by rw [show j = n by omega]; exact jfind_end)).symm, rfl⟩
      · skip
        refine r_aload_n (pc := 10) X rfl dX6_shipAtSeaIn_10 ?_
        refine gt_X6_29 (pc := 11) X sW_o rfl dX6_shipAtSeaIn_11 ?_
        refine r_iload_n (pc := 14) X rfl dX6_shipAtSeaIn_14 ?_
        refine r_aald (pc := 15) X sW_s rfl rfl (j) rfl (by omega) (by decide) rfl dX6_shipAtSeaIn_15 ?_
        refine gt_X6_97 (pc := 16) X (sW_sh (i := j) (by omega)) rfl dX6_shipAtSeaIn_16 ?_
        refine r_if_ne (pc := 19) X 37 (by decide) dX6_shipAtSeaIn_19 (fun q19 => ?_) (fun q19 => ?_)
        · skip
          refine r_iinc (pc := 37) X rfl rfl rfl dX6_shipAtSeaIn_37 ?_
          refine r_goto (pc := 40) X 2 (by decide) dX6_shipAtSeaIn_40 ?_
          exact ih (j + 1) _ (by omega) (by omega) (nI_1 j) (e2.trans (jfind_miss (by omega) (by simp [q7, q19])))
        · skip
          refine r_aload_n (pc := 22) X rfl dX6_shipAtSeaIn_22 ?_
          refine gt_X6_29 (pc := 23) X sW_o rfl dX6_shipAtSeaIn_23 ?_
          refine r_iload_n (pc := 26) X rfl dX6_shipAtSeaIn_26 ?_
          refine r_aald (pc := 27) X sW_s rfl rfl (j) rfl (by omega) (by decide) rfl dX6_shipAtSeaIn_27 ?_
          refine gt_X6_100 (pc := 28) X (sW_sh (i := j) (by omega)) rfl dX6_shipAtSeaIn_28 ?_
          refine r_iload_n (pc := 31) X rfl dX6_shipAtSeaIn_31 ?_
          refine r_icmp_ne (pc := 32) X 37 (by decide) dX6_shipAtSeaIn_32 (fun q32 => ?_) (fun q32 => ?_)
          · skip
            refine r_iinc (pc := 37) X rfl rfl rfl dX6_shipAtSeaIn_37 ?_
            refine r_goto (pc := 40) X 2 (by decide) dX6_shipAtSeaIn_40 ?_
            exact ih (j + 1) _ (by omega) (by omega) (nI_1 j) (e2.trans (jfind_miss (by omega) (by simp [q7, q19, q32])))
          · skip
            refine r_iload_n (pc := 35) X rfl dX6_shipAtSeaIn_35 ?_
            exact K dX6_shipAtSeaIn_36 ⟨(e2.trans (jfind_hit (by omega) (by simp [q7, q19, q32]))).symm, rfl⟩
  exact lp2 (n + 1) 0 _ (by omega) (by omega) rfl rfl

set_option maxHeartbeats 4000000 in
set_option maxRecDepth 100000 in
theorem c_X6_shipsThatAre {G : bkG} {Z : Nat → Prop} {M : bkM} {B b : Nat} {s go : Nat → Int32} {n : Nat} (hn : n ≤ 8) (hs : s 180 = nI n) (v : Int32) : bkCi G Z Z yX6_shipsThatAre cX6_shipsThatAre 4 (some .int) 0 0 0 [.ref b, .int v] (sW G B b s go M) (fun x M' => x = nI (jct (jst s v) n) ∧ M' = sW G B b s go M) := by
  refine bk_meti [some (.ref b), some (.int v), none, none] rfl pf_X6_shipsThatAre rfl rfl (fun E X K => ?_)
  refine r_iconst (pc := 0) (v := 0) X rfl dX6_shipsThatAre_0 ?_
  refine r_istore_n (pc := 1) X rfl rfl dX6_shipsThatAre_1 ?_
  refine r_iconst (pc := 2) (v := 0) X rfl dX6_shipsThatAre_2 ?_
  refine r_istore_n (pc := 3) X rfl rfl dX6_shipsThatAre_3 ?_
  have lp4 : ∀ (d j : Nat) (x : Int32) (y : Int32), j ≤ n → n < j + d → (x = nI (jct (jst s v) j)) → (y = nI j) → bkV E G Z 0 0 (sW G B b s go M) 4 [some (.ref b), some (.int v), some (.int x), some (.int y)] [] := by
    intro d
    induction d with
    | zero => intro j x y; intros; exfalso; omega
    | succ d ih =>
      intro j x y hj hd e1 e2
      subst e1
      subst e2
      refine r_iload_n (pc := 4) X rfl dX6_shipsThatAre_4 ?_
      refine r_aload_n (pc := 5) X rfl dX6_shipsThatAre_5 ?_
      refine gt_X6_36 (pc := 6) X sW_o rfl dX6_shipsThatAre_6 ?_
      refine r_icmpN_ge (pc := 9) X 34 (j) (n) rfl hs (by omega) (by omega) (by decide) dX6_shipsThatAre_9 (fun q9 => ?_) (fun q9 => ?_)
      · skip
        refine r_iload_n (pc := 34) X rfl dX6_shipsThatAre_34 ?_
        exact K dX6_shipsThatAre_35 ⟨by rw [show j = n by omega], rfl⟩
      · skip
        refine r_aload_n (pc := 12) X rfl dX6_shipsThatAre_12 ?_
        refine gt_X6_29 (pc := 13) X sW_o rfl dX6_shipsThatAre_13 ?_
        refine r_iload_n (pc := 16) X rfl dX6_shipsThatAre_16 ?_
        refine r_aald (pc := 17) X sW_s rfl rfl (j) rfl (by omega) (by decide) rfl dX6_shipsThatAre_17 ?_
        refine gt_X6_97 (pc := 18) X (sW_sh (i := j) (by omega)) rfl dX6_shipsThatAre_18 ?_
        refine r_iload_n (pc := 21) X rfl dX6_shipsThatAre_21 ?_
        refine r_icmp_ne (pc := 22) X 28 (by decide) dX6_shipsThatAre_22 (fun q22 => ?_) (fun q22 => ?_)
        · skip
          refine r_iinc (pc := 28) X rfl rfl rfl dX6_shipsThatAre_28 ?_
          refine r_goto (pc := 31) X 4 (by decide) dX6_shipsThatAre_31 ?_
          refine ih (j + 1) _ _ (by omega) (by omega) ?_ (nI_1 j)
          first | exact jct_t (by simp [jst, q22]) | exact jct_f0 (by simp [jst, q22])
        · skip
          refine r_iinc (pc := 25) X rfl rfl rfl dX6_shipsThatAre_25 ?_
          refine r_iinc (pc := 28) X rfl rfl rfl dX6_shipsThatAre_28 ?_
          refine r_goto (pc := 31) X 4 (by decide) dX6_shipsThatAre_31 ?_
          refine ih (j + 1) _ _ (by omega) (by omega) ?_ (nI_1 j)
          first | exact jct_t (by simp [jst, q22]) | exact jct_f0 (by simp [jst, q22])
  exact lp4 (n + 1) 0 _ _ (by omega) (by omega) rfl rfl

set_option maxHeartbeats 4000000 in
set_option maxRecDepth 100000 in
theorem c_X6_worthHome {G : bkG} {Z : Nat → Prop} {M : bkM} {B b : Nat} {s go : Nat → Int32} {n : Nat} (hn : n ≤ 8) (hs : s 180 = nI n) : bkCi G Z Z yX6_worthHome cX6_worthHome 3 (some .int) 0 0 0 [.ref b] (sW G B b s go M) (fun x M' => x = jworth s (jst s 1) n ∧ M' = sW G B b s go M) := by
  refine bk_meti [some (.ref b), none, none] rfl pf_X6_worthHome rfl rfl (fun E X K => ?_)
  refine r_iconst (pc := 0) (v := 0) X rfl dX6_worthHome_0 ?_
  refine r_istore_n (pc := 1) X rfl rfl dX6_worthHome_1 ?_
  refine r_iconst (pc := 2) (v := 0) X rfl dX6_worthHome_2 ?_
  refine r_istore_n (pc := 3) X rfl rfl dX6_worthHome_3 ?_
  have lp4 : ∀ (d j : Nat) (x : Int32) (y : Int32), j ≤ n → n < j + d → (x = jworth s (jst s 1) j) → (y = nI j) → bkV E G Z 0 0 (sW G B b s go M) 4 [some (.ref b), some (.int x), some (.int y)] [] := by
    intro d
    induction d with
    | zero => intro j x y; intros; exfalso; omega
    | succ d ih =>
      intro j x y hj hd e1 e2
      subst e1
      subst e2
      refine r_iload_n (pc := 4) X rfl dX6_worthHome_4 ?_
      refine r_aload_n (pc := 5) X rfl dX6_worthHome_5 ?_
      refine gt_X6_36 (pc := 6) X sW_o rfl dX6_worthHome_6 ?_
      refine r_icmpN_ge (pc := 9) X 43 (j) (n) rfl hs (by omega) (by omega) (by decide) dX6_worthHome_9 (fun q9 => ?_) (fun q9 => ?_)
      · skip
        refine r_iload_n (pc := 43) X rfl dX6_worthHome_43 ?_
        exact K dX6_worthHome_44 ⟨by rw [show j = n by omega], rfl⟩
      · skip
        refine r_aload_n (pc := 12) X rfl dX6_worthHome_12 ?_
        refine gt_X6_29 (pc := 13) X sW_o rfl dX6_worthHome_13 ?_
        refine r_iload_n (pc := 16) X rfl dX6_worthHome_16 ?_
        refine r_aald (pc := 17) X sW_s rfl rfl (j) rfl (by omega) (by decide) rfl dX6_worthHome_17 ?_
        refine gt_X6_97 (pc := 18) X (sW_sh (i := j) (by omega)) rfl dX6_worthHome_18 ?_
        refine r_iconst (pc := 21) (v := 1) X rfl dX6_worthHome_21 ?_
        refine r_icmp_ne (pc := 22) X 37 (by decide) dX6_worthHome_22 (fun q22 => ?_) (fun q22 => ?_)
        · skip
          refine r_iinc (pc := 37) X rfl rfl rfl dX6_worthHome_37 ?_
          refine r_goto (pc := 40) X 4 (by decide) dX6_worthHome_40 ?_
          refine ih (j + 1) _ _ (by omega) (by omega) ?_ (nI_1 j)
          first | exact jworth_t (by simp [jst, q22]) | exact jworth_f (by simp [jst, q22])
        · skip
          refine r_iload_n (pc := 25) X rfl dX6_worthHome_25 ?_
          refine r_aload_n (pc := 26) X rfl dX6_worthHome_26 ?_
          refine gt_X6_29 (pc := 27) X sW_o rfl dX6_worthHome_27 ?_
          refine r_iload_n (pc := 30) X rfl dX6_worthHome_30 ?_
          refine r_aald (pc := 31) X sW_s rfl rfl (j) rfl (by omega) (by decide) rfl dX6_worthHome_31 ?_
          refine gt_X6_94 (pc := 32) X (sW_sh (i := j) (by omega)) rfl dX6_worthHome_32 ?_
          refine r_iadd (pc := 35) X dX6_worthHome_35 ?_
          refine r_istore_n (pc := 36) X rfl rfl dX6_worthHome_36 ?_
          refine r_iinc (pc := 37) X rfl rfl rfl dX6_worthHome_37 ?_
          refine r_goto (pc := 40) X 4 (by decide) dX6_worthHome_40 ?_
          refine ih (j + 1) _ _ (by omega) (by omega) ?_ (nI_1 j)
          first | exact jworth_t (by simp [jst, q22]) | exact jworth_f (by simp [jst, q22])
  exact lp4 (n + 1) 0 _ _ (by omega) (by omega) rfl rfl

set_option maxHeartbeats 4000000 in
set_option maxRecDepth 100000 in
theorem c_X6_placeOf {G : bkG} {Z : Nat → Prop} {M : bkM} {B b : Nat} {s go : Nat → Int32} {n : Nat} (hw : jwf s n) (hg : cjall s n go) (k : Nat) (hk : k < n) : bkCi G Z Z yX6_placeOf cX6_placeOf 4 (some .int) 0 0 0 [.ref b, .int (nI k)] (sW G B b s go M) (fun v M' => v = (if s (140 + 5 * k + 3) = 0 then nI (jrk s n k) else -5) ∧ M' = sW G B b s go M) := by
  refine bk_meti [some (.ref b), some (.int (nI k)), none, none] rfl pf_X6_placeOf rfl rfl (fun E X K => ?_)
  have hn := hw.1
  have hs := hw.2.1
  refine r_aload_n (pc := 0) X rfl dX6_placeOf_0 ?_
  refine gt_X6_29 (pc := 1) X sW_o rfl dX6_placeOf_1 ?_
  refine r_iload_n (pc := 4) X rfl dX6_placeOf_4 ?_
  refine r_aald (pc := 5) X sW_s rfl rfl (k) rfl (by omega) (by decide) rfl dX6_placeOf_5 ?_
  refine gt_X6_97 (pc := 6) X (sW_sh (i := k) (by omega)) rfl dX6_placeOf_6 ?_
  refine r_if_eq (pc := 9) X 15 (by decide) dX6_placeOf_9 (fun q9 => ?_) (fun q9 => ?_)
  · skip
    refine r_iconst (pc := 15) (v := 0) X rfl dX6_placeOf_15 ?_
    refine r_istore_n (pc := 16) X rfl rfl dX6_placeOf_16 ?_
    refine r_iconst (pc := 17) (v := 0) X rfl dX6_placeOf_17 ?_
    refine r_istore_n (pc := 18) X rfl rfl dX6_placeOf_18 ?_
    have lp19 : ∀ (d j : Nat) (x : Int32) (y : Int32), j ≤ n → n < j + d → (x = nI (((jall (jwn s) n).take j).countP (jsea s))) → (y = nI j) → (∀ i, i < j → ∀ h : i < (jall (jwn s) n).length, (jall (jwn s) n)[i] ≠ k) → bkV E G Z 0 0 (sW G B b s go M) 19 [some (.ref b), some (.int (nI k)), some (.int x), some (.int y)] [] := by
      intro d
      induction d with
      | zero => intro j x y; intros; exfalso; omega
      | succ d ih =>
        intro j x y hj hd e1 e2 e3
        subst e1
        subst e2
        refine r_iload_n (pc := 19) X rfl dX6_placeOf_19 ?_
        refine r_aload_n (pc := 20) X rfl dX6_placeOf_20 ?_
        refine gt_X6_36 (pc := 21) X sW_o rfl dX6_placeOf_21 ?_
        refine r_icmpN_ge (pc := 24) X 63 (j) (n) rfl hs (by omega) (by omega) (by decide) dX6_placeOf_24 (fun q24 => ?_) (fun q24 => ?_)
        · skip
          exfalso
          obtain ⟨i, hi, ei⟩ := List.getElem_of_mem (jall_mem (w := jwn s) |>.mpr hk)
          rw [jall_len] at hi
          exact e3 i (by omega) (by rw [jall_len]; exact hi) ei
        · skip
          refine r_aload_n (pc := 27) X rfl dX6_placeOf_27 ?_
          refine gt_X6_33 (pc := 28) X sW_o rfl dX6_placeOf_28 ?_
          refine r_iload_n (pc := 31) X rfl dX6_placeOf_31 ?_
          refine r_iald (pc := 32) X sW_g (j) rfl (by omega) (by decide) dX6_placeOf_32 ?_
          have hj2 : j < (jall (jwn s) n).length := by rw [jall_len]; exact q24
          have hj3 : (jall (jwn s) n)[j] < n := jall_mem.mp (List.getElem_mem hj2)
          refine bk_top (hg j hj2) ?_
          refine r_iload_n (pc := 33) X rfl dX6_placeOf_33 ?_
          refine r_icmpN_eq (pc := 34) X 63 ((jall (jwn s) n)[j]) (k) rfl rfl (by omega) (by omega) (by decide) dX6_placeOf_34 (fun q34 => ?_) (fun q34 => ?_)
          · skip
            refine r_iload_n (pc := 63) X rfl dX6_placeOf_63 ?_
            exact K dX6_placeOf_64 ⟨by rw [if_pos q9, ← jrk_pos hw.wo hj2, q34], rfl⟩
          · skip
            refine r_aload_n (pc := 37) X rfl dX6_placeOf_37 ?_
            refine gt_X6_29 (pc := 38) X sW_o rfl dX6_placeOf_38 ?_
            refine r_aload_n (pc := 41) X rfl dX6_placeOf_41 ?_
            refine gt_X6_33 (pc := 42) X sW_o rfl dX6_placeOf_42 ?_
            refine r_iload_n (pc := 45) X rfl dX6_placeOf_45 ?_
            refine r_iald (pc := 46) X sW_g (j) rfl (by omega) (by decide) dX6_placeOf_46 ?_
            refine bk_top (hg j hj2) ?_
            refine r_aald (pc := 47) X sW_s rfl rfl ((jall (jwn s) n)[j]) rfl (by omega) (by decide) rfl dX6_placeOf_47 ?_
            refine gt_X6_97 (pc := 48) X (sW_sh (i := (jall (jwn s) n)[j]) (by omega)) rfl dX6_placeOf_48 ?_
            refine r_if_ne (pc := 51) X 57 (by decide) dX6_placeOf_51 (fun q51 => ?_) (fun q51 => ?_)
            · skip
              refine r_iinc (pc := 57) X rfl rfl rfl dX6_placeOf_57 ?_
              refine r_goto (pc := 60) X 19 (by decide) dX6_placeOf_60 ?_
              refine ih (j + 1) _ _ (by omega) (by omega) ?_ (nI_1 j) (fun i hi2 hi3 => ?_)
              · first | exact jtake_t hj2 (by simp [jsea, q51]) | exact jtake_f hj2 (by simp [jsea, q51])
              · rcases Nat.lt_or_ge i j with z | z
                · exact e3 i z hi3
                · obtain rfl : i = j := by omega
                  exact q34
            · skip
              refine r_iinc (pc := 54) X rfl rfl rfl dX6_placeOf_54 ?_
              refine r_iinc (pc := 57) X rfl rfl rfl dX6_placeOf_57 ?_
              refine r_goto (pc := 60) X 19 (by decide) dX6_placeOf_60 ?_
              refine ih (j + 1) _ _ (by omega) (by omega) ?_ (nI_1 j) (fun i hi2 hi3 => ?_)
              · first | exact jtake_t hj2 (by simp [jsea, q51]) | exact jtake_f hj2 (by simp [jsea, q51])
              · rcases Nat.lt_or_ge i j with z | z
                · exact e3 i z hi3
                · obtain rfl : i = j := by omega
                  exact q34
    exact lp19 (n + 1) 0 _ _ (by omega) (by omega) rfl rfl (fun i hi => absurd hi (Nat.not_lt_zero i))
  · skip
    refine r_bipush (pc := 12) (v := (-5)) X rfl dX6_placeOf_12 ?_
    exact K dX6_placeOf_14 ⟨(if_neg q9).symm, rfl⟩

set_option maxHeartbeats 4000000 in
set_option maxRecDepth 100000 in
theorem c_X6_canLayCard {G : bkG} {Z : Nat → Prop} {M : bkM} {B b : Nat} {s go : Nat → Int32} (k l : Nat) (hk : k < 4) (hl : l < 4) : bkCi G Z Z yX6_canLayCard cX6_canLayCard 3 (some .boolean) 0 0 0 [.ref b, .int (nI k), .int (nI l)] (sW G B b s go M) (fun x M' => x = bi (jcl s k l) ∧ M' = sW G B b s go M) := by
  refine bk_metz [some (.ref b), some (.int (nI k)), some (.int (nI l))] rfl pf_X6_canLayCard rfl rfl (fun E X K => ?_)
  refine r_iload_n (pc := 0) X rfl dX6_canLayCard_0 ?_
  refine r_iload_n (pc := 1) X rfl dX6_canLayCard_1 ?_
  refine r_icmpN_eq (pc := 2) X 35 (k) (l) rfl rfl (by omega) (by omega) (by decide) dX6_canLayCard_2 (fun q2 => ?_) (fun q2 => ?_)
  · skip
    refine r_iconst (pc := 35) (v := 0) X rfl dX6_canLayCard_35 ?_
    exact K dX6_canLayCard_36 (by first | exact Or.inl rfl | exact Or.inr rfl) ⟨by clear K X; grind [jcl, bi], rfl⟩
  · skip
    refine r_aload_n (pc := 5) X rfl dX6_canLayCard_5 ?_
    refine gt_X6_23 (pc := 6) X sW_o rfl dX6_canLayCard_6 ?_
    refine r_iload_n (pc := 9) X rfl dX6_canLayCard_9 ?_
    refine r_aald (pc := 10) X sW_k rfl rfl (k) rfl (by omega) (by decide) rfl dX6_canLayCard_10 ?_
    refine gt_X6_103 (pc := 11) X (sW_kp (i := k) (by omega)) rfl dX6_canLayCard_11 ?_
    refine r_if_le (pc := 14) X 35 (by decide) dX6_canLayCard_14 (fun q14 => ?_) (fun q14 => ?_)
    · skip
      refine r_iconst (pc := 35) (v := 0) X rfl dX6_canLayCard_35 ?_
      exact K dX6_canLayCard_36 (by first | exact Or.inl rfl | exact Or.inr rfl) ⟨by clear K X; grind [jcl, bi], rfl⟩
    · skip
      refine r_aload_n (pc := 17) X rfl dX6_canLayCard_17 ?_
      refine gt_X6_17 (pc := 18) X sW_o rfl dX6_canLayCard_18 ?_
      refine r_iload_n (pc := 21) X rfl dX6_canLayCard_21 ?_
      refine r_aald (pc := 22) X sW_l rfl rfl (l) rfl (by omega) (by decide) rfl dX6_canLayCard_22 ?_
      refine gt_X6_106 (pc := 23) X (sW_lt (i := l) (by omega)) rfl dX6_canLayCard_23 ?_
      refine r_bipush (pc := 26) (v := 9) X rfl dX6_canLayCard_26 ?_
      refine r_icmp_ge (pc := 28) X 35 (by decide) dX6_canLayCard_28 (fun q28 => ?_) (fun q28 => ?_)
      · skip
        refine r_iconst (pc := 35) (v := 0) X rfl dX6_canLayCard_35 ?_
        exact K dX6_canLayCard_36 (by first | exact Or.inl rfl | exact Or.inr rfl) ⟨by clear K X; grind [jcl, bi], rfl⟩
      · skip
        refine r_iconst (pc := 31) (v := 1) X rfl dX6_canLayCard_31 ?_
        refine r_goto (pc := 32) X 36 (by decide) dX6_canLayCard_32 ?_
        exact K dX6_canLayCard_36 (by first | exact Or.inl rfl | exact Or.inr rfl) ⟨by clear K X; grind [jcl, bi], rfl⟩

set_option maxHeartbeats 4000000 in
set_option maxRecDepth 100000 in
theorem c_X6_debts {G : bkG} {Z : Nat → Prop} {M : bkM} {B b : Nat} {s go : Nat → Int32} : bkCi G Z Z yX6_debts cX6_debts 6 (some .int) 0 0 0 [.ref b] (sW G B b s go M) (fun v M' => v = jsm (fun l => s (120 + 5 * l + 1)) 4 ∧ M' = sW G B b s go M) := by
  refine bk_meti [some (.ref b), none, none, none, none, none] rfl pf_X6_debts rfl rfl (fun E X K => ?_)
  refine r_iconst (pc := 0) (v := 0) X rfl dX6_debts_0 ?_
  refine r_istore_n (pc := 1) X rfl rfl dX6_debts_1 ?_
  refine r_aload_n (pc := 2) X rfl dX6_debts_2 ?_
  refine gt_X6_23 (pc := 3) X sW_o rfl dX6_debts_3 ?_
  refine r_astore_n (pc := 6) X rfl rfl dX6_debts_6 ?_
  refine r_aload_n (pc := 7) X rfl dX6_debts_7 ?_
  refine r_alen (pc := 8) (t := 0) X sW_k 4 rfl dX6_debts_8 ?_
  refine r_istore_n (pc := 9) X rfl rfl dX6_debts_9 ?_
  refine r_iconst (pc := 10) (v := 0) X rfl dX6_debts_10 ?_
  refine r_istore (pc := 11) X rfl rfl dX6_debts_11 ?_
  have lp13 : ∀ (d j : Nat) (x : Int32) (y : Int32), j ≤ 4 → 4 < j + d → (x = jsm (fun l => s (120 + 5 * l + 1)) j) → (y = nI j) → bkV E G Z 0 0 (sW G B b s go M) 13 [some (.ref b), some (.int x), some (.ref (b + 3)), some (.int (nI 4)), some (.int y), none] [] := by
    intro d
    induction d with
    | zero => intro j x y; intros; exfalso; omega
    | succ d ih =>
      intro j x y hj hd e1 e2
      subst e1
      subst e2
      refine r_iload (pc := 13) X rfl dX6_debts_13 ?_
      refine r_iload_n (pc := 15) X rfl dX6_debts_15 ?_
      refine r_icmpN_ge (pc := 16) X 39 (j) (4) rfl rfl (by omega) (by omega) (by decide) dX6_debts_16 (fun q16 => ?_) (fun q16 => ?_)
      · skip
        refine r_iload_n (pc := 39) X rfl dX6_debts_39 ?_
        exact K dX6_debts_40 ⟨by rw [show j = 4 by omega], rfl⟩
      · skip
        refine r_aload_n (pc := 19) X rfl dX6_debts_19 ?_
        refine r_iload (pc := 20) X rfl dX6_debts_20 ?_
        refine r_aald (pc := 22) X sW_k rfl rfl (j) rfl (by omega) (by decide) rfl dX6_debts_22 ?_
        refine r_astore (pc := 23) X rfl rfl dX6_debts_23 ?_
        refine r_iload_n (pc := 25) X rfl dX6_debts_25 ?_
        refine r_aload (pc := 26) X rfl dX6_debts_26 ?_
        refine gt_X6_109 (pc := 28) X (sW_kp (i := j) (by omega)) rfl dX6_debts_28 ?_
        refine r_iadd (pc := 31) X dX6_debts_31 ?_
        refine r_istore_n (pc := 32) X rfl rfl dX6_debts_32 ?_
        refine r_iinc (pc := 33) X rfl rfl rfl dX6_debts_33 ?_
        refine r_goto (pc := 36) X 13 (by decide) dX6_debts_36 ?_
        exact bkV.drop 5 (ih (j + 1) _ _ (by omega) (by omega) rfl (nI_1 j))
  exact lp13 (4 + 1) 0 _ _ (by omega) (by omega) rfl rfl

set_option maxHeartbeats 4000000 in
set_option maxRecDepth 100000 in
theorem c_X6_paid {G : bkG} {Z : Nat → Prop} {M : bkM} {B b : Nat} {s go : Nat → Int32} : bkCi G Z Z yX6_paid cX6_paid 6 (some .int) 0 0 0 [.ref b] (sW G B b s go M) (fun v M' => v = jsm (fun l => s (120 + 5 * l + 4)) 4 ∧ M' = sW G B b s go M) := by
  refine bk_meti [some (.ref b), none, none, none, none, none] rfl pf_X6_paid rfl rfl (fun E X K => ?_)
  refine r_iconst (pc := 0) (v := 0) X rfl dX6_paid_0 ?_
  refine r_istore_n (pc := 1) X rfl rfl dX6_paid_1 ?_
  refine r_aload_n (pc := 2) X rfl dX6_paid_2 ?_
  refine gt_X6_23 (pc := 3) X sW_o rfl dX6_paid_3 ?_
  refine r_astore_n (pc := 6) X rfl rfl dX6_paid_6 ?_
  refine r_aload_n (pc := 7) X rfl dX6_paid_7 ?_
  refine r_alen (pc := 8) (t := 0) X sW_k 4 rfl dX6_paid_8 ?_
  refine r_istore_n (pc := 9) X rfl rfl dX6_paid_9 ?_
  refine r_iconst (pc := 10) (v := 0) X rfl dX6_paid_10 ?_
  refine r_istore (pc := 11) X rfl rfl dX6_paid_11 ?_
  have lp13 : ∀ (d j : Nat) (x : Int32) (y : Int32), j ≤ 4 → 4 < j + d → (x = jsm (fun l => s (120 + 5 * l + 4)) j) → (y = nI j) → bkV E G Z 0 0 (sW G B b s go M) 13 [some (.ref b), some (.int x), some (.ref (b + 3)), some (.int (nI 4)), some (.int y), none] [] := by
    intro d
    induction d with
    | zero => intro j x y; intros; exfalso; omega
    | succ d ih =>
      intro j x y hj hd e1 e2
      subst e1
      subst e2
      refine r_iload (pc := 13) X rfl dX6_paid_13 ?_
      refine r_iload_n (pc := 15) X rfl dX6_paid_15 ?_
      refine r_icmpN_ge (pc := 16) X 39 (j) (4) rfl rfl (by omega) (by omega) (by decide) dX6_paid_16 (fun q16 => ?_) (fun q16 => ?_)
      · skip
        refine r_iload_n (pc := 39) X rfl dX6_paid_39 ?_
        exact K dX6_paid_40 ⟨by rw [show j = 4 by omega], rfl⟩
      · skip
        refine r_aload_n (pc := 19) X rfl dX6_paid_19 ?_
        refine r_iload (pc := 20) X rfl dX6_paid_20 ?_
        refine r_aald (pc := 22) X sW_k rfl rfl (j) rfl (by omega) (by decide) rfl dX6_paid_22 ?_
        refine r_astore (pc := 23) X rfl rfl dX6_paid_23 ?_
        refine r_iload_n (pc := 25) X rfl dX6_paid_25 ?_
        refine r_aload (pc := 26) X rfl dX6_paid_26 ?_
        refine gt_X6_112 (pc := 28) X (sW_kp (i := j) (by omega)) rfl dX6_paid_28 ?_
        refine r_iadd (pc := 31) X dX6_paid_31 ?_
        refine r_istore_n (pc := 32) X rfl rfl dX6_paid_32 ?_
        refine r_iinc (pc := 33) X rfl rfl rfl dX6_paid_33 ?_
        refine r_goto (pc := 36) X 13 (by decide) dX6_paid_36 ?_
        exact bkV.drop 5 (ih (j + 1) _ _ (by omega) (by omega) rfl (nI_1 j))
  exact lp13 (4 + 1) 0 _ _ (by omega) (by omega) rfl rfl

set_option maxHeartbeats 4000000 in
set_option maxRecDepth 100000 in
theorem c_X6_passError {G : bkG} {Z : Nat → Prop} {M : bkM} {B b : Nat} {s go : Nat → Int32} (v : Int32) : bkCi G Z Z yX6_passError cX6_passError 2 (some .int) 0 0 0 [.ref b, .int v] (sW G B b s go M) (fun x M' => x = jbp s v ∧ M' = sW G B b s go M) := by
  refine bk_meti [some (.ref b), some (.int v)] rfl pf_X6_passError rfl rfl (fun E X K => ?_)
  refine r_iload_n (pc := 0) X rfl dX6_passError_0 ?_
  refine r_iconst (pc := 1) (v := 1) X rfl dX6_passError_1 ?_
  refine r_icmp_lt (pc := 2) X 11 (by decide) dX6_passError_2 (fun q2 => ?_) (fun q2 => ?_)
  · skip
    refine r_bipush (pc := 11) (v := (-2)) X rfl dX6_passError_11 ?_
    exact K dX6_passError_13 ⟨by clear K X; unfold jbp jin; grind, rfl⟩
  · skip
    refine r_iload_n (pc := 5) X rfl dX6_passError_5 ?_
    refine r_bipush (pc := 6) (v := 20) X rfl dX6_passError_6 ?_
    refine r_icmp_le (pc := 8) X 14 (by decide) dX6_passError_8 (fun q8 => ?_) (fun q8 => ?_)
    · skip
      refine r_aload_n (pc := 14) X rfl dX6_passError_14 ?_
      refine gt_X6_43 (pc := 15) X sW_o rfl dX6_passError_15 ?_
      refine r_iload_n (pc := 18) X rfl dX6_passError_18 ?_
      refine r_iadd (pc := 19) X dX6_passError_19 ?_
      refine r_sipush (pc := 20) (v := 9999) X rfl dX6_passError_20 ?_
      refine r_icmp_le (pc := 23) X 31 (by decide) dX6_passError_23 (fun q23 => ?_) (fun q23 => ?_)
      · skip
        refine r_iconst (pc := 31) (v := 0) X rfl dX6_passError_31 ?_
        exact K dX6_passError_32 ⟨by clear K X; unfold jbp jin; grind, rfl⟩
      · skip
        refine r_bipush (pc := 26) (v := (-3)) X rfl dX6_passError_26 ?_
        refine r_goto (pc := 28) X 32 (by decide) dX6_passError_28 ?_
        exact K dX6_passError_32 ⟨by clear K X; unfold jbp jin; grind, rfl⟩
    · skip
      refine r_bipush (pc := 11) (v := (-2)) X rfl dX6_passError_11 ?_
      exact K dX6_passError_13 ⟨by clear K X; unfold jbp jin; grind, rfl⟩

