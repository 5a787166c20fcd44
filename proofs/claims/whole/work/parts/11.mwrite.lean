set_option maxHeartbeats 4000000 in
set_option maxRecDepth 100000 in
theorem c_X9_records {G : bkG} {Z : Nat → Prop} {M : bkM} {r : Nat} {s a p q t o f : Nat → Int32} {np : Nat} (hnp : np ≤ 4) (hf : f 3 = nI np) : bkCv G Z Z yX9_records cX9_records 2 0 0 0 [.ref r] (mW G M r s a p q t o f) (fun M' => M' = (mW G M r s a (jrp s p np) q t o (upd f 3 (nI (jrn np))))) := by
  refine bk_metv [some (.ref r), none] rfl pf_X9_records rfl rfl (fun E X hn K => ?_)
  have t49 : ∀ (p1 f1 : Nat → Int32) (n1 : Nat), n1 ≤ 3 → f1 3 = nI n1 → jw2 p1 s (183 * n1) 183 = jrp s p np → upd f1 3 (nI (n1 + 1)) = upd f 3 (nI (jrn np)) → bkV E G Z 0 0 (mW G M r s a p1 q t o f1) 49 [some (.ref r), none] [] := by
    intro p1 f1 n1 hn1 e1 e2 e3
    refine r_iconst (pc := 49) (v := 0) X rfl dX9_records_49 ?_
    refine r_istore_n (pc := 50) X rfl rfl dX9_records_50 ?_
    have lp51 : ∀ (d j : Nat) (y : Int32), j ≤ 183 → 183 < j + d → (y = nI j) → bkV E G Z 0 0 (mW G M r s a (jw2 p1 s (183 * n1) j) q t o f1) 51 [some (.ref r), some (.int y)] [] := by
      intro d
      induction d with
      | zero => intro j y; intros; exfalso; omega
      | succ d ih =>
        intro j y hj hd e1
        subst e1
        refine r_iload_n (pc := 51) X rfl dX9_records_51 ?_
        refine r_sipush (pc := 52) (v := 183) X rfl dX9_records_52 ?_
        refine r_icmpN_ge (pc := 55) X 85 (j) (183) rfl rfl (by omega) (by omega) (by decide) dX9_records_55 (fun q55 => ?_) (fun q55 => ?_)
        · skip
          refine r_aload_n (pc := 85) X rfl dX9_records_85 ?_
          refine r_dup (pc := 86) X rfl dX9_records_86 ?_
          refine gt_X9_40 (pc := 87) X mW_0 rfl dX9_records_87 ?_
          refine r_iconst (pc := 90) (v := 1) X rfl dX9_records_90 ?_
          refine r_iadd (pc := 91) X dX9_records_91 ?_
          refine pt_X9_40 (pc := 92) X mW_0  rfl dX9_records_92 ?_
          refine bkV.eq mP_3 ?_
          exact K dX9_records_95 (by rw [show j = 183 by omega, e2, e1, nI_1, e3])
        · skip
          refine r_aload_n (pc := 58) X rfl dX9_records_58 ?_
          refine gt_X9_16 (pc := 59) X mW_0 rfl dX9_records_59 ?_
          refine r_sipush (pc := 62) (v := 183) X rfl dX9_records_62 ?_
          refine r_aload_n (pc := 65) X rfl dX9_records_65 ?_
          refine gt_X9_40 (pc := 66) X mW_0 rfl dX9_records_66 ?_
          refine r_imul (pc := 69) X dX9_records_69 ?_
          refine r_iload_n (pc := 70) X rfl dX9_records_70 ?_
          refine r_iadd (pc := 71) X dX9_records_71 ?_
          refine r_aload_n (pc := 72) X rfl dX9_records_72 ?_
          refine gt_X9_7 (pc := 73) X mW_0 rfl dX9_records_73 ?_
          refine r_iload_n (pc := 76) X rfl dX9_records_76 ?_
          refine r_iald (pc := 77) X mW_1 (j) rfl (by omega) (by decide) dX9_records_77 ?_
          refine r_iast (pc := 78) X mW_3 (183 * n1 + j) (by rw [e1, ← nI_add, ← pk_mul]; rfl) (by omega) (by decide) dX9_records_78 ?_
          refine bkV.eq mS_3 ?_
          refine r_iinc (pc := 79) X rfl rfl rfl dX9_records_79 ?_
          refine r_goto (pc := 82) X 51 (by decide) dX9_records_82 ?_
          rw [jw2_up]
          exact ih (j + 1) _ (by omega) (by omega) (nI_1 j)
    refine bkV.eq (show (mW G M r s a p1 q t o f1) = (mW G M r s a (jw2 p1 s (183 * n1) 0) q t o f1) by rw [jw2_0]) ?_
    exact lp51 (183 + 1) 0 _ (by omega) (by omega) rfl
  refine r_aload_n (pc := 0) X rfl dX9_records_0 ?_
  refine gt_X9_40 (pc := 1) X mW_0 rfl dX9_records_1 ?_
  refine r_iconst (pc := 4) (v := 4) X rfl dX9_records_4 ?_
  refine r_icmpN_ne (pc := 5) X 49 (np) (4) hf rfl (by omega) (by omega) (by decide) dX9_records_5 (fun q5 => ?_) (fun q5 => ?_)
  · skip
    first | exact t49 p f np (by omega) hf (by simp [jrp, jrn, q5]) (by simp [jrn, q5]) | (subst q5; exact bkV.drop 1 (t49 (jw1 p 549) (upd f 3 (f 3 - 1)) 3 (by omega) (by rw [upd_s, hf]; rfl) (by simp [jrp, jrn]) (by rw [upd_upd]; simp [jrn])))
  · skip
    refine r_iconst (pc := 8) (v := 0) X rfl dX9_records_8 ?_
    refine r_istore_n (pc := 9) X rfl rfl dX9_records_9 ?_
    have lp10 : ∀ (d j : Nat) (y : Int32), j ≤ 549 → 549 < j + d → (y = nI j) → bkV E G Z 0 0 (mW G M r s a (jw1 p j) q t o f) 10 [some (.ref r), some (.int y)] [] := by
      intro d
      induction d with
      | zero => intro j y; intros; exfalso; omega
      | succ d ih =>
        intro j y hj hd e1
        subst e1
        refine r_iload_n (pc := 10) X rfl dX9_records_10 ?_
        refine r_sipush (pc := 11) (v := 549) X rfl dX9_records_11 ?_
        refine r_icmpN_ge (pc := 14) X 39 (j) (549) rfl rfl (by omega) (by omega) (by decide) dX9_records_14 (fun q14 => ?_) (fun q14 => ?_)
        · skip
          obtain rfl : j = 549 := by omega
          refine r_aload_n (pc := 39) X rfl dX9_records_39 ?_
          refine r_dup (pc := 40) X rfl dX9_records_40 ?_
          refine gt_X9_40 (pc := 41) X mW_0 rfl dX9_records_41 ?_
          refine r_iconst (pc := 44) (v := 1) X rfl dX9_records_44 ?_
          refine r_isub (pc := 45) X dX9_records_45 ?_
          refine pt_X9_40 (pc := 46) X mW_0  rfl dX9_records_46 ?_
          refine bkV.eq mP_3 ?_
          first | exact t49 p f np (by omega) hf (by simp [jrp, jrn, q5]) (by simp [jrn, q5]) | (subst q5; exact bkV.drop 1 (t49 (jw1 p 549) (upd f 3 (f 3 - 1)) 3 (by omega) (by rw [upd_s, hf]; rfl) (by simp [jrp, jrn]) (by rw [upd_upd]; simp [jrn])))
        · skip
          refine r_aload_n (pc := 17) X rfl dX9_records_17 ?_
          refine gt_X9_16 (pc := 18) X mW_0 rfl dX9_records_18 ?_
          refine r_iload_n (pc := 21) X rfl dX9_records_21 ?_
          refine r_aload_n (pc := 22) X rfl dX9_records_22 ?_
          refine gt_X9_16 (pc := 23) X mW_0 rfl dX9_records_23 ?_
          refine r_sipush (pc := 26) (v := 183) X rfl dX9_records_26 ?_
          refine r_iload_n (pc := 29) X rfl dX9_records_29 ?_
          refine r_iadd (pc := 30) X dX9_records_30 ?_
          refine r_iald (pc := 31) X mW_3 (183 + j) (nI_add 183 j) (by omega) (by decide) dX9_records_31 ?_
          refine r_iast (pc := 32) X mW_3 (j) rfl (by omega) (by decide) dX9_records_32 ?_
          refine bkV.eq mS_3 ?_
          refine r_iinc (pc := 33) X rfl rfl rfl dX9_records_33 ?_
          refine r_goto (pc := 36) X 10 (by decide) dX9_records_36 ?_
          rw [jw1_up]
          exact ih (j + 1) _ (by omega) (by omega) (nI_1 j)
    refine bkV.eq (show (mW G M r s a p q t o f) = (mW G M r s a (jw1 p 0) q t o f) by rw [jw1_0]) ?_
    exact lp10 (549 + 1) 0 _ (by omega) (by omega) rfl

set_option maxHeartbeats 4000000 in
set_option maxRecDepth 100000 in
theorem c_X9_putAside {G : bkG} {Z : Nat → Prop} {M : bkM} {r : Nat} {s a p q t o f : Nat → Int32} : bkCv G Z Z yX9_putAside cX9_putAside 2 0 0 0 [.ref r] (mW G M r s a p q t o f) (fun M' => M' = (mW G M r s s p q t o f)) := by
  refine bk_metv [some (.ref r), none] rfl pf_X9_putAside rfl rfl (fun E X hn K => ?_)
  refine r_iconst (pc := 0) (v := 0) X rfl dX9_putAside_0 ?_
  refine r_istore_n (pc := 1) X rfl rfl dX9_putAside_1 ?_
  have lp2 : ∀ (d j : Nat) (y : Int32), j ≤ 183 → 183 < j + d → (y = nI j) → bkV E G Z 0 0 (mW G M r s (jcp a s j) p q t o f) 2 [some (.ref r), some (.int y)] [] := by
    intro d
    induction d with
    | zero => intro j y; intros; exfalso; omega
    | succ d ih =>
      intro j y hj hd e1
      subst e1
      refine r_iload_n (pc := 2) X rfl dX9_putAside_2 ?_
      refine r_sipush (pc := 3) (v := 183) X rfl dX9_putAside_3 ?_
      refine r_icmpN_ge (pc := 6) X 27 (j) (183) rfl rfl (by omega) (by omega) (by decide) dX9_putAside_6 (fun q6 => ?_) (fun q6 => ?_)
      · skip
        obtain rfl : j = 183 := by omega
        refine bkV.extI mW_2 (g := s) (fun i hi => if_pos hi) ?_
        refine bkV.eq mS_2 ?_
        exact K dX9_putAside_27 rfl
      · skip
        refine r_aload_n (pc := 9) X rfl dX9_putAside_9 ?_
        refine gt_X9_13 (pc := 10) X mW_0 rfl dX9_putAside_10 ?_
        refine r_iload_n (pc := 13) X rfl dX9_putAside_13 ?_
        refine r_aload_n (pc := 14) X rfl dX9_putAside_14 ?_
        refine gt_X9_7 (pc := 15) X mW_0 rfl dX9_putAside_15 ?_
        refine r_iload_n (pc := 18) X rfl dX9_putAside_18 ?_
        refine r_iald (pc := 19) X mW_1 (j) rfl (by omega) (by decide) dX9_putAside_19 ?_
        refine r_iast (pc := 20) X mW_2 (j) rfl (by omega) (by decide) dX9_putAside_20 ?_
        refine bkV.eq mS_2 ?_
        refine r_iinc (pc := 21) X rfl rfl rfl dX9_putAside_21 ?_
        refine r_goto (pc := 24) X 2 (by decide) dX9_putAside_24 ?_
        rw [jcp_up]
        exact ih (j + 1) _ (by omega) (by omega) (nI_1 j)
  refine bkV.eq (show (mW G M r s a p q t o f) = (mW G M r s (jcp a s 0) p q t o f) by rw [jcp_0]) ?_
  exact lp2 (183 + 1) 0 _ (by omega) (by omega) rfl

set_option maxHeartbeats 4000000 in
set_option maxRecDepth 100000 in
theorem c_X9_putBack {G : bkG} {Z : Nat → Prop} {M : bkM} {r : Nat} {s a p q t o f : Nat → Int32} : bkCv G Z Z yX9_putBack cX9_putBack 2 0 0 0 [.ref r] (mW G M r s a p q t o f) (fun M' => M' = (mW G M r a a p q t o f)) := by
  refine bk_metv [some (.ref r), none] rfl pf_X9_putBack rfl rfl (fun E X hn K => ?_)
  refine r_iconst (pc := 0) (v := 0) X rfl dX9_putBack_0 ?_
  refine r_istore_n (pc := 1) X rfl rfl dX9_putBack_1 ?_
  have lp2 : ∀ (d j : Nat) (y : Int32), j ≤ 183 → 183 < j + d → (y = nI j) → bkV E G Z 0 0 (mW G M r (jcp s a j) a p q t o f) 2 [some (.ref r), some (.int y)] [] := by
    intro d
    induction d with
    | zero => intro j y; intros; exfalso; omega
    | succ d ih =>
      intro j y hj hd e1
      subst e1
      refine r_iload_n (pc := 2) X rfl dX9_putBack_2 ?_
      refine r_sipush (pc := 3) (v := 183) X rfl dX9_putBack_3 ?_
      refine r_icmpN_ge (pc := 6) X 27 (j) (183) rfl rfl (by omega) (by omega) (by decide) dX9_putBack_6 (fun q6 => ?_) (fun q6 => ?_)
      · skip
        obtain rfl : j = 183 := by omega
        refine bkV.extI mW_1 (g := a) (fun i hi => if_pos hi) ?_
        refine bkV.eq mS_1 ?_
        exact K dX9_putBack_27 rfl
      · skip
        refine r_aload_n (pc := 9) X rfl dX9_putBack_9 ?_
        refine gt_X9_7 (pc := 10) X mW_0 rfl dX9_putBack_10 ?_
        refine r_iload_n (pc := 13) X rfl dX9_putBack_13 ?_
        refine r_aload_n (pc := 14) X rfl dX9_putBack_14 ?_
        refine gt_X9_13 (pc := 15) X mW_0 rfl dX9_putBack_15 ?_
        refine r_iload_n (pc := 18) X rfl dX9_putBack_18 ?_
        refine r_iald (pc := 19) X mW_2 (j) rfl (by omega) (by decide) dX9_putBack_19 ?_
        refine r_iast (pc := 20) X mW_1 (j) rfl (by omega) (by decide) dX9_putBack_20 ?_
        refine bkV.eq mS_1 ?_
        refine r_iinc (pc := 21) X rfl rfl rfl dX9_putBack_21 ?_
        refine r_goto (pc := 24) X 2 (by decide) dX9_putBack_24 ?_
        rw [jcp_up]
        exact ih (j + 1) _ (by omega) (by omega) (nI_1 j)
  refine bkV.eq (show (mW G M r s a p q t o f) = (mW G M r (jcp s a 0) a p q t o f) by rw [jcp_0]) ?_
  exact lp2 (183 + 1) 0 _ (by omega) (by omega) rfl

set_option maxHeartbeats 4000000 in
set_option maxRecDepth 100000 in
theorem c_X9_comes {G : bkG} {Z : Nat → Prop} {M : bkM} {r : Nat} {s a p q t o f : Nat → Int32} {n : Nat} (hn : n < 8) (hs : s 180 = nI n) (w c h : Int32) : bkCi G Z Z yX9_comes cX9_comes 5 (some .int) 1 0 0 [.ref r, .int w, .int c, .int h] (mW G M r s a p q t o f) (fun v M' => v = nI n ∧ M' = (mW G M r (jcm s n w c h) a p q t o f)) := by
  refine bk_meti [some (.ref r), some (.int w), some (.int c), some (.int h), none] rfl pf_X9_comes rfl rfl (fun E X K => ?_)
  refine r_aload_n (pc := 0) X rfl dX9_comes_0 ?_
  refine gt_X9_7 (pc := 1) X mW_0 rfl dX9_comes_1 ?_
  refine r_sipush (pc := 4) (v := 180) X rfl dX9_comes_4 ?_
  refine r_iald (pc := 7) X mW_1 (180) rfl (by omega) (by decide) dX9_comes_7 ?_
  refine bk_top hs ?_
  refine r_istore (pc := 8) X rfl rfl dX9_comes_8 ?_
  refine r_aload_n (pc := 10) X rfl dX9_comes_10 ?_
  refine gt_X9_7 (pc := 11) X mW_0 rfl dX9_comes_11 ?_
  refine r_iload (pc := 14) X rfl dX9_comes_14 ?_
  refine r_iconst (pc := 16) (v := 0) X rfl dX9_comes_16 ?_
  refine ca_X9_100 (pc := 17) X (c_X9_ofS n 0) rfl rfl rfl dX9_comes_17 (fun r17 M17 hp17 => ?_)
  obtain ⟨rfl, rfl⟩ := hp17
  refine r_iload_n (pc := 20) X rfl dX9_comes_20 ?_
  refine r_iast (pc := 21) X mW_1 (140 + 5 * n + 0) rfl (by omega) (by decide) dX9_comes_21 ?_
  refine bkV.eq mS_1 ?_
  refine r_aload_n (pc := 22) X rfl dX9_comes_22 ?_
  refine gt_X9_7 (pc := 23) X mW_0 rfl dX9_comes_23 ?_
  refine r_iload (pc := 26) X rfl dX9_comes_26 ?_
  refine r_iconst (pc := 28) (v := 1) X rfl dX9_comes_28 ?_
  refine ca_X9_100 (pc := 29) X (c_X9_ofS n 1) rfl rfl rfl dX9_comes_29 (fun r29 M29 hp29 => ?_)
  obtain ⟨rfl, rfl⟩ := hp29
  refine r_iload_n (pc := 32) X rfl dX9_comes_32 ?_
  refine r_iast (pc := 33) X mW_1 (140 + 5 * n + 1) rfl (by omega) (by decide) dX9_comes_33 ?_
  refine bkV.eq mS_1 ?_
  refine r_aload_n (pc := 34) X rfl dX9_comes_34 ?_
  refine gt_X9_7 (pc := 35) X mW_0 rfl dX9_comes_35 ?_
  refine r_iload (pc := 38) X rfl dX9_comes_38 ?_
  refine r_iconst (pc := 40) (v := 2) X rfl dX9_comes_40 ?_
  refine ca_X9_100 (pc := 41) X (c_X9_ofS n 2) rfl rfl rfl dX9_comes_41 (fun r41 M41 hp41 => ?_)
  obtain ⟨rfl, rfl⟩ := hp41
  refine r_iload_n (pc := 44) X rfl dX9_comes_44 ?_
  refine r_iast (pc := 45) X mW_1 (140 + 5 * n + 2) rfl (by omega) (by decide) dX9_comes_45 ?_
  refine bkV.eq mS_1 ?_
  refine r_aload_n (pc := 46) X rfl dX9_comes_46 ?_
  refine gt_X9_7 (pc := 47) X mW_0 rfl dX9_comes_47 ?_
  refine r_iload (pc := 50) X rfl dX9_comes_50 ?_
  refine r_iconst (pc := 52) (v := 3) X rfl dX9_comes_52 ?_
  refine ca_X9_100 (pc := 53) X (c_X9_ofS n 3) rfl rfl rfl dX9_comes_53 (fun r53 M53 hp53 => ?_)
  obtain ⟨rfl, rfl⟩ := hp53
  refine r_iconst (pc := 56) (v := 0) X rfl dX9_comes_56 ?_
  refine r_iast (pc := 57) X mW_1 (140 + 5 * n + 3) rfl (by omega) (by decide) dX9_comes_57 ?_
  refine bkV.eq mS_1 ?_
  refine r_aload_n (pc := 58) X rfl dX9_comes_58 ?_
  refine gt_X9_7 (pc := 59) X mW_0 rfl dX9_comes_59 ?_
  refine r_iload (pc := 62) X rfl dX9_comes_62 ?_
  refine r_iconst (pc := 64) (v := 4) X rfl dX9_comes_64 ?_
  refine ca_X9_100 (pc := 65) X (c_X9_ofS n 4) rfl rfl rfl dX9_comes_65 (fun r65 M65 hp65 => ?_)
  obtain ⟨rfl, rfl⟩ := hp65
  refine r_iconst (pc := 68) (v := 0) X rfl dX9_comes_68 ?_
  refine r_iast (pc := 69) X mW_1 (140 + 5 * n + 4) rfl (by omega) (by decide) dX9_comes_69 ?_
  refine bkV.eq mS_1 ?_
  refine r_aload_n (pc := 70) X rfl dX9_comes_70 ?_
  refine gt_X9_7 (pc := 71) X mW_0 rfl dX9_comes_71 ?_
  refine r_sipush (pc := 74) (v := 180) X rfl dX9_comes_74 ?_
  refine r_dup2 (pc := 77) X rfl rfl dX9_comes_77 ?_
  refine r_iald (pc := 78) X mW_1 (180) rfl (by omega) (by decide) dX9_comes_78 ?_
  refine r_iconst (pc := 79) (v := 1) X rfl dX9_comes_79 ?_
  refine r_iadd (pc := 80) X dX9_comes_80 ?_
  refine r_iast (pc := 81) X mW_1 (180) rfl (by omega) (by decide) dX9_comes_81 ?_
  refine bkV.eq mS_1 ?_
  refine r_iload (pc := 82) X rfl dX9_comes_82 ?_
  exact K dX9_comes_84 ⟨rfl, rfl⟩

set_option maxHeartbeats 4000000 in
set_option maxRecDepth 100000 in
theorem c_X9_goes {G : bkG} {Z : Nat → Prop} {M : bkM} {r : Nat} {s a p q t o f : Nat → Int32} {n : Nat} (hw : jwf s n) (k : Nat) (hk : k < 8) : bkCv G Z Z yX9_goes cX9_goes 7 5 0 0 [.ref r, .int (nI k)] (mW G M r s a p q t o f) (fun M' => M' = (mW G M r (jgoes s n k) a p q t o f)) := by
  refine bk_metv [some (.ref r), some (.int (nI k)), none, none, none, none, none] rfl pf_X9_goes rfl rfl (fun E X hn K => ?_)
  obtain ⟨-, ⟨c, hc, ec⟩, ⟨h, hh, eh⟩⟩ := hw.2.2.2 k hk
  have hx := jnx_lt hc hh
  have hr := jnr_lt (jnx c h)
  have eg : jgoes s n k = jgo s n k c h := by unfold jgoes; rw [ec, eh, tn_nI (by omega), tn_nI (by omega)]
  refine r_aload_n (pc := 0) X rfl dX9_goes_0 ?_
  refine gt_X9_7 (pc := 1) X mW_0 rfl dX9_goes_1 ?_
  refine r_iload_n (pc := 4) X rfl dX9_goes_4 ?_
  refine r_iconst (pc := 5) (v := 1) X rfl dX9_goes_5 ?_
  refine ca_X9_100 (pc := 6) X (c_X9_ofS k 1) rfl rfl rfl dX9_goes_6 (fun r6 M6 hp6 => ?_)
  obtain ⟨rfl, rfl⟩ := hp6
  refine r_iald (pc := 9) X mW_1 (140 + 5 * k + 1) rfl (by omega) (by decide) dX9_goes_9 ?_
  refine bk_top ec ?_
  refine r_istore_n (pc := 10) X rfl rfl dX9_goes_10 ?_
  refine r_aload_n (pc := 11) X rfl dX9_goes_11 ?_
  refine gt_X9_7 (pc := 12) X mW_0 rfl dX9_goes_12 ?_
  refine r_iload_n (pc := 15) X rfl dX9_goes_15 ?_
  refine r_iconst (pc := 16) (v := 2) X rfl dX9_goes_16 ?_
  refine ca_X9_100 (pc := 17) X (c_X9_ofS k 2) rfl rfl rfl dX9_goes_17 (fun r17 M17 hp17 => ?_)
  obtain ⟨rfl, rfl⟩ := hp17
  refine r_iald (pc := 20) X mW_1 (140 + 5 * k + 2) rfl (by omega) (by decide) dX9_goes_20 ?_
  refine bk_top eh ?_
  refine r_istore_n (pc := 21) X rfl rfl dX9_goes_21 ?_
  refine r_iload_n (pc := 22) X rfl dX9_goes_22 ?_
  refine r_iload_n (pc := 23) X rfl dX9_goes_23 ?_
  refine r_bipush (pc := 24) (v := 10) X rfl dX9_goes_24 ?_
  refine r_irem (pc := 26) X (by decide) dX9_goes_26 ?_
  refine bk_top (pk_rem (a := c) (d := 10) (by omega) (by omega) (by omega)) ?_
  refine r_iload_n (pc := 27) X rfl dX9_goes_27 ?_
  refine r_bipush (pc := 28) (v := 10) X rfl dX9_goes_28 ?_
  refine r_irem (pc := 30) X (by decide) dX9_goes_30 ?_
  refine bk_top (pk_rem (a := h) (d := 10) (by omega) (by omega) (by omega)) ?_
  refine ca_X9_113 (pc := 31) X (c_X9_towards (nI (c % 10)) (nI (h % 10))) rfl rfl rfl dX9_goes_31 (fun r31 M31 hp31 => ?_)
  obtain ⟨rfl, rfl⟩ := hp31
  refine r_iadd (pc := 34) X dX9_goes_34 ?_
  refine r_bipush (pc := 35) (v := 10) X rfl dX9_goes_35 ?_
  refine r_iload_n (pc := 37) X rfl dX9_goes_37 ?_
  refine r_bipush (pc := 38) (v := 10) X rfl dX9_goes_38 ?_
  refine r_idiv (pc := 40) X (by decide) dX9_goes_40 ?_
  refine bk_top (pk_div (a := c) (d := 10) (by omega) (by omega) (by omega)) ?_
  refine r_iload_n (pc := 41) X rfl dX9_goes_41 ?_
  refine r_bipush (pc := 42) (v := 10) X rfl dX9_goes_42 ?_
  refine r_idiv (pc := 44) X (by decide) dX9_goes_44 ?_
  refine bk_top (pk_div (a := h) (d := 10) (by omega) (by omega) (by omega)) ?_
  refine ca_X9_113 (pc := 45) X (c_X9_towards (nI (c / 10)) (nI (h / 10))) rfl rfl rfl dX9_goes_45 (fun r45 M45 hp45 => ?_)
  obtain ⟨rfl, rfl⟩ := hp45
  refine r_imul (pc := 48) X dX9_goes_48 ?_
  refine r_iadd (pc := 49) X dX9_goes_49 ?_
  refine bk_top (jnx_eq hc hh) ?_
  refine r_istore (pc := 50) X rfl rfl dX9_goes_50 ?_
  refine r_aload_n (pc := 52) X rfl dX9_goes_52 ?_
  refine r_iload (pc := 53) X rfl dX9_goes_53 ?_
  refine ca_X9_103 (pc := 55) X (c_X9_shipIn hw.1 hw.2.1 (nI (jnx c h))) mW_0 rfl rfl rfl dX9_goes_55 (fun r55 M55 hp55 => ?_)
  obtain ⟨rfl, rfl⟩ := hp55
  refine r_istore (pc := 58) X rfl rfl dX9_goes_58 ?_
  refine r_iload (pc := 60) X rfl dX9_goes_60 ?_
  refine r_bipush (pc := 62) (v := (-5)) X rfl dX9_goes_62 ?_
  refine r_icmp_ne (pc := 64) X 89 (by decide) dX9_goes_64 (fun q64 => ?_) (fun q64 => ?_)
  · skip
    refine r_aload_n (pc := 89) X rfl dX9_goes_89 ?_
    refine gt_X9_7 (pc := 90) X mW_0 rfl dX9_goes_90 ?_
    refine r_iload_n (pc := 93) X rfl dX9_goes_93 ?_
    refine r_iconst (pc := 94) (v := 4) X rfl dX9_goes_94 ?_
    refine ca_X9_100 (pc := 95) X (c_X9_ofS k 4) rfl rfl rfl dX9_goes_95 (fun r95 M95 hp95 => ?_)
    obtain ⟨rfl, rfl⟩ := hp95
    refine r_dup2 (pc := 98) X rfl rfl dX9_goes_98 ?_
    refine r_iald (pc := 99) X mW_1 (140 + 5 * k + 4) rfl (by omega) (by decide) dX9_goes_99 ?_
    refine r_iconst (pc := 100) (v := 1) X rfl dX9_goes_100 ?_
    refine r_iadd (pc := 101) X dX9_goes_101 ?_
    refine r_iast (pc := 102) X mW_1 (140 + 5 * k + 4) rfl (by omega) (by decide) dX9_goes_102 ?_
    refine bkV.eq mS_1 ?_
    refine r_goto (pc := 103) X 224 (by decide) dX9_goes_103 ?_
    exact K dX9_goes_224 (by rw [eg]; unfold jgo; first | (rw [if_pos (Or.inl q64)]; done) | (rw [if_pos (Or.inr ⟨q77, q86⟩)]; done) | exact absurd q116 q77 | exact absurd q77 q116 | (rw [if_neg (by rintro (z | z); exact z q64; exact q77 z.1), if_neg q116]; first | (rw [if_pos q215]; done) | (rw [if_neg q215]; done)) | (rw [if_neg (by rintro (z | z); exact z q64; exact z.2 q86), if_neg q116]; first | (rw [if_pos q215]; done) | (rw [if_neg q215]; done)) | (rw [if_neg (by rintro (z | z); exact z q64; exact z.2 q86), if_pos q116]; first | done | rfl))
  · skip
    refine r_aload_n (pc := 67) X rfl dX9_goes_67 ?_
    refine gt_X9_7 (pc := 68) X mW_0 rfl dX9_goes_68 ?_
    refine r_iconst (pc := 71) (v := 0) X rfl dX9_goes_71 ?_
    refine r_iload (pc := 72) X rfl dX9_goes_72 ?_
    refine r_iadd (pc := 74) X dX9_goes_74 ?_
    refine r_iald (pc := 75) X mW_1 (jnx c h) (Int32.zero_add _) (by omega) (by decide) dX9_goes_75 ?_
    refine r_iconst (pc := 76) (v := 1) X rfl dX9_goes_76 ?_
    refine r_icmp_ne (pc := 77) X 106 (by decide) dX9_goes_77 (fun q77 => ?_) (fun q77 => ?_)
    · skip
      refine r_aload_n (pc := 106) X rfl dX9_goes_106 ?_
      refine gt_X9_7 (pc := 107) X mW_0 rfl dX9_goes_107 ?_
      refine r_iconst (pc := 110) (v := 0) X rfl dX9_goes_110 ?_
      refine r_iload (pc := 111) X rfl dX9_goes_111 ?_
      refine r_iadd (pc := 113) X dX9_goes_113 ?_
      refine r_iald (pc := 114) X mW_1 (jnx c h) (Int32.zero_add _) (by omega) (by decide) dX9_goes_114 ?_
      refine r_iconst (pc := 115) (v := 1) X rfl dX9_goes_115 ?_
      refine r_icmp_ne (pc := 116) X 191 (by decide) dX9_goes_116 (fun q116 => ?_) (fun q116 => ?_)
      · skip
        refine r_aload_n (pc := 191) X rfl dX9_goes_191 ?_
        refine gt_X9_7 (pc := 192) X mW_0 rfl dX9_goes_192 ?_
        refine r_iload_n (pc := 195) X rfl dX9_goes_195 ?_
        refine r_iconst (pc := 196) (v := 1) X rfl dX9_goes_196 ?_
        refine ca_X9_100 (pc := 197) X (c_X9_ofS k 1) rfl rfl rfl dX9_goes_197 (fun r197 M197 hp197 => ?_)
        obtain ⟨rfl, rfl⟩ := hp197
        refine r_iload (pc := 200) X rfl dX9_goes_200 ?_
        refine r_iast (pc := 202) X mW_1 (140 + 5 * k + 1) rfl (by omega) (by decide) dX9_goes_202 ?_
        refine bkV.eq mS_1 ?_
        refine r_aload_n (pc := 203) X rfl dX9_goes_203 ?_
        refine gt_X9_7 (pc := 204) X mW_0 rfl dX9_goes_204 ?_
        refine r_iload_n (pc := 207) X rfl dX9_goes_207 ?_
        refine r_iconst (pc := 208) (v := 3) X rfl dX9_goes_208 ?_
        refine ca_X9_100 (pc := 209) X (c_X9_ofS k 3) rfl rfl rfl dX9_goes_209 (fun r209 M209 hp209 => ?_)
        obtain ⟨rfl, rfl⟩ := hp209
        refine r_iload (pc := 212) X rfl dX9_goes_212 ?_
        refine r_iload_n (pc := 214) X rfl dX9_goes_214 ?_
        refine r_icmp_ne (pc := 215) X 222 (by decide) dX9_goes_215 (fun q215 => ?_) (fun q215 => ?_)
        · skip
          refine r_iconst (pc := 222) (v := 0) X rfl dX9_goes_222 ?_
          refine r_iast (pc := 223) X mW_1 (140 + 5 * k + 3) rfl (by omega) (by decide) dX9_goes_223 ?_
          refine bkV.eq mS_1 ?_
          exact K dX9_goes_224 (by rw [eg]; unfold jgo; first | (rw [if_pos (Or.inl q64)]; done) | (rw [if_pos (Or.inr ⟨q77, q86⟩)]; done) | exact absurd q116 q77 | exact absurd q77 q116 | (rw [if_neg (by rintro (z | z); exact z q64; exact q77 z.1), if_neg q116]; first | (rw [if_pos q215]; done) | (rw [if_neg q215]; done)) | (rw [if_neg (by rintro (z | z); exact z q64; exact z.2 q86), if_neg q116]; first | (rw [if_pos q215]; done) | (rw [if_neg q215]; done)) | (rw [if_neg (by rintro (z | z); exact z q64; exact z.2 q86), if_pos q116]; first | done | rfl))
        · skip
          refine r_iconst (pc := 218) (v := 1) X rfl dX9_goes_218 ?_
          refine r_goto (pc := 219) X 223 (by decide) dX9_goes_219 ?_
          refine r_iast (pc := 223) X mW_1 (140 + 5 * k + 3) rfl (by omega) (by decide) dX9_goes_223 ?_
          refine bkV.eq mS_1 ?_
          exact K dX9_goes_224 (by rw [eg]; unfold jgo; first | (rw [if_pos (Or.inl q64)]; done) | (rw [if_pos (Or.inr ⟨q77, q86⟩)]; done) | exact absurd q116 q77 | exact absurd q77 q116 | (rw [if_neg (by rintro (z | z); exact z q64; exact q77 z.1), if_neg q116]; first | (rw [if_pos q215]; done) | (rw [if_neg q215]; done)) | (rw [if_neg (by rintro (z | z); exact z q64; exact z.2 q86), if_neg q116]; first | (rw [if_pos q215]; done) | (rw [if_neg q215]; done)) | (rw [if_neg (by rintro (z | z); exact z q64; exact z.2 q86), if_pos q116]; first | done | rfl))
      · skip
        refine r_aload_n (pc := 119) X rfl dX9_goes_119 ?_
        refine gt_X9_7 (pc := 120) X mW_0 rfl dX9_goes_120 ?_
        refine r_iload_n (pc := 123) X rfl dX9_goes_123 ?_
        refine r_iconst (pc := 124) (v := 1) X rfl dX9_goes_124 ?_
        refine ca_X9_100 (pc := 125) X (c_X9_ofS k 1) rfl rfl rfl dX9_goes_125 (fun r125 M125 hp125 => ?_)
        obtain ⟨rfl, rfl⟩ := hp125
        refine r_iload (pc := 128) X rfl dX9_goes_128 ?_
        refine r_iast (pc := 130) X mW_1 (140 + 5 * k + 1) rfl (by omega) (by decide) dX9_goes_130 ?_
        refine bkV.eq mS_1 ?_
        refine r_aload_n (pc := 131) X rfl dX9_goes_131 ?_
        refine gt_X9_7 (pc := 132) X mW_0 rfl dX9_goes_132 ?_
        refine r_iload_n (pc := 135) X rfl dX9_goes_135 ?_
        refine r_iconst (pc := 136) (v := 3) X rfl dX9_goes_136 ?_
        refine ca_X9_100 (pc := 137) X (c_X9_ofS k 3) rfl rfl rfl dX9_goes_137 (fun r137 M137 hp137 => ?_)
        obtain ⟨rfl, rfl⟩ := hp137
        refine r_iconst (pc := 140) (v := 2) X rfl dX9_goes_140 ?_
        refine r_iast (pc := 141) X mW_1 (140 + 5 * k + 3) rfl (by omega) (by decide) dX9_goes_141 ?_
        refine bkV.eq mS_1 ?_
        refine r_iload (pc := 142) X rfl dX9_goes_142 ?_
        refine ca_X9_119 (pc := 144) X (c_X9_nearest (jnx c h) hx) rfl rfl rfl dX9_goes_144 (fun r144 M144 hp144 => ?_)
        obtain ⟨rfl, rfl⟩ := hp144
        refine r_istore (pc := 147) X rfl rfl dX9_goes_147 ?_
        refine r_aload_n (pc := 149) X rfl dX9_goes_149 ?_
        refine gt_X9_7 (pc := 150) X mW_0 rfl dX9_goes_150 ?_
        refine r_iload (pc := 153) X rfl dX9_goes_153 ?_
        refine r_iconst (pc := 155) (v := 1) X rfl dX9_goes_155 ?_
        refine ca_X9_33 (pc := 156) X (c_X9_ofK (jnr (jnx c h)) 1) rfl rfl rfl dX9_goes_156 (fun r156 M156 hp156 => ?_)
        obtain ⟨rfl, rfl⟩ := hp156
        refine r_dup2 (pc := 159) X rfl rfl dX9_goes_159 ?_
        refine r_iald (pc := 160) X mW_1 (120 + 5 * jnr (jnx c h) + 1) rfl (by omega) (by decide) dX9_goes_160 ?_
        refine r_aload_n (pc := 161) X rfl dX9_goes_161 ?_
        refine gt_X9_7 (pc := 162) X mW_0 rfl dX9_goes_162 ?_
        refine r_iload_n (pc := 165) X rfl dX9_goes_165 ?_
        refine r_iconst (pc := 166) (v := 0) X rfl dX9_goes_166 ?_
        refine ca_X9_100 (pc := 167) X (c_X9_ofS k 0) rfl rfl rfl dX9_goes_167 (fun r167 M167 hp167 => ?_)
        obtain ⟨rfl, rfl⟩ := hp167
        refine r_iald (pc := 170) X mW_1 (140 + 5 * k + 0) rfl (by omega) (by decide) dX9_goes_170 ?_
        refine r_iadd (pc := 171) X dX9_goes_171 ?_
        refine r_iast (pc := 172) X mW_1 (120 + 5 * jnr (jnx c h) + 1) rfl (by omega) (by decide) dX9_goes_172 ?_
        refine bkV.eq mS_1 ?_
        refine r_aload_n (pc := 173) X rfl dX9_goes_173 ?_
        refine gt_X9_7 (pc := 174) X mW_0 rfl dX9_goes_174 ?_
        refine r_iload (pc := 177) X rfl dX9_goes_177 ?_
        refine r_iconst (pc := 179) (v := 3) X rfl dX9_goes_179 ?_
        refine ca_X9_33 (pc := 180) X (c_X9_ofK (jnr (jnx c h)) 3) rfl rfl rfl dX9_goes_180 (fun r180 M180 hp180 => ?_)
        obtain ⟨rfl, rfl⟩ := hp180
        refine r_dup2 (pc := 183) X rfl rfl dX9_goes_183 ?_
        refine r_iald (pc := 184) X mW_1 (120 + 5 * jnr (jnx c h) + 3) rfl (by omega) (by decide) dX9_goes_184 ?_
        refine r_iconst (pc := 185) (v := 1) X rfl dX9_goes_185 ?_
        refine r_iadd (pc := 186) X dX9_goes_186 ?_
        refine r_iast (pc := 187) X mW_1 (120 + 5 * jnr (jnx c h) + 3) rfl (by omega) (by decide) dX9_goes_187 ?_
        refine bkV.eq mS_1 ?_
        refine r_goto (pc := 188) X 224 (by decide) dX9_goes_188 ?_
        exact K dX9_goes_224 (by rw [eg]; unfold jgo; first | (rw [if_pos (Or.inl q64)]; done) | (rw [if_pos (Or.inr ⟨q77, q86⟩)]; done) | exact absurd q116 q77 | exact absurd q77 q116 | (rw [if_neg (by rintro (z | z); exact z q64; exact q77 z.1), if_neg q116]; first | (rw [if_pos q215]; done) | (rw [if_neg q215]; done)) | (rw [if_neg (by rintro (z | z); exact z q64; exact z.2 q86), if_neg q116]; first | (rw [if_pos q215]; done) | (rw [if_neg q215]; done)) | (rw [if_neg (by rintro (z | z); exact z q64; exact z.2 q86), if_pos q116]; first | done | rfl))
    · skip
      refine r_aload_n (pc := 80) X rfl dX9_goes_80 ?_
      refine r_iload (pc := 81) X rfl dX9_goes_81 ?_
      refine ca_X9_116 (pc := 83) X (c_X9_lightsOn (jnx c h) hx) mW_0 rfl rfl rfl dX9_goes_83 (fun r83 M83 hp83 => ?_)
      obtain ⟨rfl, rfl⟩ := hp83
      refine r_if_eq (pc := 86) X 106 (by decide) dX9_goes_86 (fun q86 => ?_) (fun q86 => ?_)
      · skip
        refine r_aload_n (pc := 106) X rfl dX9_goes_106 ?_
        refine gt_X9_7 (pc := 107) X mW_0 rfl dX9_goes_107 ?_
        refine r_iconst (pc := 110) (v := 0) X rfl dX9_goes_110 ?_
        refine r_iload (pc := 111) X rfl dX9_goes_111 ?_
        refine r_iadd (pc := 113) X dX9_goes_113 ?_
        refine r_iald (pc := 114) X mW_1 (jnx c h) (Int32.zero_add _) (by omega) (by decide) dX9_goes_114 ?_
        refine r_iconst (pc := 115) (v := 1) X rfl dX9_goes_115 ?_
        refine r_icmp_ne (pc := 116) X 191 (by decide) dX9_goes_116 (fun q116 => ?_) (fun q116 => ?_)
        · skip
          refine r_aload_n (pc := 191) X rfl dX9_goes_191 ?_
          refine gt_X9_7 (pc := 192) X mW_0 rfl dX9_goes_192 ?_
          refine r_iload_n (pc := 195) X rfl dX9_goes_195 ?_
          refine r_iconst (pc := 196) (v := 1) X rfl dX9_goes_196 ?_
          refine ca_X9_100 (pc := 197) X (c_X9_ofS k 1) rfl rfl rfl dX9_goes_197 (fun r197 M197 hp197 => ?_)
          obtain ⟨rfl, rfl⟩ := hp197
          refine r_iload (pc := 200) X rfl dX9_goes_200 ?_
          refine r_iast (pc := 202) X mW_1 (140 + 5 * k + 1) rfl (by omega) (by decide) dX9_goes_202 ?_
          refine bkV.eq mS_1 ?_
          refine r_aload_n (pc := 203) X rfl dX9_goes_203 ?_
          refine gt_X9_7 (pc := 204) X mW_0 rfl dX9_goes_204 ?_
          refine r_iload_n (pc := 207) X rfl dX9_goes_207 ?_
          refine r_iconst (pc := 208) (v := 3) X rfl dX9_goes_208 ?_
          refine ca_X9_100 (pc := 209) X (c_X9_ofS k 3) rfl rfl rfl dX9_goes_209 (fun r209 M209 hp209 => ?_)
          obtain ⟨rfl, rfl⟩ := hp209
          refine r_iload (pc := 212) X rfl dX9_goes_212 ?_
          refine r_iload_n (pc := 214) X rfl dX9_goes_214 ?_
          refine r_icmp_ne (pc := 215) X 222 (by decide) dX9_goes_215 (fun q215 => ?_) (fun q215 => ?_)
          · skip
            refine r_iconst (pc := 222) (v := 0) X rfl dX9_goes_222 ?_
            refine r_iast (pc := 223) X mW_1 (140 + 5 * k + 3) rfl (by omega) (by decide) dX9_goes_223 ?_
            refine bkV.eq mS_1 ?_
            exact K dX9_goes_224 (by rw [eg]; unfold jgo; first | (rw [if_pos (Or.inl q64)]; done) | (rw [if_pos (Or.inr ⟨q77, q86⟩)]; done) | exact absurd q116 q77 | exact absurd q77 q116 | (rw [if_neg (by rintro (z | z); exact z q64; exact q77 z.1), if_neg q116]; first | (rw [if_pos q215]; done) | (rw [if_neg q215]; done)) | (rw [if_neg (by rintro (z | z); exact z q64; exact z.2 q86), if_neg q116]; first | (rw [if_pos q215]; done) | (rw [if_neg q215]; done)) | (rw [if_neg (by rintro (z | z); exact z q64; exact z.2 q86), if_pos q116]; first | done | rfl))
          · skip
            refine r_iconst (pc := 218) (v := 1) X rfl dX9_goes_218 ?_
            refine r_goto (pc := 219) X 223 (by decide) dX9_goes_219 ?_
            refine r_iast (pc := 223) X mW_1 (140 + 5 * k + 3) rfl (by omega) (by decide) dX9_goes_223 ?_
            refine bkV.eq mS_1 ?_
            exact K dX9_goes_224 (by rw [eg]; unfold jgo; first | (rw [if_pos (Or.inl q64)]; done) | (rw [if_pos (Or.inr ⟨q77, q86⟩)]; done) | exact absurd q116 q77 | exact absurd q77 q116 | (rw [if_neg (by rintro (z | z); exact z q64; exact q77 z.1), if_neg q116]; first | (rw [if_pos q215]; done) | (rw [if_neg q215]; done)) | (rw [if_neg (by rintro (z | z); exact z q64; exact z.2 q86), if_neg q116]; first | (rw [if_pos q215]; done) | (rw [if_neg q215]; done)) | (rw [if_neg (by rintro (z | z); exact z q64; exact z.2 q86), if_pos q116]; first | done | rfl))
        · skip
          refine r_aload_n (pc := 119) X rfl dX9_goes_119 ?_
          refine gt_X9_7 (pc := 120) X mW_0 rfl dX9_goes_120 ?_
          refine r_iload_n (pc := 123) X rfl dX9_goes_123 ?_
          refine r_iconst (pc := 124) (v := 1) X rfl dX9_goes_124 ?_
          refine ca_X9_100 (pc := 125) X (c_X9_ofS k 1) rfl rfl rfl dX9_goes_125 (fun r125 M125 hp125 => ?_)
          obtain ⟨rfl, rfl⟩ := hp125
          refine r_iload (pc := 128) X rfl dX9_goes_128 ?_
          refine r_iast (pc := 130) X mW_1 (140 + 5 * k + 1) rfl (by omega) (by decide) dX9_goes_130 ?_
          refine bkV.eq mS_1 ?_
          refine r_aload_n (pc := 131) X rfl dX9_goes_131 ?_
          refine gt_X9_7 (pc := 132) X mW_0 rfl dX9_goes_132 ?_
          refine r_iload_n (pc := 135) X rfl dX9_goes_135 ?_
          refine r_iconst (pc := 136) (v := 3) X rfl dX9_goes_136 ?_
          refine ca_X9_100 (pc := 137) X (c_X9_ofS k 3) rfl rfl rfl dX9_goes_137 (fun r137 M137 hp137 => ?_)
          obtain ⟨rfl, rfl⟩ := hp137
          refine r_iconst (pc := 140) (v := 2) X rfl dX9_goes_140 ?_
          refine r_iast (pc := 141) X mW_1 (140 + 5 * k + 3) rfl (by omega) (by decide) dX9_goes_141 ?_
          refine bkV.eq mS_1 ?_
          refine r_iload (pc := 142) X rfl dX9_goes_142 ?_
          refine ca_X9_119 (pc := 144) X (c_X9_nearest (jnx c h) hx) rfl rfl rfl dX9_goes_144 (fun r144 M144 hp144 => ?_)
          obtain ⟨rfl, rfl⟩ := hp144
          refine r_istore (pc := 147) X rfl rfl dX9_goes_147 ?_
          refine r_aload_n (pc := 149) X rfl dX9_goes_149 ?_
          refine gt_X9_7 (pc := 150) X mW_0 rfl dX9_goes_150 ?_
          refine r_iload (pc := 153) X rfl dX9_goes_153 ?_
          refine r_iconst (pc := 155) (v := 1) X rfl dX9_goes_155 ?_
          refine ca_X9_33 (pc := 156) X (c_X9_ofK (jnr (jnx c h)) 1) rfl rfl rfl dX9_goes_156 (fun r156 M156 hp156 => ?_)
          obtain ⟨rfl, rfl⟩ := hp156
          refine r_dup2 (pc := 159) X rfl rfl dX9_goes_159 ?_
          refine r_iald (pc := 160) X mW_1 (120 + 5 * jnr (jnx c h) + 1) rfl (by omega) (by decide) dX9_goes_160 ?_
          refine r_aload_n (pc := 161) X rfl dX9_goes_161 ?_
          refine gt_X9_7 (pc := 162) X mW_0 rfl dX9_goes_162 ?_
          refine r_iload_n (pc := 165) X rfl dX9_goes_165 ?_
          refine r_iconst (pc := 166) (v := 0) X rfl dX9_goes_166 ?_
          refine ca_X9_100 (pc := 167) X (c_X9_ofS k 0) rfl rfl rfl dX9_goes_167 (fun r167 M167 hp167 => ?_)
          obtain ⟨rfl, rfl⟩ := hp167
          refine r_iald (pc := 170) X mW_1 (140 + 5 * k + 0) rfl (by omega) (by decide) dX9_goes_170 ?_
          refine r_iadd (pc := 171) X dX9_goes_171 ?_
          refine r_iast (pc := 172) X mW_1 (120 + 5 * jnr (jnx c h) + 1) rfl (by omega) (by decide) dX9_goes_172 ?_
          refine bkV.eq mS_1 ?_
          refine r_aload_n (pc := 173) X rfl dX9_goes_173 ?_
          refine gt_X9_7 (pc := 174) X mW_0 rfl dX9_goes_174 ?_
          refine r_iload (pc := 177) X rfl dX9_goes_177 ?_
          refine r_iconst (pc := 179) (v := 3) X rfl dX9_goes_179 ?_
          refine ca_X9_33 (pc := 180) X (c_X9_ofK (jnr (jnx c h)) 3) rfl rfl rfl dX9_goes_180 (fun r180 M180 hp180 => ?_)
          obtain ⟨rfl, rfl⟩ := hp180
          refine r_dup2 (pc := 183) X rfl rfl dX9_goes_183 ?_
          refine r_iald (pc := 184) X mW_1 (120 + 5 * jnr (jnx c h) + 3) rfl (by omega) (by decide) dX9_goes_184 ?_
          refine r_iconst (pc := 185) (v := 1) X rfl dX9_goes_185 ?_
          refine r_iadd (pc := 186) X dX9_goes_186 ?_
          refine r_iast (pc := 187) X mW_1 (120 + 5 * jnr (jnx c h) + 3) rfl (by omega) (by decide) dX9_goes_187 ?_
          refine bkV.eq mS_1 ?_
          refine r_goto (pc := 188) X 224 (by decide) dX9_goes_188 ?_
          exact K dX9_goes_224 (by rw [eg]; unfold jgo; first | (rw [if_pos (Or.inl q64)]; done) | (rw [if_pos (Or.inr ⟨q77, q86⟩)]; done) | exact absurd q116 q77 | exact absurd q77 q116 | (rw [if_neg (by rintro (z | z); exact z q64; exact q77 z.1), if_neg q116]; first | (rw [if_pos q215]; done) | (rw [if_neg q215]; done)) | (rw [if_neg (by rintro (z | z); exact z q64; exact z.2 q86), if_neg q116]; first | (rw [if_pos q215]; done) | (rw [if_neg q215]; done)) | (rw [if_neg (by rintro (z | z); exact z q64; exact z.2 q86), if_pos q116]; first | done | rfl))
      · skip
        refine r_aload_n (pc := 89) X rfl dX9_goes_89 ?_
        refine gt_X9_7 (pc := 90) X mW_0 rfl dX9_goes_90 ?_
        refine r_iload_n (pc := 93) X rfl dX9_goes_93 ?_
        refine r_iconst (pc := 94) (v := 4) X rfl dX9_goes_94 ?_
        refine ca_X9_100 (pc := 95) X (c_X9_ofS k 4) rfl rfl rfl dX9_goes_95 (fun r95 M95 hp95 => ?_)
        obtain ⟨rfl, rfl⟩ := hp95
        refine r_dup2 (pc := 98) X rfl rfl dX9_goes_98 ?_
        refine r_iald (pc := 99) X mW_1 (140 + 5 * k + 4) rfl (by omega) (by decide) dX9_goes_99 ?_
        refine r_iconst (pc := 100) (v := 1) X rfl dX9_goes_100 ?_
        refine r_iadd (pc := 101) X dX9_goes_101 ?_
        refine r_iast (pc := 102) X mW_1 (140 + 5 * k + 4) rfl (by omega) (by decide) dX9_goes_102 ?_
        refine bkV.eq mS_1 ?_
        refine r_goto (pc := 103) X 224 (by decide) dX9_goes_103 ?_
        exact K dX9_goes_224 (by rw [eg]; unfold jgo; first | (rw [if_pos (Or.inl q64)]; done) | (rw [if_pos (Or.inr ⟨q77, q86⟩)]; done) | exact absurd q116 q77 | exact absurd q77 q116 | (rw [if_neg (by rintro (z | z); exact z q64; exact q77 z.1), if_neg q116]; first | (rw [if_pos q215]; done) | (rw [if_neg q215]; done)) | (rw [if_neg (by rintro (z | z); exact z q64; exact z.2 q86), if_neg q116]; first | (rw [if_pos q215]; done) | (rw [if_neg q215]; done)) | (rw [if_neg (by rintro (z | z); exact z q64; exact z.2 q86), if_pos q116]; first | done | rfl))

