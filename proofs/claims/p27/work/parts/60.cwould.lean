set_option maxHeartbeats 4000000 in
set_option maxRecDepth 100000 in
theorem c_X8_isWreckedInTrial {G : bkG} {Z : Nat → Prop} {M : bkM} {x : Nat} {S O : Nat → Nat → Int32} {od : Nat → Nat} {sz kp : Int32} {t : Nat → Int32} {ln pc pl : Int32} {pf : Nat → Nat → Int32} {s1 g1 : Nat → Int32} (k : Nat) (hk8 : k < 8) : bkCi G Z Z yX8_isWreckedInTrial cX8_isWreckedInTrial 2 (some .boolean) 0 0 0 [.ref x, .int (nI k)] (xW G x (pfu S 1 s1) (pfu O 1 g1) od sz kp t ln pc pl pf M) (fun v M' => v = bi (decide (O 0 (8 + k) = 0) && decide (g1 (8 + k) = 2)) ∧ M' = (xW G x (pfu S 1 s1) (pfu O 1 g1) od sz kp t ln pc pl pf M)) := by
  refine bk_metz [some (.ref x), some (.int (nI k))] rfl pf_X8_isWreckedInTrial rfl rfl (fun E X K => ?_)
  refine r_aload_n (pc := 0) X rfl dX8_isWreckedInTrial_0 ?_
  refine gt_X8_21 (pc := 1) X xW_o rfl dX8_isWreckedInTrial_1 ?_
  refine gt_X8_185 (pc := 4) X xT_0o rfl dX8_isWreckedInTrial_4 ?_
  refine r_iload_n (pc := 7) X rfl dX8_isWreckedInTrial_7 ?_
  refine r_aald (pc := 8) X xW_0s rfl rfl (k) rfl (by omega) (by decide) rfl dX8_isWreckedInTrial_8 ?_
  refine gt_X8_232 (pc := 9) X (xT_0sh hk8) rfl dX8_isWreckedInTrial_9 ?_
  refine r_if_ne (pc := 12) X 35 (by decide) dX8_isWreckedInTrial_12 (fun q12 => ?_) (fun q12 => ?_)
  · skip
    refine r_iconst (pc := 35) (v := 0) X rfl dX8_isWreckedInTrial_35 ?_
    exact K dX8_isWreckedInTrial_36 (by first | exact Or.inl rfl | exact Or.inr rfl) ⟨by first | (rw [decide_eq_false q12]; rfl) | (rw [decide_eq_true q12, decide_eq_false q28]; rfl) | (rw [decide_eq_true q12, decide_eq_true q28]; rfl), rfl⟩
  · skip
    refine r_aload_n (pc := 15) X rfl dX8_isWreckedInTrial_15 ?_
    refine gt_X8_25 (pc := 16) X xW_o rfl dX8_isWreckedInTrial_16 ?_
    refine gt_X8_185 (pc := 19) X xW_1o rfl dX8_isWreckedInTrial_19 ?_
    refine r_iload_n (pc := 22) X rfl dX8_isWreckedInTrial_22 ?_
    refine r_aald (pc := 23) X xW_1s rfl rfl (k) rfl (by omega) (by decide) rfl dX8_isWreckedInTrial_23 ?_
    refine gt_X8_232 (pc := 24) X (xT_1sh hk8) rfl dX8_isWreckedInTrial_24 ?_
    refine r_iconst (pc := 27) (v := 2) X rfl dX8_isWreckedInTrial_27 ?_
    refine r_icmp_ne (pc := 28) X 35 (by decide) dX8_isWreckedInTrial_28 (fun q28 => ?_) (fun q28 => ?_)
    · skip
      refine r_iconst (pc := 35) (v := 0) X rfl dX8_isWreckedInTrial_35 ?_
      exact K dX8_isWreckedInTrial_36 (by first | exact Or.inl rfl | exact Or.inr rfl) ⟨by first | (rw [decide_eq_false q12]; rfl) | (rw [decide_eq_true q12, decide_eq_false q28]; rfl) | (rw [decide_eq_true q12, decide_eq_true q28]; rfl), rfl⟩
    · skip
      refine r_iconst (pc := 31) (v := 1) X rfl dX8_isWreckedInTrial_31 ?_
      refine r_goto (pc := 32) X 36 (by decide) dX8_isWreckedInTrial_32 ?_
      exact K dX8_isWreckedInTrial_36 (by first | exact Or.inl rfl | exact Or.inr rfl) ⟨by first | (rw [decide_eq_false q12]; rfl) | (rw [decide_eq_true q12, decide_eq_false q28]; rfl) | (rw [decide_eq_true q12, decide_eq_true q28]; rfl), rfl⟩

set_option maxHeartbeats 4000000 in
set_option maxRecDepth 100000 in
theorem c_X8_worthWreckedInTrial {G : bkG} {Z : Nat → Prop} {M : bkM} {x : Nat} {S O : Nat → Nat → Int32} {od : Nat → Nat} {sz kp : Int32} {t : Nat → Int32} {ln pc pl : Int32} {pf : Nat → Nat → Int32} {s1 g1 : Nat → Int32} {n : Nat} (hk : cOK (S 0) n (O 0)) (hk1 : cOK s1 n g1) : bkCi G Z Z yX8_worthWreckedInTrial cX8_worthWreckedInTrial 3 (some .int) 5 0 0 [.ref x] (xW G x (pfu S 1 s1) (pfu O 1 g1) od sz kp t ln pc pl pf M) (fun v M' => v = cw10 (S 0) s1 n ∧ ∃ g2, M' = (xW G x (pfu S 1 (jhrs s1 n 10)) (pfu O 1 g2) od sz kp t ln pc pl pf M) ∧ cgo (jhrs s1 n 10) n g2) := by
  refine bk_meti [some (.ref x), none, none] rfl pf_X8_worthWreckedInTrial rfl rfl (fun E X K => ?_)
  have hn8 := hk.1.1
  refine r_aload_n (pc := 0) X rfl dX8_worthWreckedInTrial_0 ?_
  refine gt_X8_25 (pc := 1) X xW_o rfl dX8_worthWreckedInTrial_1 ?_
  refine r_bipush (pc := 4) (v := 10) X rfl dX8_worthWreckedInTrial_4 ?_
  refine bkV.eq xQ_b1 ?_
  refine ca_X8_141 (pc := 6) X (c_X6_passHours xW_bB (by omega) hk1.2.1 hk1.1 hk1.2.2 10 (by omega)) sW_o rfl rfl rfl dX8_worthWreckedInTrial_6 (fun r6 M6 hp6 => ?_)
  obtain ⟨rfl, g2, rfl, hg2⟩ := hp6
  refine bkV.eq xT_s1 ?_
  refine r_pop (pc := 9) X rfl dX8_worthWreckedInTrial_9 ?_
  refine r_iconst (pc := 10) (v := 0) X rfl dX8_worthWreckedInTrial_10 ?_
  refine r_istore_n (pc := 11) X rfl rfl dX8_worthWreckedInTrial_11 ?_
  refine r_iconst (pc := 12) (v := 0) X rfl dX8_worthWreckedInTrial_12 ?_
  refine r_istore_n (pc := 13) X rfl rfl dX8_worthWreckedInTrial_13 ?_
  have lp14 : ∀ (d j : Nat) (z : Int32) (y : Int32), j ≤ 8 → 8 < j + d → (z = jworth (S 0) (fun i => decide (O 0 (8 + i) = 0) && decide (g2 (8 + i) = 2)) j) → (y = nI j) → bkV E G Z 0 0 (xW G x (pfu S 1 (jhrs s1 n 10)) (pfu O 1 g2) od sz kp t ln pc pl pf M) 14 [some (.ref x), some (.int z), some (.int y)] [] := by
    intro d
    induction d with
    | zero => intro j z y; intros; exfalso; omega
    | succ d ih =>
      intro j z y hj hd e1 e2
      subst e1
      subst e2
      refine r_iload_n (pc := 14) X rfl dX8_worthWreckedInTrial_14 ?_
      refine r_bipush (pc := 15) (v := 8) X rfl dX8_worthWreckedInTrial_15 ?_
      refine r_icmpN_ge (pc := 17) X 49 (j) (8) rfl rfl (by omega) (by omega) (by decide) dX8_worthWreckedInTrial_17 (fun q17 => ?_) (fun q17 => ?_)
      · skip
        obtain rfl : j = 8 := by omega
        refine r_iload_n (pc := 49) X rfl dX8_worthWreckedInTrial_49 ?_
        exact K dX8_worthWreckedInTrial_50 ⟨cw10_g hn8 hk.2.2 hg2, g2, rfl, hg2⟩
      · skip
        refine r_aload_n (pc := 20) X rfl dX8_worthWreckedInTrial_20 ?_
        refine r_iload_n (pc := 21) X rfl dX8_worthWreckedInTrial_21 ?_
        refine ca_X8_223 (pc := 22) X (c_X8_isWreckedInTrial j (by omega)) xW_o rfl rfl rfl dX8_worthWreckedInTrial_22 (fun r22 M22 hp22 => ?_)
        obtain ⟨rfl, rfl⟩ := hp22
        refine r_if_eq (pc := 25) X 43 (by decide) dX8_worthWreckedInTrial_25 (fun q25 => ?_) (fun q25 => ?_)
        · skip
          have hj := bi_0.mp q25
          refine r_iinc (pc := 43) X rfl rfl rfl dX8_worthWreckedInTrial_43 ?_
          refine r_goto (pc := 46) X 14 (by decide) dX8_worthWreckedInTrial_46 ?_
          refine ih (j + 1) _ _ (by omega) (by omega) ?_ (nI_1 j)
          first | exact jworth_t (p := (fun i => decide (O 0 (8 + i) = 0) && decide (g2 (8 + i) = 2))) hj | exact jworth_f (p := (fun i => decide (O 0 (8 + i) = 0) && decide (g2 (8 + i) = 2))) hj
        · skip
          have hj := bi_n0.mp q25
          refine r_iload_n (pc := 28) X rfl dX8_worthWreckedInTrial_28 ?_
          refine r_aload_n (pc := 29) X rfl dX8_worthWreckedInTrial_29 ?_
          refine gt_X8_21 (pc := 30) X xW_o rfl dX8_worthWreckedInTrial_30 ?_
          refine gt_X8_185 (pc := 33) X xT_0o rfl dX8_worthWreckedInTrial_33 ?_
          refine r_iload_n (pc := 36) X rfl dX8_worthWreckedInTrial_36 ?_
          refine r_aald (pc := 37) X xW_0s rfl rfl (j) rfl (by omega) (by decide) rfl dX8_worthWreckedInTrial_37 ?_
          refine gt_X8_229 (pc := 38) X (xT_0sh (i := j) (by omega)) rfl dX8_worthWreckedInTrial_38 ?_
          refine r_iadd (pc := 41) X dX8_worthWreckedInTrial_41 ?_
          refine r_istore_n (pc := 42) X rfl rfl dX8_worthWreckedInTrial_42 ?_
          refine r_iinc (pc := 43) X rfl rfl rfl dX8_worthWreckedInTrial_43 ?_
          refine r_goto (pc := 46) X 14 (by decide) dX8_worthWreckedInTrial_46 ?_
          refine ih (j + 1) _ _ (by omega) (by omega) ?_ (nI_1 j)
          first | exact jworth_t (p := (fun i => decide (O 0 (8 + i) = 0) && decide (g2 (8 + i) = 2))) hj | exact jworth_f (p := (fun i => decide (O 0 (8 + i) = 0) && decide (g2 (8 + i) = 2))) hj
  exact lp14 (8 + 1) 0 _ _ (by omega) (by omega) rfl rfl

set_option maxHeartbeats 4000000 in
set_option maxRecDepth 100000 in
theorem c_X8_ifPassed {G : bkG} {Z : Nat → Prop} {M : bkM} {x : Nat} {S O : Nat → Nat → Int32} {od : Nat → Nat} {sz kp : Int32} {t : Nat → Int32} {ln pc pl : Int32} {pf : Nat → Nat → Int32} {n : Nat} (hk : cOK (S 0) n (O 0)) (h : Int32) : bkCi G Z Z yX8_ifPassed cX8_ifPassed 4 (some .int) 5 0 0 [.ref x, .int h] (xW G x S O od sz kp t ln pc pl pf M) (fun v M' => v = jifp (S 0) n h ∧ ∃ s1 g1, M' = (xW G x (pfu S 1 s1) (pfu O 1 g1) od sz kp t ln pc pl pf M)) := by
  refine bk_meti [some (.ref x), some (.int h), none, none] rfl pf_X8_ifPassed rfl rfl (fun E X K => ?_)
  refine r_iload_n (pc := 0) X rfl dX8_ifPassed_0 ?_
  refine r_iconst (pc := 1) (v := 1) X rfl dX8_ifPassed_1 ?_
  refine r_icmp_lt (pc := 2) X 11 (by decide) dX8_ifPassed_2 (fun q2 => ?_) (fun q2 => ?_)
  · skip
    have e : jifp (S 0) n h = -2 := if_pos (by unfold jin; rw [decide_eq_false (Int32.not_le.mpr q2), Bool.false_and])
    refine r_bipush (pc := 11) (v := (-2)) X rfl dX8_ifPassed_11 ?_
    exact K dX8_ifPassed_13 ⟨by rw [e], S 1, O 1, xT_self⟩
  · skip
    refine r_iload_n (pc := 5) X rfl dX8_ifPassed_5 ?_
    refine r_bipush (pc := 6) (v := 40) X rfl dX8_ifPassed_6 ?_
    refine r_icmp_le (pc := 8) X 14 (by decide) dX8_ifPassed_8 (fun q8 => ?_) (fun q8 => ?_)
    · skip
      have hin : jin h 1 40 = true := by unfold jin; rw [decide_eq_true (Int32.not_lt.mp q2), decide_eq_true q8]; rfl
      obtain ⟨hn, hh0, hh1, rfl⟩ := jin_of1 (n := 40) rfl (by decide) hin
      have hn8 := hk.1.1
      have e : jifp (S 0) n (nI hn) = nI (jset (fun i => decide (S 0 (140 + 5 * i + 3) = 0) && decide (jhrs (S 0) n hn (140 + 5 * i + 3) = 2)) n) := by unfold jifp; rw [if_neg (by rw [hin]; decide), tn_nI (by omega)]; exact congrArg nI (jset_cong (fun i hi => jwr_eq (by omega) hn))
      refine r_aload_n (pc := 14) X rfl dX8_ifPassed_14 ?_
      refine gt_X8_25 (pc := 15) X xW_o rfl dX8_ifPassed_15 ?_
      refine r_aload_n (pc := 18) X rfl dX8_ifPassed_18 ?_
      refine gt_X8_21 (pc := 19) X xW_o rfl dX8_ifPassed_19 ?_
      refine ca_X8_101 (pc := 22) X (c_x_copy (k := 1) (j := 0) (by decide) (by decide) (by decide)) xW_1o rfl rfl rfl dX8_ifPassed_22 (fun M22 hp22 => ?_)
      obtain rfl := hp22
      refine bkV.eq (xW_cp (by decide) (by decide)) ?_
      refine r_aload_n (pc := 25) X rfl dX8_ifPassed_25 ?_
      refine gt_X8_25 (pc := 26) X xW_o rfl dX8_ifPassed_26 ?_
      refine r_iload_n (pc := 29) X rfl dX8_ifPassed_29 ?_
      refine bkV.eq xQ_b1 ?_
      refine ca_X8_141 (pc := 30) X (c_X6_passHours xW_bB (by omega) hk.2.1 hk.1 hk.2.2.m hn (by omega)) sW_o rfl rfl rfl dX8_ifPassed_30 (fun r30 M30 hp30 => ?_)
      obtain ⟨rfl, g2, rfl, hg2⟩ := hp30
      refine bkV.eq xT_s1 ?_
      refine r_pop (pc := 33) X rfl dX8_ifPassed_33 ?_
      refine r_iconst (pc := 34) (v := 0) X rfl dX8_ifPassed_34 ?_
      refine r_istore_n (pc := 35) X rfl rfl dX8_ifPassed_35 ?_
      refine r_iconst (pc := 36) (v := 0) X rfl dX8_ifPassed_36 ?_
      refine r_istore_n (pc := 37) X rfl rfl dX8_ifPassed_37 ?_
      have lp38 : ∀ (d j : Nat) (z : Int32) (y : Int32), j ≤ 8 → 8 < j + d → (z = nI (jset (fun i => decide (O 0 (8 + i) = 0) && decide (g2 (8 + i) = 2)) j)) → (y = nI j) → bkV E G Z 0 0 (xW G x (pfu S 1 (jhrs (S 0) n hn)) (pfu O 1 g2) od sz kp t ln pc pl pf M) 38 [some (.ref x), some (.int (nI hn)), some (.int z), some (.int y)] [] := by
        intro d
        induction d with
        | zero => intro j z y; intros; exfalso; omega
        | succ d ih =>
          intro j z y hj hd e1 e2
          subst e1
          subst e2
          refine r_iload_n (pc := 38) X rfl dX8_ifPassed_38 ?_
          refine r_bipush (pc := 39) (v := 8) X rfl dX8_ifPassed_39 ?_
          refine r_icmpN_ge (pc := 41) X 64 (j) (8) rfl rfl (by omega) (by omega) (by decide) dX8_ifPassed_41 (fun q41 => ?_) (fun q41 => ?_)
          · skip
            obtain rfl : j = 8 := by omega
            refine r_iload_n (pc := 64) X rfl dX8_ifPassed_64 ?_
            exact K dX8_ifPassed_65 ⟨by rw [e, ← cifp_g hn8 hk.2.2 hg2], _, _, rfl⟩
          · skip
            refine r_aload_n (pc := 44) X rfl dX8_ifPassed_44 ?_
            refine r_iload_n (pc := 45) X rfl dX8_ifPassed_45 ?_
            refine ca_X8_223 (pc := 46) X (c_X8_isWreckedInTrial j (by omega)) xW_o rfl rfl rfl dX8_ifPassed_46 (fun r46 M46 hp46 => ?_)
            obtain ⟨rfl, rfl⟩ := hp46
            refine r_if_eq (pc := 49) X 58 (by decide) dX8_ifPassed_49 (fun q49 => ?_) (fun q49 => ?_)
            · skip
              have hj := bi_0.mp q49
              refine r_iinc (pc := 58) X rfl rfl rfl dX8_ifPassed_58 ?_
              refine r_goto (pc := 61) X 38 (by decide) dX8_ifPassed_61 ?_
              refine ih (j + 1) _ _ (by omega) (by omega) ?_ (nI_1 j)
              first | exact jset_t (p := (fun i => decide (O 0 (8 + i) = 0) && decide (g2 (8 + i) = 2))) (by omega) hj | exact (Int32.or_zero).symm.trans (jset_f (p := (fun i => decide (O 0 (8 + i) = 0) && decide (g2 (8 + i) = 2))) hj)
            · skip
              have hj := bi_n0.mp q49
              refine r_iload_n (pc := 52) X rfl dX8_ifPassed_52 ?_
              refine r_iconst (pc := 53) (v := 1) X rfl dX8_ifPassed_53 ?_
              refine r_iload_n (pc := 54) X rfl dX8_ifPassed_54 ?_
              refine r_ishl (pc := 55) X dX8_ifPassed_55 ?_
              refine r_ior (pc := 56) X dX8_ifPassed_56 ?_
              refine r_istore_n (pc := 57) X rfl rfl dX8_ifPassed_57 ?_
              refine r_iinc (pc := 58) X rfl rfl rfl dX8_ifPassed_58 ?_
              refine r_goto (pc := 61) X 38 (by decide) dX8_ifPassed_61 ?_
              refine ih (j + 1) _ _ (by omega) (by omega) ?_ (nI_1 j)
              first | exact jset_t (p := (fun i => decide (O 0 (8 + i) = 0) && decide (g2 (8 + i) = 2))) (by omega) hj | exact (Int32.or_zero).symm.trans (jset_f (p := (fun i => decide (O 0 (8 + i) = 0) && decide (g2 (8 + i) = 2))) hj)
      exact lp38 (8 + 1) 0 _ _ (by omega) (by omega) rfl rfl
    · skip
      have e : jifp (S 0) n h = -2 := if_pos (by unfold jin; rw [decide_eq_false q8, Bool.and_false])
      refine r_bipush (pc := 11) (v := (-2)) X rfl dX8_ifPassed_11 ?_
      exact K dX8_ifPassed_13 ⟨by rw [e], S 1, O 1, xT_self⟩

set_option maxHeartbeats 4000000 in
set_option maxRecDepth 100000 in
theorem c_X8_bestCard {G : bkG} {Z : Nat → Prop} {M : bkM} {x : Nat} {S O : Nat → Nat → Int32} {od : Nat → Nat} {sz kp : Int32} {t : Nat → Int32} {ln pc pl : Int32} {pf : Nat → Nat → Int32} {n : Nat} (hk : cOK (S 0) n (O 0)) (k : Int32) : bkCi G Z Z yX8_bestCard cX8_bestCard 6 (some .int) 6 0 0 [.ref x, .int k] (xW G x S O od sz kp t ln pc pl pf M) (fun v M' => v = jbest (S 0) n k ∧ ∃ s1 g1, M' = (xW G x (pfu S 1 s1) (pfu O 1 g1) od sz kp t ln pc pl pf M)) := by
  refine bk_meti [some (.ref x), some (.int k), none, none, none, none] rfl pf_X8_bestCard rfl rfl (fun E X K => ?_)
  refine r_iload_n (pc := 0) X rfl dX8_bestCard_0 ?_
  refine ca_X8_65 (pc := 1) X (c_X8_isLight k) rfl rfl rfl dX8_bestCard_1 (fun r1 M1 hp1 => ?_)
  obtain ⟨rfl, rfl⟩ := hp1
  refine r_if_ne (pc := 4) X 9 (by decide) dX8_bestCard_4 (fun q4 => ?_) (fun q4 => ?_)
  · skip
    have hl := bi_n0.mp q4
    obtain ⟨kn, hkn, rfl⟩ := jin_of (n := 3) rfl (by decide) hl
    have e : jbest (S 0) n (nI kn) = (jbst (S 0) n kn 4).1 := by unfold jbest; rw [if_neg (by rw [hl]; decide), tn_nI (by omega)]
    refine r_bipush (pc := 9) (v := (-5)) X rfl dX8_bestCard_9 ?_
    refine r_istore_n (pc := 11) X rfl rfl dX8_bestCard_11 ?_
    refine r_aload_n (pc := 12) X rfl dX8_bestCard_12 ?_
    refine gt_X8_25 (pc := 13) X xW_o rfl dX8_bestCard_13 ?_
    refine r_aload_n (pc := 16) X rfl dX8_bestCard_16 ?_
    refine gt_X8_21 (pc := 17) X xW_o rfl dX8_bestCard_17 ?_
    refine ca_X8_101 (pc := 20) X (c_x_copy (k := 1) (j := 0) (by decide) (by decide) (by decide)) xW_1o rfl rfl rfl dX8_bestCard_20 (fun M20 hp20 => ?_)
    obtain rfl := hp20
    refine bkV.eq (xW_cp (by decide) (by decide)) ?_
    refine r_aload_n (pc := 23) X rfl dX8_bestCard_23 ?_
    refine ca_X8_226 (pc := 24) X (c_X8_worthWreckedInTrial hk hk.m) xW_o rfl rfl rfl dX8_bestCard_24 (fun r24 M24 hp24 => ?_)
    obtain ⟨rfl, g2, rfl, hg2⟩ := hp24
    refine bk_top (cw10_s hk.1.1) ?_
    refine r_istore_n (pc := 27) X rfl rfl dX8_bestCard_27 ?_
    refine r_iconst (pc := 28) (v := 0) X rfl dX8_bestCard_28 ?_
    refine r_istore (pc := 29) X rfl rfl dX8_bestCard_29 ?_
    have lp31 : ∀ (d j : Nat) (z m y : Int32) (s1 g1 : Nat → Int32), j ≤ 4 → 4 < j + d → z = (jbst (S 0) n kn j).1 → m = (jbst (S 0) n kn j).2 → y = nI j → bkV E G Z 0 0 (xW G x (pfu S 1 s1) (pfu O 1 g1) od sz kp t ln pc pl pf M) 31 [some (.ref x), some (.int (nI kn)), some (.int z), some (.int m), some (.int y), none] [] := by
      intro d
      induction d with
      | zero => intros; omega
      | succ d ih =>
        intro j z m y s1 g1 hj hd e1 e2 e3
        subst e3
        refine r_iload (pc := 31) X rfl dX8_bestCard_31 ?_
        refine r_iconst (pc := 33) (v := 4) X rfl dX8_bestCard_33 ?_
        refine r_icmpN_ge (pc := 34) X 101 (j) (4) rfl rfl (by omega) (by omega) (by decide) dX8_bestCard_34 (fun q34 => ?_) (fun q34 => ?_)
        · skip
          obtain rfl : j = 4 := by omega
          refine r_iload_n (pc := 101) X rfl dX8_bestCard_101 ?_
          exact K dX8_bestCard_102 ⟨by rw [e, e1], s1, g1, rfl⟩
        · skip
          refine r_aload_n (pc := 37) X rfl dX8_bestCard_37 ?_
          refine gt_X8_21 (pc := 38) X xW_o rfl dX8_bestCard_38 ?_
          refine r_iload_n (pc := 41) X rfl dX8_bestCard_41 ?_
          refine r_iload (pc := 42) X rfl dX8_bestCard_42 ?_
          refine bkV.eq xT_b0 ?_
          refine ca_X8_120 (pc := 44) X (c_X6_canLayCard kn j (by omega) (by omega)) sW_o rfl rfl rfl dX8_bestCard_44 (fun r44 M44 hp44 => ?_)
          obtain ⟨rfl, rfl⟩ := hp44
          refine bkV.eq xT_b0.symm ?_
          refine r_if_ne (pc := 47) X 53 (by decide) dX8_bestCard_47 (fun q47 => ?_) (fun q47 => ?_)
          · skip
            have hj := bi_n0.mp q47
            have eb : jbst (S 0) n kn (j + 1) = (if (jbst (S 0) n kn j).2 < jw10 (jly (S 0) kn j) n then nI j else (jbst (S 0) n kn j).1, if (jbst (S 0) n kn j).2 < jw10 (jly (S 0) kn j) n then jw10 (jly (S 0) kn j) n else (jbst (S 0) n kn j).2) := if_pos hj
            refine r_aload_n (pc := 53) X rfl dX8_bestCard_53 ?_
            refine gt_X8_25 (pc := 54) X xW_o rfl dX8_bestCard_54 ?_
            refine r_aload_n (pc := 57) X rfl dX8_bestCard_57 ?_
            refine gt_X8_21 (pc := 58) X xW_o rfl dX8_bestCard_58 ?_
            refine ca_X8_101 (pc := 61) X (c_x_copy (k := 1) (j := 0) (by decide) (by decide) (by decide)) xW_1o rfl rfl rfl dX8_bestCard_61 (fun M61 hp61 => ?_)
            obtain rfl := hp61
            refine bkV.eq (xW_cp (by decide) (by decide)) ?_
            refine bkV.eq xT_cp ?_
            refine r_aload_n (pc := 64) X rfl dX8_bestCard_64 ?_
            refine gt_X8_25 (pc := 65) X xW_o rfl dX8_bestCard_65 ?_
            refine gt_X8_73 (pc := 68) X xW_1o rfl dX8_bestCard_68 ?_
            refine r_iload (pc := 71) X rfl dX8_bestCard_71 ?_
            refine r_aald (pc := 73) X xW_1l rfl rfl (j) rfl (by omega) (by decide) rfl dX8_bestCard_73 ?_
            refine ca_X8_132 (pc := 74) X (c_X3_layCard (xT_1lt (i := j) (by omega))) (xT_1lt (i := j) (by omega)) rfl rfl rfl dX8_bestCard_74 (fun M74 hp74 => ?_)
            obtain rfl := hp74
            refine bkV.eq (xT_1 (fun M2 => sS_lt (i := j) (by omega) (fun m _ hm => upd_n (fun q => hm (by rw [q]; exact jow_l (by omega) (by omega)))))) ?_
            refine r_aload_n (pc := 77) X rfl dX8_bestCard_77 ?_
            refine ca_X8_226 (pc := 78) X (c_X8_worthWreckedInTrial hk (hk.fog (l := j) (by omega)).m) xW_o rfl rfl rfl dX8_bestCard_78 (fun r78 M78 hp78 => ?_)
            obtain ⟨rfl, g2, rfl, hg2⟩ := hp78
            refine bk_top (cw10_ly hk.1 (k := kn) (l := j) (by omega) (by omega)) ?_
            refine r_istore (pc := 81) X rfl rfl dX8_bestCard_81 ?_
            refine r_iload (pc := 83) X rfl dX8_bestCard_83 ?_
            refine r_iload_n (pc := 85) X rfl dX8_bestCard_85 ?_
            refine r_icmp_le (pc := 86) X 95 (by decide) dX8_bestCard_86 (fun q86 => ?_) (fun q86 => ?_)
            · skip
              have q2 := Int32.not_lt.mpr q86
              refine r_iinc (pc := 95) X rfl rfl rfl dX8_bestCard_95 ?_
              refine r_goto (pc := 98) X 31 (by decide) dX8_bestCard_98 ?_
              first | exact ih (j + 1) _ _ _ _ _ (by omega) (by omega) (by rw [eb, e1]) (by rw [eb, e2]) (nI_1 j) | exact bkV.drop 5 (ih (j + 1) _ _ _ _ _ (by omega) (by omega) (by rw [eb, ← e2]; exact e1.trans (if_neg q2).symm) (by rw [eb, ← e2]; exact (if_neg q2).symm) (nI_1 j)) | exact bkV.drop 5 (ih (j + 1) _ _ _ _ _ (by omega) (by omega) (by rw [eb, ← e2]; exact (if_pos q2).symm) (by rw [eb, ← e2]; exact (if_pos q2).symm) (nI_1 j))
            · skip
              have q2 := Int32.not_le.mp q86
              refine r_iload (pc := 89) X rfl dX8_bestCard_89 ?_
              refine r_istore_n (pc := 91) X rfl rfl dX8_bestCard_91 ?_
              refine r_iload (pc := 92) X rfl dX8_bestCard_92 ?_
              refine r_istore_n (pc := 94) X rfl rfl dX8_bestCard_94 ?_
              refine r_iinc (pc := 95) X rfl rfl rfl dX8_bestCard_95 ?_
              refine r_goto (pc := 98) X 31 (by decide) dX8_bestCard_98 ?_
              first | exact ih (j + 1) _ _ _ _ _ (by omega) (by omega) (by rw [eb, e1]) (by rw [eb, e2]) (nI_1 j) | exact bkV.drop 5 (ih (j + 1) _ _ _ _ _ (by omega) (by omega) (by rw [eb, ← e2]; exact e1.trans (if_neg q2).symm) (by rw [eb, ← e2]; exact (if_neg q2).symm) (nI_1 j)) | exact bkV.drop 5 (ih (j + 1) _ _ _ _ _ (by omega) (by omega) (by rw [eb, ← e2]; exact (if_pos q2).symm) (by rw [eb, ← e2]; exact (if_pos q2).symm) (nI_1 j))
          · skip
            have hj := bi_0.mp q47
            have eb : jbst (S 0) n kn (j + 1) = jbst (S 0) n kn j := if_neg (by rw [hj]; decide)
            refine r_goto (pc := 50) X 95 (by decide) dX8_bestCard_50 ?_
            refine r_iinc (pc := 95) X rfl rfl rfl dX8_bestCard_95 ?_
            refine r_goto (pc := 98) X 31 (by decide) dX8_bestCard_98 ?_
            first | exact ih (j + 1) _ _ _ _ _ (by omega) (by omega) (by rw [eb, e1]) (by rw [eb, e2]) (nI_1 j) | exact bkV.drop 5 (ih (j + 1) _ _ _ _ _ (by omega) (by omega) (by rw [eb, ← e2]; exact e1.trans (if_neg q2).symm) (by rw [eb, ← e2]; exact (if_neg q2).symm) (nI_1 j)) | exact bkV.drop 5 (ih (j + 1) _ _ _ _ _ (by omega) (by omega) (by rw [eb, ← e2]; exact (if_pos q2).symm) (by rw [eb, ← e2]; exact (if_pos q2).symm) (nI_1 j))
    exact lp31 5 0 _ _ _ _ _ (by omega) (by omega) rfl rfl rfl
  · skip
    have e : jbest (S 0) n k = -1 := if_pos (bi_0.mp q4)
    refine r_iconst (pc := 7) (v := (-1)) X rfl dX8_bestCard_7 ?_
    exact K dX8_bestCard_8 ⟨by rw [e], S 1, O 1, xT_self⟩

