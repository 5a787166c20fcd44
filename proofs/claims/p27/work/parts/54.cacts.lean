set_option maxHeartbeats 4000000 in
set_option maxRecDepth 100000 in
theorem c_X8_rock {G : bkG} {Z : Nat → Prop} {M : bkM} {x : Nat} {S O : Nat → Nat → Int32} {od : Nat → Nat} {kp : Int32} {t : Nat → Int32} {ln pc pl : Int32} {pf : Nat → Nat → Int32} {np : Nat} (hnp : np ≤ 4) (h0 : hOK od) {n : Nat} (hk : cOK (S 0) n (O 0)) (c : Int32) : bkCi G Z Z yX8_rock cX8_rock 3 (some .int) 5 0 0 [.ref x, .int c] (xW G x S O od (nI np) kp t ln pc pl pf M) (fun v M' => v = (jRock (S 0) c).1 ∧ ∃ go, M' = xA G x S O od np kp t ln pc pl pf M go (jRock (S 0) c).2 ∧ xG (jRock (S 0) c).2 go) := by
  refine bk_meti [some (.ref x), some (.int c), none] rfl pf_X8_rock rfl rfl (fun E X K => ?_)
  refine r_aload_n (pc := 0) X rfl dX8_rock_0 ?_
  refine gt_X8_21 (pc := 1) X xW_o rfl dX8_rock_1 ?_
  refine r_iload_n (pc := 4) X rfl dX8_rock_4 ?_
  refine bkV.eq xW_b0 ?_
  refine ca_X8_49 (pc := 5) X (c_X6_rockError c) sW_o rfl rfl rfl dX8_rock_5 (fun r5 M5 hp5 => ?_)
  obtain ⟨rfl, rfl⟩ := hp5
  refine bkV.eq xW_b0.symm ?_
  refine r_istore_n (pc := 8) X rfl rfl dX8_rock_8 ?_
  refine r_iload_n (pc := 9) X rfl dX8_rock_9 ?_
  refine r_if_eq (pc := 10) X 15 (by decide) dX8_rock_10 (fun q10 => ?_) (fun q10 => ?_)
  · skip
    have hb : 0 ≤ jbr c := by rw [q10]; decide
    obtain ⟨cn, hcn, rfl⟩ := jbr_in hb
    have e : jRock (S 0) (nI cn) = (jsm (upd (S 0) cn (1 - S 0 cn)) 100, some (upd (S 0) cn (1 - S 0 cn))) := by unfold jRock; rw [if_pos hb, tn_nI (by omega)]
    have hk2 := hk.rock (c := cn) (by omega)
    refine r_aload_n (pc := 15) X rfl dX8_rock_15 ?_
    refine gt_X8_38 (pc := 16) X xW_o rfl dX8_rock_16 ?_
    refine r_aload_n (pc := 19) X rfl dX8_rock_19 ?_
    refine gt_X8_21 (pc := 20) X xW_o rfl dX8_rock_20 ?_
    refine ca_X8_53 (pc := 23) X (c_X1_record hnp h0) xW_h rfl rfl rfl dX8_rock_23 (fun M23 hp23 => ?_)
    obtain rfl := hp23
    refine r_aload_n (pc := 26) X rfl dX8_rock_26 ?_
    refine gt_X8_21 (pc := 27) X xW_o rfl dX8_rock_27 ?_
    refine r_iload_n (pc := 30) X rfl dX8_rock_30 ?_
    refine bkV.eq xR_b0 ?_
    refine ca_X8_57 (pc := 31) X (c_X6_turnRock cn (by omega) (hk.1.2.2.1 cn (by omega))) sW_o rfl rfl rfl dX8_rock_31 (fun M31 hp31 => ?_)
    obtain rfl := hp31
    refine bkV.eq xW_s0 ?_
    refine r_aload_n (pc := 34) X rfl dX8_rock_34 ?_
    refine gt_X8_21 (pc := 35) X xW_o rfl dX8_rock_35 ?_
    refine bkV.eq xQ_b0 ?_
    refine ca_X8_61 (pc := 38) X (c_X6_rocks) sW_o rfl rfl rfl dX8_rock_38 (fun r38 M38 hp38 => ?_)
    obtain ⟨rfl, rfl⟩ := hp38
    refine bkV.eq xQ_b0.symm ?_
    exact K dX8_rock_41 ⟨by rw [e]; exact (jsm_rocks 100 hk2.1.2.2.1).symm, O 0, by rw [e]; rfl, by rw [e]; exact xG.some hk2⟩
  · skip
    have hb : ¬ 0 ≤ jbr c := fun q => by rcases jbr_z c with zz | zz; exact q10 zz; exact absurd q (Int32.not_le.mpr zz)
    have e : jRock (S 0) c = (jbr c, none) := if_neg hb
    refine r_iload_n (pc := 13) X rfl dX8_rock_13 ?_
    exact K dX8_rock_14 ⟨by rw [e], O 0, by rw [e]; rfl, by rw [e]; exact xG.none⟩

set_option maxHeartbeats 4000000 in
set_option maxRecDepth 100000 in
theorem c_X8_light {G : bkG} {Z : Nat → Prop} {M : bkM} {x : Nat} {S O : Nat → Nat → Int32} {od : Nat → Nat} {kp : Int32} {t : Nat → Int32} {ln pc pl : Int32} {pf : Nat → Nat → Int32} {np : Nat} (hnp : np ≤ 4) (h0 : hOK od) {n : Nat} (hk : cOK (S 0) n (O 0)) (l w y : Int32) : bkCi G Z Z yX8_light cX8_light 5 (some .int) 5 0 0 [.ref x, .int l, .int w, .int y] (xW G x S O od (nI np) kp t ln pc pl pf M) (fun v M' => v = (jLight (S 0) l w y).1 ∧ ∃ go, M' = xA G x S O od np kp t ln pc pl pf M go (jLight (S 0) l w y).2 ∧ xG (jLight (S 0) l w y).2 go) := by
  refine bk_meti [some (.ref x), some (.int l), some (.int w), some (.int y), none] rfl pf_X8_light rfl rfl (fun E X K => ?_)
  refine r_iload_n (pc := 0) X rfl dX8_light_0 ?_
  refine ca_X8_65 (pc := 1) X (c_X8_isLight l) rfl rfl rfl dX8_light_1 (fun r1 M1 hp1 => ?_)
  obtain ⟨rfl, rfl⟩ := hp1
  refine r_if_ne (pc := 4) X 9 (by decide) dX8_light_4 (fun q4 => ?_) (fun q4 => ?_)
  · skip
    have hl := bi_n0.mp q4
    obtain ⟨i, hi, rfl⟩ := jin_of (n := 3) rfl (by decide) (bi_n0.mp q4)
    have ti : tn (nI i) = i := tn_nI (by omega)
    refine r_iload_n (pc := 9) X rfl dX8_light_9 ?_
    refine r_iload_n (pc := 10) X rfl dX8_light_10 ?_
    refine ca_X8_69 (pc := 11) X (c_X8_isSetting w y) rfl rfl rfl dX8_light_11 (fun r11 M11 hp11 => ?_)
    obtain ⟨rfl, rfl⟩ := hp11
    refine r_if_ne (pc := 14) X 20 (by decide) dX8_light_14 (fun q14 => ?_) (fun q14 => ?_)
    · skip
      have hf := bi_n0.mp q14
      obtain ⟨k, hk4, rfl⟩ := jfit_in hf
      have tk : tn (nI k) = k := tn_nI (by omega)
      refine r_aload_n (pc := 20) X rfl dX8_light_20 ?_
      refine gt_X8_21 (pc := 21) X xW_o rfl dX8_light_21 ?_
      refine gt_X8_73 (pc := 24) X xW_0o rfl dX8_light_24 ?_
      refine r_iload_n (pc := 27) X rfl dX8_light_27 ?_
      refine r_aald (pc := 28) X xW_0l rfl rfl (i) rfl (by omega) (by decide) rfl dX8_light_28 ?_
      refine r_iload_n (pc := 29) X rfl dX8_light_29 ?_
      refine r_aload_n (pc := 30) X rfl dX8_light_30 ?_
      refine gt_X8_21 (pc := 31) X xW_o rfl dX8_light_31 ?_
      refine gt_X8_77 (pc := 34) X xW_0o rfl dX8_light_34 ?_
      refine ca_X8_81 (pc := 37) X (c_X3_told (xW_0lt (i := i) (by omega)) (by omega) (xW_bB.2.2 i (by omega)).1 (xW_bB.2.2 i (by omega)).2 (nI k) (S 0 181)) (xW_0lt (i := i) (by omega)) rfl rfl rfl dX8_light_37 (fun r37 M37 hp37 => ?_)
      obtain ⟨rfl, rfl⟩ := hp37
      refine bk_top (tld4 (w := k) (by omega) _ _ _) ?_
      refine r_istore (pc := 40) X rfl rfl dX8_light_40 ?_
      refine r_iload (pc := 42) X rfl dX8_light_42 ?_
      refine r_iload_n (pc := 44) X rfl dX8_light_44 ?_
      refine r_icmp_ne (pc := 45) X 51 (by decide) dX8_light_45 (fun q45 => ?_) (fun q45 => ?_)
      · skip
        have e : jLight (S 0) (nI i) (nI k) y = (S 0 (100 + 5 * i + k), some (upd (S 0) (100 + 5 * i + k) y)) := by unfold jLight; rw [if_neg (by rw [hl]; decide), if_neg (by rw [hf]; decide), ti, tk, if_neg q45]
        refine r_aload_n (pc := 51) X rfl dX8_light_51 ?_
        refine gt_X8_38 (pc := 52) X xW_o rfl dX8_light_52 ?_
        refine r_aload_n (pc := 55) X rfl dX8_light_55 ?_
        refine gt_X8_21 (pc := 56) X xW_o rfl dX8_light_56 ?_
        refine ca_X8_53 (pc := 59) X (c_X1_record hnp h0) xW_h rfl rfl rfl dX8_light_59 (fun M59 hp59 => ?_)
        obtain rfl := hp59
        refine r_aload_n (pc := 62) X rfl dX8_light_62 ?_
        refine gt_X8_21 (pc := 63) X xW_o rfl dX8_light_63 ?_
        refine gt_X8_73 (pc := 66) X xW_0o rfl dX8_light_66 ?_
        refine r_iload_n (pc := 69) X rfl dX8_light_69 ?_
        refine r_aald (pc := 70) X xW_0l rfl rfl (i) rfl (by omega) (by decide) rfl dX8_light_70 ?_
        refine r_iload_n (pc := 71) X rfl dX8_light_71 ?_
        refine r_iload_n (pc := 72) X rfl dX8_light_72 ?_
        refine ca_X8_87 (pc := 73) X (c_X3_set (xR_lt (i := i) (by omega)) k (by omega) y) (xR_lt (i := i) (by omega)) rfl rfl rfl dX8_light_73 (fun M73 hp73 => ?_)
        obtain rfl := hp73
        refine bkV.eq (xR_0 (fun M2 => sS_lt (i := i) (by omega) (fun m _ hm => upd_n (fun q => hm (by rw [q]; exact jow_l (by omega) (by omega)))))) ?_
        refine r_iload (pc := 76) X rfl dX8_light_76 ?_
        exact K dX8_light_78 ⟨by rw [e], O 0, by rw [e]; rfl, by rw [e]; exact xG.some (hk.light (by omega) (by omega) hf)⟩
      · skip
        have e : jLight (S 0) (nI i) (nI k) y = (-5, none) := by unfold jLight; rw [if_neg (by rw [hl]; decide), if_neg (by rw [hf]; decide), ti, tk, if_pos q45]
        refine r_bipush (pc := 48) (v := (-5)) X rfl dX8_light_48 ?_
        exact K dX8_light_50 ⟨by rw [e], O 0, by rw [e]; rfl, by rw [e]; exact xG.none⟩
    · skip
      have e : jLight (S 0) (nI i) w y = (-2, none) := by unfold jLight; rw [if_neg (by rw [hl]; decide), if_pos (bi_0.mp q14)]
      refine r_bipush (pc := 17) (v := (-2)) X rfl dX8_light_17 ?_
      exact K dX8_light_19 ⟨by rw [e], O 0, by rw [e]; rfl, by rw [e]; exact xG.none⟩
  · skip
    have e : jLight (S 0) l w y = (-1, none) := if_pos (bi_0.mp q4)
    refine r_iconst (pc := 7) (v := (-1)) X rfl dX8_light_7 ?_
    exact K dX8_light_8 ⟨by rw [e], O 0, by rw [e]; rfl, by rw [e]; exact xG.none⟩

set_option maxHeartbeats 4000000 in
set_option maxRecDepth 100000 in
theorem c_X8_ship {G : bkG} {Z : Nat → Prop} {M : bkM} {x : Nat} {S O : Nat → Nat → Int32} {od : Nat → Nat} {kp : Int32} {t : Nat → Int32} {ln pc pl : Int32} {pf : Nat → Nat → Int32} {np : Nat} (hnp : np ≤ 4) (h0 : hOK od) {n : Nat} (hk : cOK (S 0) n (O 0)) (w c h : Int32) : bkCi G Z Z yX8_ship cX8_ship 5 (some .int) 5 0 0 [.ref x, .int w, .int c, .int h] (xW G x S O od (nI np) kp t ln pc pl pf M) (fun v M' => v = (jShip (S 0) n w c h).1 ∧ ∃ go, M' = xA G x S O od np kp t ln pc pl pf M go (jShip (S 0) n w c h).2 ∧ xG (jShip (S 0) n w c h).2 go) := by
  refine bk_meti [some (.ref x), some (.int w), some (.int c), some (.int h), none] rfl pf_X8_ship rfl rfl (fun E X K => ?_)
  refine r_aload_n (pc := 0) X rfl dX8_ship_0 ?_
  refine gt_X8_21 (pc := 1) X xW_o rfl dX8_ship_1 ?_
  refine r_iload_n (pc := 4) X rfl dX8_ship_4 ?_
  refine r_iload_n (pc := 5) X rfl dX8_ship_5 ?_
  refine r_iload_n (pc := 6) X rfl dX8_ship_6 ?_
  refine bkV.eq xW_b0 ?_
  refine ca_X8_91 (pc := 7) X (c_X6_shipError hk.1 hk.2.2 w c h) sW_o rfl rfl rfl dX8_ship_7 (fun r7 M7 hp7 => ?_)
  obtain ⟨rfl, rfl⟩ := hp7
  refine bkV.eq xW_b0.symm ?_
  refine r_istore (pc := 10) X rfl rfl dX8_ship_10 ?_
  refine r_iload (pc := 12) X rfl dX8_ship_12 ?_
  refine r_if_eq (pc := 14) X 20 (by decide) dX8_ship_14 (fun q14 => ?_) (fun q14 => ?_)
  · skip
    have hb : 0 ≤ jbs (S 0) n w c h := by rw [q14]; decide
    have hj := jbs_in hb
    have hn8 := (jbs_wf hk.1 hb).1
    obtain ⟨c1, hc1, rfl⟩ := jin_of (n := 99) rfl (by decide) hj.1
    obtain ⟨h1, hh1, rfl⟩ := jin_of (n := 99) rfl (by decide) hj.2.1
    obtain ⟨w1, -, hw1, rfl⟩ := jin_of1 (n := 99) rfl (by decide) hj.2.2.1
    have e : jShip (S 0) n (nI w1) (nI c1) (nI h1) = (nI n, some (jcm (S 0) n (nI w1) (nI c1) (nI h1))) := if_pos hb
    refine r_aload_n (pc := 20) X rfl dX8_ship_20 ?_
    refine gt_X8_38 (pc := 21) X xW_o rfl dX8_ship_21 ?_
    refine r_aload_n (pc := 24) X rfl dX8_ship_24 ?_
    refine gt_X8_21 (pc := 25) X xW_o rfl dX8_ship_25 ?_
    refine ca_X8_53 (pc := 28) X (c_X1_record hnp h0) xW_h rfl rfl rfl dX8_ship_28 (fun M28 hp28 => ?_)
    obtain rfl := hp28
    refine r_aload_n (pc := 31) X rfl dX8_ship_31 ?_
    refine gt_X8_21 (pc := 32) X xW_o rfl dX8_ship_32 ?_
    refine r_iload_n (pc := 35) X rfl dX8_ship_35 ?_
    refine r_iload_n (pc := 36) X rfl dX8_ship_36 ?_
    refine r_iload_n (pc := 37) X rfl dX8_ship_37 ?_
    refine bkV.eq xR_b0 ?_
    refine ca_X8_95 (pc := 38) X (c_X6_addShip hk.1 hn8 hk.2.2 w1 c1 h1 (by omega)) sW_o rfl rfl rfl dX8_ship_38 (fun r38 M38 hp38 => ?_)
    obtain ⟨rfl, go2, rfl, hg2⟩ := hp38
    refine bkV.eq xW_s0 ?_
    exact K dX8_ship_41 ⟨by rw [e], go2, by rw [e]; rfl, by rw [e]; exact xG.some (hk.cm hn8 (by omega) (by omega) (by omega) hg2)⟩
  · skip
    have hb : ¬ 0 ≤ jbs (S 0) n w c h := fun q => by rcases jbs_z (S 0) n w c h with zz | zz; exact q14 zz; exact absurd q (Int32.not_le.mpr zz)
    have e : jShip (S 0) n w c h = (jbs (S 0) n w c h, none) := if_neg hb
    refine r_iload (pc := 17) X rfl dX8_ship_17 ?_
    exact K dX8_ship_19 ⟨by rw [e], O 0, by rw [e]; rfl, by rw [e]; exact xG.none⟩

set_option maxHeartbeats 4000000 in
set_option maxRecDepth 100000 in
theorem c_X8_card {G : bkG} {Z : Nat → Prop} {M : bkM} {x : Nat} {S O : Nat → Nat → Int32} {od : Nat → Nat} {kp : Int32} {t : Nat → Int32} {ln pc pl : Int32} {pf : Nat → Nat → Int32} {np : Nat} (hnp : np ≤ 4) (h0 : hOK od) {n : Nat} (hk : cOK (S 0) n (O 0)) (k l : Int32) : bkCi G Z Z yX8_card cX8_card 3 (some .int) 5 0 0 [.ref x, .int k, .int l] (xW G x S O od (nI np) kp t ln pc pl pf M) (fun v M' => v = (jCard (S 0) k l).1 ∧ ∃ go, M' = xA G x S O od np kp t ln pc pl pf M go (jCard (S 0) k l).2 ∧ xG (jCard (S 0) k l).2 go) := by
  refine bk_meti [some (.ref x), some (.int k), some (.int l)] rfl pf_X8_card rfl rfl (fun E X K => ?_)
  refine r_iload_n (pc := 0) X rfl dX8_card_0 ?_
  refine ca_X8_65 (pc := 1) X (c_X8_isLight k) rfl rfl rfl dX8_card_1 (fun r1 M1 hp1 => ?_)
  obtain ⟨rfl, rfl⟩ := hp1
  refine r_if_eq (pc := 4) X 14 (by decide) dX8_card_4 (fun q4 => ?_) (fun q4 => ?_)
  · skip
    have e : jCard (S 0) k l = (-1, none) := if_pos (Or.inl (bi_0.mp q4))
    refine r_iconst (pc := 14) (v := (-1)) X rfl dX8_card_14 ?_
    exact K dX8_card_15 ⟨by rw [e], O 0, by rw [e]; rfl, by rw [e]; exact xG.none⟩
  · skip
    have hl1 := bi_n0.mp q4
    refine r_iload_n (pc := 7) X rfl dX8_card_7 ?_
    refine ca_X8_65 (pc := 8) X (c_X8_isLight l) rfl rfl rfl dX8_card_8 (fun r8 M8 hp8 => ?_)
    obtain ⟨rfl, rfl⟩ := hp8
    refine r_if_ne (pc := 11) X 16 (by decide) dX8_card_11 (fun q11 => ?_) (fun q11 => ?_)
    · skip
      have hl2 := bi_n0.mp q11
      obtain ⟨i, hi, rfl⟩ := jin_of (n := 3) rfl (by decide) (bi_n0.mp q4)
      have ti : tn (nI i) = i := tn_nI (by omega)
      obtain ⟨j, hj, rfl⟩ := jin_of (n := 3) rfl (by decide) (bi_n0.mp q11)
      have tj : tn (nI j) = j := tn_nI (by omega)
      have e0 : ¬ (jin (nI i) 0 3 = false ∨ jin (nI j) 0 3 = false) := by rw [hl1, hl2]; decide
      refine r_aload_n (pc := 16) X rfl dX8_card_16 ?_
      refine gt_X8_21 (pc := 17) X xW_o rfl dX8_card_17 ?_
      refine r_iload_n (pc := 20) X rfl dX8_card_20 ?_
      refine r_iload_n (pc := 21) X rfl dX8_card_21 ?_
      refine bkV.eq xW_b0 ?_
      refine ca_X8_120 (pc := 22) X (c_X6_canLayCard i j (by omega) (by omega)) sW_o rfl rfl rfl dX8_card_22 (fun r22 M22 hp22 => ?_)
      obtain ⟨rfl, rfl⟩ := hp22
      refine bkV.eq xW_b0.symm ?_
      refine r_if_ne (pc := 25) X 31 (by decide) dX8_card_25 (fun q25 => ?_) (fun q25 => ?_)
      · skip
        have e : jCard (S 0) (nI i) (nI j) = (jly (S 0) i j (100 + 5 * j + 4), some (jly (S 0) i j)) := by unfold jCard; rw [if_neg e0, ti, tj, if_neg (by rw [bi_n0.mp q25]; decide)]
        refine r_aload_n (pc := 31) X rfl dX8_card_31 ?_
        refine gt_X8_38 (pc := 32) X xW_o rfl dX8_card_32 ?_
        refine r_aload_n (pc := 35) X rfl dX8_card_35 ?_
        refine gt_X8_21 (pc := 36) X xW_o rfl dX8_card_36 ?_
        refine ca_X8_53 (pc := 39) X (c_X1_record hnp h0) xW_h rfl rfl rfl dX8_card_39 (fun M39 hp39 => ?_)
        obtain rfl := hp39
        refine r_aload_n (pc := 42) X rfl dX8_card_42 ?_
        refine gt_X8_21 (pc := 43) X xW_o rfl dX8_card_43 ?_
        refine gt_X8_123 (pc := 46) X xW_0o rfl dX8_card_46 ?_
        refine r_iload_n (pc := 49) X rfl dX8_card_49 ?_
        refine r_aald (pc := 50) X xW_0k rfl rfl (i) rfl (by omega) (by decide) rfl dX8_card_50 ?_
        refine r_dup (pc := 51) X rfl dX8_card_51 ?_
        refine gt_X8_127 (pc := 52) X (xR_kp (i := i) (by omega)) rfl dX8_card_52 ?_
        refine r_iconst (pc := 55) (v := 1) X rfl dX8_card_55 ?_
        refine r_isub (pc := 56) X dX8_card_56 ?_
        refine pt_X8_127 (pc := 57) X (xR_kp (i := i) (by omega))  rfl dX8_card_57 ?_
        refine bkV.eq ((congrArg (fun z => bku _ _ (.inr (2, z))) kpF_2).trans (xR_0 (fun M2 => sS_kp (i := i) (by omega) (fun m _ hm => upd_n (fun q => hm (by rw [q]; exact jow_k (by omega) (by omega))))))) ?_
        refine r_aload_n (pc := 60) X rfl dX8_card_60 ?_
        refine gt_X8_21 (pc := 61) X xW_o rfl dX8_card_61 ?_
        refine gt_X8_73 (pc := 64) X xW_0o rfl dX8_card_64 ?_
        refine r_iload_n (pc := 67) X rfl dX8_card_67 ?_
        refine r_aald (pc := 68) X xW_0l rfl rfl (j) rfl (by omega) (by decide) rfl dX8_card_68 ?_
        refine ca_X8_132 (pc := 69) X (c_X3_layCard (xQ_lt (i := j) (by omega))) (xQ_lt (i := j) (by omega)) rfl rfl rfl dX8_card_69 (fun M69 hp69 => ?_)
        obtain rfl := hp69
        refine bkV.eq (xQ_0 (fun M2 => sS_lt (i := j) (by omega) (fun m _ hm => upd_n (fun q => hm (by rw [q]; exact jow_l (by omega) (by omega)))))) ?_
        rw [ly_eq (by omega) (by omega)]
        refine r_aload_n (pc := 72) X rfl dX8_card_72 ?_
        refine gt_X8_21 (pc := 73) X xW_o rfl dX8_card_73 ?_
        refine gt_X8_73 (pc := 76) X xW_0o rfl dX8_card_76 ?_
        refine r_iload_n (pc := 79) X rfl dX8_card_79 ?_
        refine r_aald (pc := 80) X xW_0l rfl rfl (j) rfl (by omega) (by decide) rfl dX8_card_80 ?_
        refine gt_X8_135 (pc := 81) X (xQ_lt (i := j) (by omega)) rfl dX8_card_81 ?_
        exact K dX8_card_84 ⟨by rw [e], O 0, by rw [e]; rfl, by rw [e]; exact xG.some (hk.ly (by omega) (by omega))⟩
      · skip
        have e : jCard (S 0) (nI i) (nI j) = (-4, none) := by unfold jCard; rw [if_neg e0, ti, tj, if_pos (bi_0.mp q25)]
        refine r_bipush (pc := 28) (v := (-4)) X rfl dX8_card_28 ?_
        exact K dX8_card_30 ⟨by rw [e], O 0, by rw [e]; rfl, by rw [e]; exact xG.none⟩
    · skip
      have e : jCard (S 0) k l = (-1, none) := if_pos (Or.inr (bi_0.mp q11))
      refine r_iconst (pc := 14) (v := (-1)) X rfl dX8_card_14 ?_
      exact K dX8_card_15 ⟨by rw [e], O 0, by rw [e]; rfl, by rw [e]; exact xG.none⟩

set_option maxHeartbeats 4000000 in
set_option maxRecDepth 100000 in
theorem c_X8_pass {G : bkG} {Z : Nat → Prop} {M : bkM} {x : Nat} {S O : Nat → Nat → Int32} {od : Nat → Nat} {kp : Int32} {t : Nat → Int32} {ln pc pl : Int32} {pf : Nat → Nat → Int32} {np : Nat} (hnp : np ≤ 4) (h0 : hOK od) {n : Nat} (hk : cOK (S 0) n (O 0)) (h : Int32) : bkCi G Z Z yX8_pass cX8_pass 3 (some .int) 5 0 0 [.ref x, .int h] (xW G x S O od (nI np) kp t ln pc pl pf M) (fun v M' => v = (jPass (S 0) n h).1 ∧ ∃ go, M' = xA G x S O od np kp t ln pc pl pf M go (jPass (S 0) n h).2 ∧ xG (jPass (S 0) n h).2 go) := by
  refine bk_meti [some (.ref x), some (.int h), none] rfl pf_X8_pass rfl rfl (fun E X K => ?_)
  refine r_aload_n (pc := 0) X rfl dX8_pass_0 ?_
  refine gt_X8_21 (pc := 1) X xW_o rfl dX8_pass_1 ?_
  refine r_iload_n (pc := 4) X rfl dX8_pass_4 ?_
  refine bkV.eq xW_b0 ?_
  refine ca_X8_138 (pc := 5) X (c_X6_passError h) sW_o rfl rfl rfl dX8_pass_5 (fun r5 M5 hp5 => ?_)
  obtain ⟨rfl, rfl⟩ := hp5
  refine bkV.eq xW_b0.symm ?_
  refine r_istore_n (pc := 8) X rfl rfl dX8_pass_8 ?_
  refine r_iload_n (pc := 9) X rfl dX8_pass_9 ?_
  refine r_if_eq (pc := 10) X 15 (by decide) dX8_pass_10 (fun q10 => ?_) (fun q10 => ?_)
  · skip
    have hb : 0 ≤ jbp (S 0) h := by rw [q10]; decide
    obtain ⟨hn, hh0, hh1, rfl⟩ := jbp_in hb
    have e : jPass (S 0) n (nI hn) = (nI (jpc 8 (jset (jwr (S 0) n hn) n)), some (jhrs (S 0) n hn)) := by unfold jPass; rw [if_pos hb, tn_nI (by omega)]
    refine r_aload_n (pc := 15) X rfl dX8_pass_15 ?_
    refine gt_X8_38 (pc := 16) X xW_o rfl dX8_pass_16 ?_
    refine r_aload_n (pc := 19) X rfl dX8_pass_19 ?_
    refine gt_X8_21 (pc := 20) X xW_o rfl dX8_pass_20 ?_
    refine ca_X8_53 (pc := 23) X (c_X1_record hnp h0) xW_h rfl rfl rfl dX8_pass_23 (fun M23 hp23 => ?_)
    obtain rfl := hp23
    refine r_aload_n (pc := 26) X rfl dX8_pass_26 ?_
    refine gt_X8_21 (pc := 27) X xW_o rfl dX8_pass_27 ?_
    refine r_iload_n (pc := 30) X rfl dX8_pass_30 ?_
    refine bkV.eq xR_b0 ?_
    refine ca_X8_141 (pc := 31) X (c_X6_passHours xW_bB (by omega) hk.2.1 hk.1 hk.2.2 hn (by omega)) sW_o rfl rfl rfl dX8_pass_31 (fun r31 M31 hp31 => ?_)
    obtain ⟨rfl, g2, rfl, hg2⟩ := hp31
    refine bkV.eq xW_s0 ?_
    exact K dX8_pass_34 ⟨by rw [e]; exact jwc_pc hk.1.1, g2, by rw [e]; rfl, by rw [e]; exact xG.some (hk.hrs hn hg2)⟩
  · skip
    have hb : ¬ 0 ≤ jbp (S 0) h := fun q => by rcases jbp_z (S 0) h with zz | zz; exact q10 zz; exact absurd q (Int32.not_le.mpr zz)
    have e : jPass (S 0) n h = (jbp (S 0) h, none) := if_neg hb
    refine r_iload_n (pc := 13) X rfl dX8_pass_13 ?_
    exact K dX8_pass_14 ⟨by rw [e], O 0, by rw [e]; rfl, by rw [e]; exact xG.none⟩

set_option maxHeartbeats 4000000 in
set_option maxRecDepth 100000 in
theorem c_X8_wage {G : bkG} {Z : Nat → Prop} {M : bkM} {x : Nat} {S O : Nat → Nat → Int32} {od : Nat → Nat} {kp : Int32} {t : Nat → Int32} {ln pc pl : Int32} {pf : Nat → Nat → Int32} {np : Nat} (hnp : np ≤ 4) (h0 : hOK od) {n : Nat} (hk : cOK (S 0) n (O 0)) (w : Int32) : bkCi G Z Z yX8_wage cX8_wage 3 (some .int) 5 0 0 [.ref x, .int w] (xW G x S O od (nI np) kp t ln pc pl pf M) (fun v M' => v = (jWage (S 0) w).1 ∧ ∃ go, M' = xA G x S O od np kp t ln pc pl pf M go (jWage (S 0) w).2 ∧ xG (jWage (S 0) w).2 go) := by
  refine bk_meti [some (.ref x), some (.int w), none] rfl pf_X8_wage rfl rfl (fun E X K => ?_)
  refine r_iload_n (pc := 0) X rfl dX8_wage_0 ?_
  refine r_if_lt (pc := 1) X 10 (by decide) dX8_wage_1 (fun q1 => ?_) (fun q1 => ?_)
  · skip
    have e : jWage (S 0) w = (-2, none) := if_pos (by unfold jin; rw [(decide_eq_false (Int32.not_le.mpr q1) : decide ((0 : Int32) ≤ w) = false)]; rfl)
    refine r_bipush (pc := 10) (v := (-2)) X rfl dX8_wage_10 ?_
    exact K dX8_wage_12 ⟨by rw [e], O 0, by rw [e]; rfl, by rw [e]; exact xG.none⟩
  · skip
    refine r_iload_n (pc := 4) X rfl dX8_wage_4 ?_
    refine r_bipush (pc := 5) (v := 9) X rfl dX8_wage_5 ?_
    refine r_icmp_le (pc := 7) X 13 (by decide) dX8_wage_7 (fun q7 => ?_) (fun q7 => ?_)
    · skip
      have hw : ¬ jin w 0 9 = false := by unfold jin; rw [(decide_eq_true (Int32.not_lt.mp q1) : decide ((0 : Int32) ≤ w) = true), (decide_eq_true q7 : decide (w ≤ (9 : Int32)) = true)]; decide
      refine r_aload_n (pc := 13) X rfl dX8_wage_13 ?_
      refine gt_X8_21 (pc := 14) X xW_o rfl dX8_wage_14 ?_
      refine gt_X8_144 (pc := 17) X xW_0o rfl dX8_wage_17 ?_
      refine r_istore_n (pc := 20) X rfl rfl dX8_wage_20 ?_
      refine r_iload_n (pc := 21) X rfl dX8_wage_21 ?_
      refine r_iload_n (pc := 22) X rfl dX8_wage_22 ?_
      refine r_icmp_ne (pc := 23) X 29 (by decide) dX8_wage_23 (fun q23 => ?_) (fun q23 => ?_)
      · skip
        have e : jWage (S 0) w = (S 0 182, some (upd (S 0) 182 w)) := (if_neg hw).trans (if_neg q23)
        refine r_aload_n (pc := 29) X rfl dX8_wage_29 ?_
        refine gt_X8_38 (pc := 30) X xW_o rfl dX8_wage_30 ?_
        refine r_aload_n (pc := 33) X rfl dX8_wage_33 ?_
        refine gt_X8_21 (pc := 34) X xW_o rfl dX8_wage_34 ?_
        refine ca_X8_53 (pc := 37) X (c_X1_record hnp h0) xW_h rfl rfl rfl dX8_wage_37 (fun M37 hp37 => ?_)
        obtain rfl := hp37
        refine r_aload_n (pc := 40) X rfl dX8_wage_40 ?_
        refine gt_X8_21 (pc := 41) X xW_o rfl dX8_wage_41 ?_
        refine r_iload_n (pc := 44) X rfl dX8_wage_44 ?_
        refine pt_X8_144 (pc := 45) X xR_o  rfl dX8_wage_45 ?_
        refine bkV.eq ((congrArg (fun z => bku _ _ (.inr (6, z))) sO_6).trans (xR_0 (fun M2 => sS_o (fun m _ hm => upd_n (fun q => hm (by rw [q]; exact jow_o (by omega))))))) ?_
        refine r_iload_n (pc := 48) X rfl dX8_wage_48 ?_
        exact K dX8_wage_49 ⟨by rw [e], O 0, by rw [e]; rfl, by rw [e]; exact xG.some hk.wage⟩
      · skip
        have e : jWage (S 0) w = (-5, none) := (if_neg hw).trans (if_pos q23)
        refine r_bipush (pc := 26) (v := (-5)) X rfl dX8_wage_26 ?_
        exact K dX8_wage_28 ⟨by rw [e], O 0, by rw [e]; rfl, by rw [e]; exact xG.none⟩
    · skip
      have e : jWage (S 0) w = (-2, none) := if_pos (by unfold jin; rw [(decide_eq_false q7 : decide (w ≤ (9 : Int32)) = false), Bool.and_false])
      refine r_bipush (pc := 10) (v := (-2)) X rfl dX8_wage_10 ?_
      exact K dX8_wage_12 ⟨by rw [e], O 0, by rw [e]; rfl, by rw [e]; exact xG.none⟩

set_option maxHeartbeats 4000000 in
set_option maxRecDepth 100000 in
theorem c_X8_type {G : bkG} {Z : Nat → Prop} {M : bkM} {x : Nat} {S O : Nat → Nat → Int32} {od : Nat → Nat} {kp : Int32} {t : Nat → Int32} {pc pl : Int32} {pf : Nat → Nat → Int32} {np len : Nat} (h60 : len ≤ 60) (v : Int32) : bkCi G Z Z yX8_type cX8_type 2 (some .int) 1 0 0 [.ref x, .int v] (xW G x S O od (nI np) kp t (nI len) pc pl pf M) (fun z M' => z = (if len = 60 then -3 else nI (len + 1)) ∧ M' = (if len = 60 then (xW G x S O od (nI np) kp t (nI len) pc pl pf M) else (xW G x S O od (nI np) kp (upd t len (vp_nar .char v)) (nI (len + 1)) pc pl pf M))) := by
  refine bk_meti [some (.ref x), some (.int v)] rfl pf_X8_type rfl rfl (fun E X K => ?_)
  refine r_aload_n (pc := 0) X rfl dX8_type_0 ?_
  refine gt_X8_45 (pc := 1) X xW_o rfl dX8_type_1 ?_
  refine r_iload_n (pc := 4) X rfl dX8_type_4 ?_
  refine bkV.eq xW_tx ?_
  refine ca_X8_147 (pc := 5) X (c_X7_append h60 v) tW_o rfl rfl rfl dX8_type_5 (fun r5 M5 hp5 => ?_)
  obtain ⟨rfl, ee⟩ := hp5
  exact K dX8_type_8 ⟨rfl, by rw [ee]; split; exact xW_tx.symm; exact xW_setT⟩

set_option maxHeartbeats 4000000 in
set_option maxRecDepth 100000 in
theorem c_X8_clearText {G : bkG} {Z : Nat → Prop} {M : bkM} {x : Nat} {S O : Nat → Nat → Int32} {od : Nat → Nat} {kp : Int32} {t : Nat → Int32} {ln pc pl : Int32} {pf : Nat → Nat → Int32} {np : Nat} : bkCi G Z Z yX8_clearText cX8_clearText 2 (some .int) 0 0 0 [.ref x] (xW G x S O od (nI np) kp t ln pc pl pf M) (fun z M' => z = ln ∧ M' = (xW G x S O od (nI np) kp t 0 pc pl pf M)) := by
  refine bk_meti [some (.ref x), none] rfl pf_X8_clearText rfl rfl (fun E X K => ?_)
  refine r_aload_n (pc := 0) X rfl dX8_clearText_0 ?_
  refine gt_X8_45 (pc := 1) X xW_o rfl dX8_clearText_1 ?_
  refine gt_X8_151 (pc := 4) X xW_t rfl dX8_clearText_4 ?_
  refine r_istore_n (pc := 7) X rfl rfl dX8_clearText_7 ?_
  refine r_aload_n (pc := 8) X rfl dX8_clearText_8 ?_
  refine gt_X8_45 (pc := 9) X xW_o rfl dX8_clearText_9 ?_
  refine r_iconst (pc := 12) (v := 0) X rfl dX8_clearText_12 ?_
  refine pt_X8_151 (pc := 13) X xW_t  rfl dX8_clearText_13 ?_
  refine bkV.eq (show bku _ _ _ = (xW G x S O od (nI np) kp t 0 pc pl pf M) from xS_t) ?_
  refine r_iload_n (pc := 16) X rfl dX8_clearText_16 ?_
  exact K dX8_clearText_17 ⟨rfl, rfl⟩

set_option maxHeartbeats 4000000 in
set_option maxRecDepth 100000 in
theorem c_X8_fault {G : bkG} {Z : Nat → Prop} {M : bkM} {x : Nat} {S O : Nat → Nat → Int32} {od : Nat → Nat} {kp : Int32} {t : Nat → Int32} {pc pl : Int32} {pf : Nat → Nat → Int32} {np len : Nat} (h60 : len ≤ 60) (ht : tOK t) : bkCi G Z Z yX8_fault cX8_fault 1 (some .int) 6 0 0 [.ref x] (xW G x S O od (nI np) kp t (nI len) pc pl pf M) (fun z M' => z = jfault t len ∧ ∃ pc' pl' pf', M' = (xW G x S O od (nI np) kp t (nI len) pc' pl' pf' M)) := by
  refine bk_meti [some (.ref x)] rfl pf_X8_fault rfl rfl (fun E X K => ?_)
  refine r_aload_n (pc := 0) X rfl dX8_fault_0 ?_
  refine gt_X8_45 (pc := 1) X xW_o rfl dX8_fault_1 ?_
  refine bkV.eq xW_tx ?_
  refine ca_X8_98 (pc := 4) X (c_X7_read h60 ht) tW_o rfl rfl rfl dX8_fault_4 (fun r4 M4 hp4 => ?_)
  obtain ⟨rfl, pc2, pl2, pf2, rfl, -⟩ := hp4
  exact K dX8_fault_7 ⟨rfl, pc2, pl2, pf2, xW_setT⟩

set_option maxHeartbeats 4000000 in
set_option maxRecDepth 100000 in
theorem c_X8_undo {G : bkG} {Z : Nat → Prop} {M : bkM} {x : Nat} {S O : Nat → Nat → Int32} {od : Nat → Nat} {kp : Int32} {t : Nat → Int32} {ln pc pl : Int32} {pf : Nat → Nat → Int32} {np : Nat} (hnp : np ≤ 4) (h0 : hOK od) : bkCi G Z Z yX8_undo cX8_undo 1 (some .int) 4 0 0 [.ref x] (xW G x S O od (nI np) kp t ln pc pl pf M) (fun v M' => v = (if np = 0 then -5 else nI (np - 1)) ∧ M' = (if np = 0 then (xW G x S O od (nI np) kp t ln pc pl pf M) else (xW G x (pfu S 0 (S (od (np - 1)))) (pfu O 0 (jgm (O 0) (O (od (np - 1))))) od (nI (np - 1)) kp t ln pc pl pf M))) := by
  refine bk_meti [some (.ref x)] rfl pf_X8_undo rfl rfl (fun E X K => ?_)
  refine r_aload_n (pc := 0) X rfl dX8_undo_0 ?_
  refine gt_X8_38 (pc := 1) X xW_o rfl dX8_undo_1 ?_
  refine r_aload_n (pc := 4) X rfl dX8_undo_4 ?_
  refine gt_X8_21 (pc := 5) X xW_o rfl dX8_undo_5 ?_
  refine ca_X8_154 (pc := 8) X (c_X1_takeBack hnp h0) xW_h rfl rfl rfl dX8_undo_8 (fun r8 M8 hp8 => ?_)
  obtain ⟨rfl, rfl⟩ := hp8
  exact K dX8_undo_11 ⟨rfl, rfl⟩

set_option maxHeartbeats 4000000 in
set_option maxRecDepth 100000 in
theorem c_X8_keep {G : bkG} {Z : Nat → Prop} {M : bkM} {x : Nat} {S O : Nat → Nat → Int32} {od : Nat → Nat} {sz kp : Int32} {t : Nat → Int32} {ln pc pl : Int32} {pf : Nat → Nat → Int32} : bkCi G Z Z yX8_keep cX8_keep 1 (some .int) 3 0 0 [.ref x] (xW G x S O od sz kp t ln pc pl pf M) (fun v M' => v = S 0 181 ∧ M' = (xW G x (pfu S 2 (S 0)) (pfu O 2 (jgm (O 2) (O 0))) od sz 1 t ln pc pl pf M)) := by
  refine bk_meti [some (.ref x)] rfl pf_X8_keep rfl rfl (fun E X K => ?_)
  refine r_aload_n (pc := 0) X rfl dX8_keep_0 ?_
  refine gt_X8_28 (pc := 1) X xW_o rfl dX8_keep_1 ?_
  refine r_aload_n (pc := 4) X rfl dX8_keep_4 ?_
  refine gt_X8_21 (pc := 5) X xW_o rfl dX8_keep_5 ?_
  refine ca_X8_101 (pc := 8) X (c_x_copy (k := 2) (j := 0) (by decide) (by decide) (by decide)) (xW_in0 (k := 2) (by decide)) rfl rfl rfl dX8_keep_8 (fun M8 hp8 => ?_)
  obtain rfl := hp8
  refine bkV.eq (xW_cp (by decide) (by decide)) ?_
  refine r_aload_n (pc := 11) X rfl dX8_keep_11 ?_
  refine r_iconst (pc := 12) (v := 1) X rfl dX8_keep_12 ?_
  refine pt_X8_31 (pc := 13) X xW_o (Or.inr rfl) rfl dX8_keep_13 ?_
  refine bkV.eq xS_o ?_
  refine r_aload_n (pc := 16) X rfl dX8_keep_16 ?_
  refine gt_X8_21 (pc := 17) X xW_o rfl dX8_keep_17 ?_
  refine gt_X8_77 (pc := 20) X xW_0o rfl dX8_keep_20 ?_
  exact K dX8_keep_23 ⟨rfl, rfl⟩

set_option maxHeartbeats 4000000 in
set_option maxRecDepth 100000 in
theorem c_X8_restore {G : bkG} {Z : Nat → Prop} {M : bkM} {x : Nat} {S O : Nat → Nat → Int32} {od : Nat → Nat} {kp : Int32} {t : Nat → Int32} {ln pc pl : Int32} {pf : Nat → Nat → Int32} {np : Nat} (hnp : np ≤ 4) (h0 : hOK od) (hq : ¬ kp = 0 → ∃ m, cOK (S 2) m (O 2)) : bkCi G Z Z yX8_restore cX8_restore 1 (some .int) 5 0 0 [.ref x] (xW G x S O od (nI np) kp t ln pc pl pf M) (fun v M' => v = (jRest (S 2) kp).1 ∧ ∃ go, M' = xA G x S O od np kp t ln pc pl pf M go (jRest (S 2) kp).2 ∧ xG (jRest (S 2) kp).2 go) := by
  refine bk_meti [some (.ref x)] rfl pf_X8_restore rfl rfl (fun E X K => ?_)
  refine r_aload_n (pc := 0) X rfl dX8_restore_0 ?_
  refine gt_X8_31 (pc := 1) X xW_o rfl dX8_restore_1 ?_
  refine r_if_ne (pc := 4) X 10 (by decide) dX8_restore_4 (fun q4 => ?_) (fun q4 => ?_)
  · skip
    have e : jRest (S 2) kp = (S 2 181, some (S 2)) := if_neg q4
    have hb2 : 2 ≠ jbk od np := by have h3 := (h0.od np (jrn np - 1) (by have := jrn_rng hnp; omega)).1; unfold jbk; omega
    refine r_aload_n (pc := 10) X rfl dX8_restore_10 ?_
    refine gt_X8_38 (pc := 11) X xW_o rfl dX8_restore_11 ?_
    refine r_aload_n (pc := 14) X rfl dX8_restore_14 ?_
    refine gt_X8_21 (pc := 15) X xW_o rfl dX8_restore_15 ?_
    refine ca_X8_53 (pc := 18) X (c_X1_record hnp h0) xW_h rfl rfl rfl dX8_restore_18 (fun M18 hp18 => ?_)
    obtain rfl := hp18
    refine r_aload_n (pc := 21) X rfl dX8_restore_21 ?_
    refine gt_X8_21 (pc := 22) X xW_o rfl dX8_restore_22 ?_
    refine r_aload_n (pc := 25) X rfl dX8_restore_25 ?_
    refine gt_X8_28 (pc := 26) X xW_o rfl dX8_restore_26 ?_
    refine ca_X8_101 (pc := 29) X (c_x_copy (k := 0) (j := 2) (by decide) (by decide) (by decide)) (xW_in0 (k := 0) (by decide)) rfl rfl rfl dX8_restore_29 (fun M29 hp29 => ?_)
    obtain rfl := hp29
    refine bkV.eq (xW_cp (by decide) (by decide)) ?_
    rw [pfu_ne hb2, pfu_ne hb2]
    refine r_aload_n (pc := 32) X rfl dX8_restore_32 ?_
    refine gt_X8_21 (pc := 33) X xW_o rfl dX8_restore_33 ?_
    refine gt_X8_77 (pc := 36) X xW_0o rfl dX8_restore_36 ?_
    exact K dX8_restore_39 ⟨by rw [e]; rfl, _, by rw [e]; rfl, by rw [e]; obtain ⟨m, hm⟩ := hq q4; exact xG.some hm.m⟩
  · skip
    have e : jRest (S 2) kp = (-5, none) := if_pos q4
    refine r_bipush (pc := 7) (v := (-5)) X rfl dX8_restore_7 ?_
    exact K dX8_restore_9 ⟨by rw [e], O 2, by rw [e]; rfl, by rw [e]; exact xG.none⟩

