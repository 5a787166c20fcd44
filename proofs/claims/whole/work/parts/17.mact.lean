set_option maxHeartbeats 4000000 in
set_option maxRecDepth 100000 in
theorem c_X9_rock {G : bkG} {Z : Nat → Prop} {M : bkM} {r : Nat} {s a p q t o f : Nat → Int32} {np : Nat} (hnp : np ≤ 4) (hf : f 3 = nI np) (c : Int32) : bkCi G Z Z yX9_rock cX9_rock 3 (some .int) 3 0 0 [.ref r, .int c] (mW G M r s a p q t o f) (fun v M' => v = (jRock s c).1 ∧ ∃ o', M' = mAct G M r s a p q t o' f np (jRock s c).2) := by
  refine bk_meti [some (.ref r), some (.int c), none] rfl pf_X9_rock rfl rfl (fun E X K => ?_)
  refine r_iload_n (pc := 0) X rfl dX9_rock_0 ?_
  refine ca_X9_84 (pc := 1) X (c_X9_barRock c) rfl rfl rfl dX9_rock_1 (fun r1 M1 hp1 => ?_)
  obtain ⟨rfl, rfl⟩ := hp1
  refine r_istore_n (pc := 4) X rfl rfl dX9_rock_4 ?_
  refine r_iload_n (pc := 5) X rfl dX9_rock_5 ?_
  refine r_if_ge (pc := 6) X 11 (by decide) dX9_rock_6 (fun q6 => ?_) (fun q6 => ?_)
  · skip
    obtain ⟨cn, hcn, rfl⟩ := jbr_in q6
    have tcn : tn (nI cn) = cn := tn_nI (by omega)
    have e : jRock s (nI cn) = (jsm (upd s cn (1 - s cn)) 100, some (upd s cn (1 - s cn))) := by unfold jRock; rw [if_pos q6, tcn]
    refine r_aload_n (pc := 11) X rfl dX9_rock_11 ?_
    refine ca_X9_87 (pc := 12) X (c_X9_records hnp hf) mW_0 rfl rfl rfl dX9_rock_12 (fun M12 hp12 => ?_)
    obtain rfl := hp12
    refine r_aload_n (pc := 15) X rfl dX9_rock_15 ?_
    refine gt_X9_7 (pc := 16) X mW_0 rfl dX9_rock_16 ?_
    refine r_iconst (pc := 19) (v := 0) X rfl dX9_rock_19 ?_
    refine r_iload_n (pc := 20) X rfl dX9_rock_20 ?_
    refine r_iadd (pc := 21) X dX9_rock_21 ?_
    refine r_iconst (pc := 22) (v := 1) X rfl dX9_rock_22 ?_
    refine r_aload_n (pc := 23) X rfl dX9_rock_23 ?_
    refine gt_X9_7 (pc := 24) X mW_0 rfl dX9_rock_24 ?_
    refine r_iconst (pc := 27) (v := 0) X rfl dX9_rock_27 ?_
    refine r_iload_n (pc := 28) X rfl dX9_rock_28 ?_
    refine r_iadd (pc := 29) X dX9_rock_29 ?_
    refine r_iald (pc := 30) X mW_1 (cn) (Int32.zero_add _) (by omega) (by decide) dX9_rock_30 ?_
    refine r_isub (pc := 31) X dX9_rock_31 ?_
    refine r_iast (pc := 32) X mW_1 (cn) (Int32.zero_add _) (by omega) (by decide) dX9_rock_32 ?_
    refine bkV.eq mS_1 ?_
    refine r_aload_n (pc := 33) X rfl dX9_rock_33 ?_
    refine ca_X9_90 (pc := 34) X (c_X9_rocks) mW_0 rfl rfl rfl dX9_rock_34 (fun r34 M34 hp34 => ?_)
    obtain ⟨rfl, rfl⟩ := hp34
    exact K dX9_rock_37 ⟨by rw [e], o, by rw [e]; rfl⟩
  · skip
    have e : jRock s c = (jbr c, none) := if_neg q6
    refine r_iload_n (pc := 9) X rfl dX9_rock_9 ?_
    exact K dX9_rock_10 ⟨by rw [e], o, by rw [e]; rfl⟩

theorem jfit_in {w v : Int32} (h : jfit w v = true) : ∃ j, j ≤ 3 ∧ w = nI j := by
  rcases tb_case 3 (by decide) w with ⟨k, hk, e⟩ | ⟨-, hne⟩
  · exact ⟨k, hk, e⟩
  · have h0 : w ≠ 0 := hne 0 (by omega)
    have h1 : w ≠ 1 := hne 1 (by omega)
    have h2 : w ≠ 2 := hne 2 (by omega)
    have h3 : w ≠ 3 := hne 3 (by omega)
    exact absurd h (by grind [jfit])
set_option maxHeartbeats 4000000 in
set_option maxRecDepth 100000 in
theorem c_X9_light {G : bkG} {Z : Nat → Prop} {M : bkM} {r : Nat} {s a p q t o f : Nat → Int32} {np : Nat} (hnp : np ≤ 4) (hf : f 3 = nI np) (l w x : Int32) : bkCi G Z Z yX9_light cX9_light 5 (some .int) 3 0 0 [.ref r, .int l, .int w, .int x] (mW G M r s a p q t o f) (fun v M' => v = (jLight s l w x).1 ∧ ∃ o', M' = mAct G M r s a p q t o' f np (jLight s l w x).2) := by
  refine bk_meti [some (.ref r), some (.int l), some (.int w), some (.int x), none] rfl pf_X9_light rfl rfl (fun E X K => ?_)
  refine r_iload_n (pc := 0) X rfl dX9_light_0 ?_
  refine ca_X9_94 (pc := 1) X (c_X9_isLight l) rfl rfl rfl dX9_light_1 (fun r1 M1 hp1 => ?_)
  obtain ⟨rfl, rfl⟩ := hp1
  refine r_if_ne (pc := 4) X 9 (by decide) dX9_light_4 (fun q4 => ?_) (fun q4 => ?_)
  · skip
    obtain ⟨ln, hln, rfl⟩ := jin_of (n := 3) rfl (by decide) (bi_n0.mp q4)
    have tln : tn (nI ln) = ln := tn_nI (by omega)
    refine r_iload_n (pc := 9) X rfl dX9_light_9 ?_
    refine r_iload_n (pc := 10) X rfl dX9_light_10 ?_
    refine ca_X9_97 (pc := 11) X (c_X9_fits w x) rfl rfl rfl dX9_light_11 (fun r11 M11 hp11 => ?_)
    obtain ⟨rfl, rfl⟩ := hp11
    refine r_if_ne (pc := 14) X 20 (by decide) dX9_light_14 (fun q14 => ?_) (fun q14 => ?_)
    · skip
      obtain ⟨wn, hwn, rfl⟩ : ∃ j, j ≤ 3 ∧ w = nI j := jfit_in (bi_n0.mp q14)
      have twn : tn (nI wn) = wn := tn_nI (by omega)
      refine r_aload_n (pc := 20) X rfl dX9_light_20 ?_
      refine gt_X9_7 (pc := 21) X mW_0 rfl dX9_light_21 ?_
      refine r_iload_n (pc := 24) X rfl dX9_light_24 ?_
      refine r_iload_n (pc := 25) X rfl dX9_light_25 ?_
      refine ca_X9_29 (pc := 26) X (c_X9_ofL ln wn) rfl rfl rfl dX9_light_26 (fun r26 M26 hp26 => ?_)
      obtain ⟨rfl, rfl⟩ := hp26
      refine r_iald (pc := 29) X mW_1 (100 + 5 * ln + wn) rfl (by omega) (by decide) dX9_light_29 ?_
      refine r_istore (pc := 30) X rfl rfl dX9_light_30 ?_
      refine r_iload (pc := 32) X rfl dX9_light_32 ?_
      refine r_iload_n (pc := 34) X rfl dX9_light_34 ?_
      refine r_icmp_ne (pc := 35) X 41 (by decide) dX9_light_35 (fun q35 => ?_) (fun q35 => ?_)
      · skip
        have e : jLight s (nI ln) (nI wn) x = (s (100 + 5 * ln + wn), some (upd s (100 + 5 * ln + wn) x)) := by unfold jLight; rw [if_neg (by rw [bi_n0.mp q4]; decide), if_neg (by rw [bi_n0.mp q14]; decide), tln, twn, if_neg q35]
        refine r_aload_n (pc := 41) X rfl dX9_light_41 ?_
        refine ca_X9_87 (pc := 42) X (c_X9_records hnp hf) mW_0 rfl rfl rfl dX9_light_42 (fun M42 hp42 => ?_)
        obtain rfl := hp42
        refine r_aload_n (pc := 45) X rfl dX9_light_45 ?_
        refine gt_X9_7 (pc := 46) X mW_0 rfl dX9_light_46 ?_
        refine r_iload_n (pc := 49) X rfl dX9_light_49 ?_
        refine r_iload_n (pc := 50) X rfl dX9_light_50 ?_
        refine ca_X9_29 (pc := 51) X (c_X9_ofL ln wn) rfl rfl rfl dX9_light_51 (fun r51 M51 hp51 => ?_)
        obtain ⟨rfl, rfl⟩ := hp51
        refine r_iload_n (pc := 54) X rfl dX9_light_54 ?_
        refine r_iast (pc := 55) X mW_1 (100 + 5 * ln + wn) rfl (by omega) (by decide) dX9_light_55 ?_
        refine bkV.eq mS_1 ?_
        refine r_iload (pc := 56) X rfl dX9_light_56 ?_
        exact K dX9_light_58 ⟨by rw [e], o, by rw [e]; rfl⟩
      · skip
        have e : jLight s (nI ln) (nI wn) x = (-5, none) := by unfold jLight; rw [if_neg (by rw [bi_n0.mp q4]; decide), if_neg (by rw [bi_n0.mp q14]; decide), tln, twn, if_pos q35]
        refine r_bipush (pc := 38) (v := (-5)) X rfl dX9_light_38 ?_
        exact K dX9_light_40 ⟨by rw [e], o, by rw [e]; rfl⟩
    · skip
      have e : jLight s (nI ln) w x = (-2, none) := by unfold jLight; rw [if_neg (by rw [bi_n0.mp q4]; decide), if_pos (bi_0.mp q14)]
      refine r_bipush (pc := 17) (v := (-2)) X rfl dX9_light_17 ?_
      exact K dX9_light_19 ⟨by rw [e], o, by rw [e]; rfl⟩
  · skip
    have e : jLight s l w x = (-1, none) := if_pos (bi_0.mp q4)
    refine r_iconst (pc := 7) (v := (-1)) X rfl dX9_light_7 ?_
    exact K dX9_light_8 ⟨by rw [e], o, by rw [e]; rfl⟩

set_option maxHeartbeats 4000000 in
set_option maxRecDepth 100000 in
theorem c_X9_ship {G : bkG} {Z : Nat → Prop} {M : bkM} {r : Nat} {s a p q t o f : Nat → Int32} {np : Nat} (hnp : np ≤ 4) (hf : f 3 = nI np) {n : Nat} (hw : jwf s n) (w c h : Int32) : bkCi G Z Z yX9_ship cX9_ship 5 (some .int) 3 0 0 [.ref r, .int w, .int c, .int h] (mW G M r s a p q t o f) (fun v M' => v = (jShip s n w c h).1 ∧ ∃ o', M' = mAct G M r s a p q t o' f np (jShip s n w c h).2) := by
  refine bk_meti [some (.ref r), some (.int w), some (.int c), some (.int h), none] rfl pf_X9_ship rfl rfl (fun E X K => ?_)
  refine r_aload_n (pc := 0) X rfl dX9_ship_0 ?_
  refine r_iload_n (pc := 1) X rfl dX9_ship_1 ?_
  refine r_iload_n (pc := 2) X rfl dX9_ship_2 ?_
  refine r_iload_n (pc := 3) X rfl dX9_ship_3 ?_
  refine ca_X9_106 (pc := 4) X (c_X9_barShip hw.1 hw.2.1 w c h) mW_0 rfl rfl rfl dX9_ship_4 (fun r4 M4 hp4 => ?_)
  obtain ⟨rfl, rfl⟩ := hp4
  refine r_istore (pc := 7) X rfl rfl dX9_ship_7 ?_
  refine r_iload (pc := 9) X rfl dX9_ship_9 ?_
  refine r_if_ge (pc := 11) X 17 (by decide) dX9_ship_11 (fun q11 => ?_) (fun q11 => ?_)
  · skip
    have hj := jbs_in q11
    have hn8 : n < 8 := by
      rcases Nat.lt_or_ge n 8 with z | z
      · exact z
      · exact absurd (by rw [hw.2.1, show n = 8 by have := hw.1; omega]; rfl) hj.2.2.2.2.2.2.2
    have e : jShip s n w c h = (nI n, some (jcm s n w c h)) := if_pos q11
    refine r_aload_n (pc := 17) X rfl dX9_ship_17 ?_
    refine ca_X9_87 (pc := 18) X (c_X9_records hnp hf) mW_0 rfl rfl rfl dX9_ship_18 (fun M18 hp18 => ?_)
    obtain rfl := hp18
    refine r_aload_n (pc := 21) X rfl dX9_ship_21 ?_
    refine r_iload_n (pc := 22) X rfl dX9_ship_22 ?_
    refine r_iload_n (pc := 23) X rfl dX9_ship_23 ?_
    refine r_iload_n (pc := 24) X rfl dX9_ship_24 ?_
    refine ca_X9_110 (pc := 25) X (c_X9_comes hn8 hw.2.1 w c h) mW_0 rfl rfl rfl dX9_ship_25 (fun r25 M25 hp25 => ?_)
    obtain ⟨rfl, rfl⟩ := hp25
    exact K dX9_ship_28 ⟨by rw [e], o, by rw [e]; rfl⟩
  · skip
    have e : jShip s n w c h = (jbs s n w c h, none) := if_neg q11
    refine r_iload (pc := 14) X rfl dX9_ship_14 ?_
    exact K dX9_ship_16 ⟨by rw [e], o, by rw [e]; rfl⟩

set_option maxHeartbeats 4000000 in
set_option maxRecDepth 100000 in
theorem c_X9_card {G : bkG} {Z : Nat → Prop} {M : bkM} {r : Nat} {s a p q t o f : Nat → Int32} {np : Nat} (hnp : np ≤ 4) (hf : f 3 = nI np) (k l : Int32) : bkCi G Z Z yX9_card cX9_card 3 (some .int) 2 0 0 [.ref r, .int k, .int l] (mW G M r s a p q t o f) (fun v M' => v = (jCard s k l).1 ∧ ∃ o', M' = mAct G M r s a p q t o' f np (jCard s k l).2) := by
  refine bk_meti [some (.ref r), some (.int k), some (.int l)] rfl pf_X9_card rfl rfl (fun E X K => ?_)
  refine r_iload_n (pc := 0) X rfl dX9_card_0 ?_
  refine ca_X9_94 (pc := 1) X (c_X9_isLight k) rfl rfl rfl dX9_card_1 (fun r1 M1 hp1 => ?_)
  obtain ⟨rfl, rfl⟩ := hp1
  refine r_if_eq (pc := 4) X 14 (by decide) dX9_card_4 (fun q4 => ?_) (fun q4 => ?_)
  · skip
    have e : jCard s k l = (-1, none) := if_pos (Or.inl (bi_0.mp q4))
    refine r_iconst (pc := 14) (v := (-1)) X rfl dX9_card_14 ?_
    exact K dX9_card_15 ⟨by rw [e], o, by rw [e]; rfl⟩
  · skip
    refine r_iload_n (pc := 7) X rfl dX9_card_7 ?_
    refine ca_X9_94 (pc := 8) X (c_X9_isLight l) rfl rfl rfl dX9_card_8 (fun r8 M8 hp8 => ?_)
    obtain ⟨rfl, rfl⟩ := hp8
    refine r_if_ne (pc := 11) X 16 (by decide) dX9_card_11 (fun q11 => ?_) (fun q11 => ?_)
    · skip
      obtain ⟨kn, hkn, rfl⟩ := jin_of (n := 3) rfl (by decide) (bi_n0.mp q4)
      have tkn : tn (nI kn) = kn := tn_nI (by omega)
      obtain ⟨ln, hln, rfl⟩ := jin_of (n := 3) rfl (by decide) (bi_n0.mp q11)
      have tln : tn (nI ln) = ln := tn_nI (by omega)
      refine r_aload_n (pc := 16) X rfl dX9_card_16 ?_
      refine r_iload_n (pc := 17) X rfl dX9_card_17 ?_
      refine r_iload_n (pc := 18) X rfl dX9_card_18 ?_
      refine ca_X9_144 (pc := 19) X (c_X9_canLay kn ln (by omega) (by omega)) mW_0 rfl rfl rfl dX9_card_19 (fun r19 M19 hp19 => ?_)
      obtain ⟨rfl, rfl⟩ := hp19
      refine r_if_ne (pc := 22) X 28 (by decide) dX9_card_22 (fun q22 => ?_) (fun q22 => ?_)
      · skip
        have e : jCard s (nI kn) (nI ln) = (jly s kn ln (100 + 5 * ln + 4), some (jly s kn ln)) := by unfold jCard; rw [if_neg (by rw [bi_n0.mp q4, bi_n0.mp q11]; decide), tkn, tln, if_neg (by rw [bi_n0.mp q22]; decide)]
        refine r_aload_n (pc := 28) X rfl dX9_card_28 ?_
        refine ca_X9_87 (pc := 29) X (c_X9_records hnp hf) mW_0 rfl rfl rfl dX9_card_29 (fun M29 hp29 => ?_)
        obtain rfl := hp29
        refine r_aload_n (pc := 32) X rfl dX9_card_32 ?_
        refine r_iload_n (pc := 33) X rfl dX9_card_33 ?_
        refine r_iload_n (pc := 34) X rfl dX9_card_34 ?_
        refine ca_X9_147 (pc := 35) X (c_X9_lays kn ln (by omega) (by omega)) mW_0 rfl rfl rfl dX9_card_35 (fun M35 hp35 => ?_)
        obtain rfl := hp35
        refine r_aload_n (pc := 38) X rfl dX9_card_38 ?_
        refine gt_X9_7 (pc := 39) X mW_0 rfl dX9_card_39 ?_
        refine r_iload_n (pc := 42) X rfl dX9_card_42 ?_
        refine r_iconst (pc := 43) (v := 4) X rfl dX9_card_43 ?_
        refine ca_X9_29 (pc := 44) X (c_X9_ofL ln 4) rfl rfl rfl dX9_card_44 (fun r44 M44 hp44 => ?_)
        obtain ⟨rfl, rfl⟩ := hp44
        refine r_iald (pc := 47) X mW_1 (100 + 5 * ln + 4) rfl (by omega) (by decide) dX9_card_47 ?_
        exact K dX9_card_48 ⟨by rw [e], o, by rw [e]; rfl⟩
      · skip
        have e : jCard s (nI kn) (nI ln) = (-4, none) := by unfold jCard; rw [if_neg (by rw [bi_n0.mp q4, bi_n0.mp q11]; decide), tkn, tln, if_pos (bi_0.mp q22)]
        refine r_bipush (pc := 25) (v := (-4)) X rfl dX9_card_25 ?_
        exact K dX9_card_27 ⟨by rw [e], o, by rw [e]; rfl⟩
    · skip
      have e : jCard s k l = (-1, none) := if_pos (Or.inr (bi_0.mp q11))
      refine r_iconst (pc := 14) (v := (-1)) X rfl dX9_card_14 ?_
      exact K dX9_card_15 ⟨by rw [e], o, by rw [e]; rfl⟩

set_option maxHeartbeats 4000000 in
set_option maxRecDepth 100000 in
theorem c_X9_pass {G : bkG} {Z : Nat → Prop} {M : bkM} {r : Nat} {s a p q t o f : Nat → Int32} {np : Nat} (hnp : np ≤ 4) (hf : f 3 = nI np) {n : Nat} (hw : jwf s n) (h : Int32) : bkCi G Z Z yX9_pass cX9_pass 3 (some .int) 8 0 0 [.ref r, .int h] (mW G M r s a p q t o f) (fun v M' => v = (jPass s n h).1 ∧ ∃ o', M' = mAct G M r s a p q t o' f np (jPass s n h).2) := by
  refine bk_meti [some (.ref r), some (.int h), none] rfl pf_X9_pass rfl rfl (fun E X K => ?_)
  refine r_aload_n (pc := 0) X rfl dX9_pass_0 ?_
  refine r_iload_n (pc := 1) X rfl dX9_pass_1 ?_
  refine ca_X9_135 (pc := 2) X (c_X9_barPass h) mW_0 rfl rfl rfl dX9_pass_2 (fun r2 M2 hp2 => ?_)
  obtain ⟨rfl, rfl⟩ := hp2
  refine r_istore_n (pc := 5) X rfl rfl dX9_pass_5 ?_
  refine r_iload_n (pc := 6) X rfl dX9_pass_6 ?_
  refine r_if_ge (pc := 7) X 12 (by decide) dX9_pass_7 (fun q7 => ?_) (fun q7 => ?_)
  · skip
    obtain ⟨hn, h1, h2, rfl⟩ := jbp_in q7
    have thn : tn (nI hn) = hn := tn_nI (by omega)
    have e : jPass s n (nI hn) = (nI (jpc 8 (jset (jwr s n hn) n)), some (jhrs s n hn)) := by unfold jPass; rw [if_pos q7, thn]
    refine r_aload_n (pc := 12) X rfl dX9_pass_12 ?_
    refine ca_X9_87 (pc := 13) X (c_X9_records hnp hf) mW_0 rfl rfl rfl dX9_pass_13 (fun M13 hp13 => ?_)
    obtain rfl := hp13
    refine r_aload_n (pc := 16) X rfl dX9_pass_16 ?_
    refine r_iload_n (pc := 17) X rfl dX9_pass_17 ?_
    refine ca_X9_138 (pc := 18) X (c_X9_passes hw hn (by omega)) mW_0 rfl rfl rfl dX9_pass_18 (fun r18 M18 hp18 => ?_)
    obtain ⟨rfl, o2, rfl⟩ := hp18
    refine ca_X9_141 (pc := 21) X (c_X9_many (jset (jwr s n hn) n) (jset_256 _ hw.1)) rfl rfl rfl dX9_pass_21 (fun r21 M21 hp21 => ?_)
    obtain ⟨rfl, rfl⟩ := hp21
    exact K dX9_pass_24 ⟨by rw [e], o2, by rw [e]; rfl⟩
  · skip
    have e : jPass s n h = (jbp s h, none) := if_neg q7
    refine r_iload_n (pc := 10) X rfl dX9_pass_10 ?_
    exact K dX9_pass_11 ⟨by rw [e], o, by rw [e]; rfl⟩

set_option maxHeartbeats 4000000 in
set_option maxRecDepth 100000 in
theorem c_X9_wage {G : bkG} {Z : Nat → Prop} {M : bkM} {r : Nat} {s a p q t o f : Nat → Int32} {np : Nat} (hnp : np ≤ 4) (hf : f 3 = nI np) (w : Int32) : bkCi G Z Z yX9_wage cX9_wage 3 (some .int) 1 0 0 [.ref r, .int w] (mW G M r s a p q t o f) (fun v M' => v = (jWage s w).1 ∧ ∃ o', M' = mAct G M r s a p q t o' f np (jWage s w).2) := by
  refine bk_meti [some (.ref r), some (.int w), none] rfl pf_X9_wage rfl rfl (fun E X K => ?_)
  refine r_iload_n (pc := 0) X rfl dX9_wage_0 ?_
  refine r_iconst (pc := 1) (v := 0) X rfl dX9_wage_1 ?_
  refine r_bipush (pc := 2) (v := 9) X rfl dX9_wage_2 ?_
  refine ca_X9_36 (pc := 4) X (c_X9_in w 0 9) rfl rfl rfl dX9_wage_4 (fun r4 M4 hp4 => ?_)
  obtain ⟨rfl, rfl⟩ := hp4
  refine r_if_ne (pc := 7) X 13 (by decide) dX9_wage_7 (fun q7 => ?_) (fun q7 => ?_)
  · skip
    refine r_aload_n (pc := 13) X rfl dX9_wage_13 ?_
    refine gt_X9_7 (pc := 14) X mW_0 rfl dX9_wage_14 ?_
    refine r_sipush (pc := 17) (v := 182) X rfl dX9_wage_17 ?_
    refine r_iald (pc := 20) X mW_1 (182) rfl (by omega) (by decide) dX9_wage_20 ?_
    refine r_iload_n (pc := 21) X rfl dX9_wage_21 ?_
    refine r_icmp_ne (pc := 22) X 28 (by decide) dX9_wage_22 (fun q22 => ?_) (fun q22 => ?_)
    · skip
      have e : jWage s w = (s 182, some (upd s 182 w)) := by unfold jWage; rw [if_neg (by rw [bi_n0.mp q7]; decide), if_neg q22]
      refine r_aload_n (pc := 28) X rfl dX9_wage_28 ?_
      refine ca_X9_87 (pc := 29) X (c_X9_records hnp hf) mW_0 rfl rfl rfl dX9_wage_29 (fun M29 hp29 => ?_)
      obtain rfl := hp29
      refine r_aload_n (pc := 32) X rfl dX9_wage_32 ?_
      refine gt_X9_7 (pc := 33) X mW_0 rfl dX9_wage_33 ?_
      refine r_sipush (pc := 36) (v := 182) X rfl dX9_wage_36 ?_
      refine r_iald (pc := 39) X mW_1 (182) rfl (by omega) (by decide) dX9_wage_39 ?_
      refine r_istore_n (pc := 40) X rfl rfl dX9_wage_40 ?_
      refine r_aload_n (pc := 41) X rfl dX9_wage_41 ?_
      refine gt_X9_7 (pc := 42) X mW_0 rfl dX9_wage_42 ?_
      refine r_sipush (pc := 45) (v := 182) X rfl dX9_wage_45 ?_
      refine r_iload_n (pc := 48) X rfl dX9_wage_48 ?_
      refine r_iast (pc := 49) X mW_1 (182) rfl (by omega) (by decide) dX9_wage_49 ?_
      refine bkV.eq mS_1 ?_
      refine r_iload_n (pc := 50) X rfl dX9_wage_50 ?_
      exact K dX9_wage_51 ⟨by rw [e], o, by rw [e]; rfl⟩
    · skip
      have e : jWage s w = (-5, none) := by unfold jWage; rw [if_neg (by rw [bi_n0.mp q7]; decide), if_pos q22]
      refine r_bipush (pc := 25) (v := (-5)) X rfl dX9_wage_25 ?_
      exact K dX9_wage_27 ⟨by rw [e], o, by rw [e]; rfl⟩
  · skip
    have e : jWage s w = (-2, none) := if_pos (bi_0.mp q7)
    refine r_bipush (pc := 10) (v := (-2)) X rfl dX9_wage_10 ?_
    exact K dX9_wage_12 ⟨by rw [e], o, by rw [e]; rfl⟩

set_option maxHeartbeats 4000000 in
set_option maxRecDepth 100000 in
theorem c_X9_restore {G : bkG} {Z : Nat → Prop} {M : bkM} {r : Nat} {s a p q t o f : Nat → Int32} {np : Nat} (hnp : np ≤ 4) (hf : f 3 = nI np) : bkCi G Z Z yX9_restore cX9_restore 2 (some .int) 1 0 0 [.ref r] (mW G M r s a p q t o f) (fun v M' => v = (jRest q (f 5)).1 ∧ ∃ o', M' = mAct G M r s a p q t o' f np (jRest q (f 5)).2) := by
  refine bk_meti [some (.ref r), none] rfl pf_X9_restore rfl rfl (fun E X K => ?_)
  refine r_aload_n (pc := 0) X rfl dX9_restore_0 ?_
  refine gt_X9_203 (pc := 1) X mW_0 rfl dX9_restore_1 ?_
  refine r_if_ne (pc := 4) X 10 (by decide) dX9_restore_4 (fun q4 => ?_) (fun q4 => ?_)
  · skip
    have e : jRest q (f 5) = (q 181, some q) := if_neg q4
    refine r_aload_n (pc := 10) X rfl dX9_restore_10 ?_
    refine ca_X9_87 (pc := 11) X (c_X9_records hnp hf) mW_0 rfl rfl rfl dX9_restore_11 (fun M11 hp11 => ?_)
    obtain rfl := hp11
    refine r_iconst (pc := 14) (v := 0) X rfl dX9_restore_14 ?_
    refine r_istore_n (pc := 15) X rfl rfl dX9_restore_15 ?_
    have lp16 : ∀ (d j : Nat) (y : Int32), j ≤ 183 → 183 < j + d → (y = nI j) → bkV E G Z 0 0 (mW G M r (jcp s q j) a (jrp s p np) q t o (upd f 3 (nI (jrn np)))) 16 [some (.ref r), some (.int y)] [] := by
      intro d
      induction d with
      | zero => intro j y; intros; exfalso; omega
      | succ d ih =>
        intro j y hj hd e1
        subst e1
        refine r_iload_n (pc := 16) X rfl dX9_restore_16 ?_
        refine r_sipush (pc := 17) (v := 183) X rfl dX9_restore_17 ?_
        refine r_icmpN_ge (pc := 20) X 41 (j) (183) rfl rfl (by omega) (by omega) (by decide) dX9_restore_20 (fun q20 => ?_) (fun q20 => ?_)
        · skip
          obtain rfl : j = 183 := by omega
          refine bkV.extI mW_1 (g := q) (fun i hi => if_pos hi) ?_
          refine bkV.eq mS_1 ?_
          refine r_aload_n (pc := 41) X rfl dX9_restore_41 ?_
          refine gt_X9_7 (pc := 42) X mW_0 rfl dX9_restore_42 ?_
          refine r_sipush (pc := 45) (v := 181) X rfl dX9_restore_45 ?_
          refine r_iald (pc := 48) X mW_1 (181) rfl (by omega) (by decide) dX9_restore_48 ?_
          exact K dX9_restore_49 ⟨by rw [e], o, by rw [e]; rfl⟩
        · skip
          refine r_aload_n (pc := 23) X rfl dX9_restore_23 ?_
          refine gt_X9_7 (pc := 24) X mW_0 rfl dX9_restore_24 ?_
          refine r_iload_n (pc := 27) X rfl dX9_restore_27 ?_
          refine r_aload_n (pc := 28) X rfl dX9_restore_28 ?_
          refine gt_X9_19 (pc := 29) X mW_0 rfl dX9_restore_29 ?_
          refine r_iload_n (pc := 32) X rfl dX9_restore_32 ?_
          refine r_iald (pc := 33) X mW_4 (j) rfl (by omega) (by decide) dX9_restore_33 ?_
          refine r_iast (pc := 34) X mW_1 (j) rfl (by omega) (by decide) dX9_restore_34 ?_
          refine bkV.eq mS_1 ?_
          refine r_iinc (pc := 35) X rfl rfl rfl dX9_restore_35 ?_
          refine r_goto (pc := 38) X 16 (by decide) dX9_restore_38 ?_
          rw [jcp_up]
          exact ih (j + 1) _ (by omega) (by omega) (nI_1 j)
    refine bkV.eq (show (mW G M r s a (jrp s p np) q t o (upd f 3 (nI (jrn np)))) = (mW G M r (jcp s q 0) a (jrp s p np) q t o (upd f 3 (nI (jrn np)))) by rw [jcp_0]) ?_
    exact lp16 (183 + 1) 0 _ (by omega) (by omega) rfl
  · skip
    have e : jRest q (f 5) = (-5, none) := if_pos q4
    refine r_bipush (pc := 7) (v := (-5)) X rfl dX9_restore_7 ?_
    exact K dX9_restore_9 ⟨by rw [e], o, by rw [e]; rfl⟩

set_option maxHeartbeats 4000000 in
set_option maxRecDepth 100000 in
theorem c_X9_type {G : bkG} {Z : Nat → Prop} {M : bkM} {r : Nat} {s a p q t o f : Nat → Int32} {len : Nat} (hl : len ≤ 60) (h7 : f 7 = nI len) (x : Int32) : bkCi G Z Z yX9_type cX9_type 2 (some .int) 0 0 0 [.ref r, .int x] (mW G M r s a p q t o f) (fun v M' => v = (if len = 60 then -3 else nI (len + 1)) ∧ M' = (if len = 60 then (mW G M r s a p q t o f) else (mW G M r s a p q (upd t len (vp_nar .char x)) o (upd f 7 (nI (len + 1)))))) := by
  refine bk_meti [some (.ref r), some (.int x)] rfl pf_X9_type rfl rfl (fun E X K => ?_)
  refine r_aload_n (pc := 0) X rfl dX9_type_0 ?_
  refine gt_X9_151 (pc := 1) X mW_0 rfl dX9_type_1 ?_
  refine r_bipush (pc := 4) (v := 60) X rfl dX9_type_4 ?_
  refine r_icmpN_ne (pc := 6) X 12 (len) (60) h7 rfl (by omega) (by omega) (by decide) dX9_type_6 (fun q6 => ?_) (fun q6 => ?_)
  · skip
    refine r_aload_n (pc := 12) X rfl dX9_type_12 ?_
    refine gt_X9_22 (pc := 13) X mW_0 rfl dX9_type_13 ?_
    refine r_aload_n (pc := 16) X rfl dX9_type_16 ?_
    refine gt_X9_151 (pc := 17) X mW_0 rfl dX9_type_17 ?_
    refine r_iload_n (pc := 20) X rfl dX9_type_20 ?_
    refine r_cast (pc := 21) X mW_5 (len) h7 (by omega) (by decide) dX9_type_21 ?_
    refine bkV.eq mS_5 ?_
    refine r_aload_n (pc := 22) X rfl dX9_type_22 ?_
    refine r_dup (pc := 23) X rfl dX9_type_23 ?_
    refine gt_X9_151 (pc := 24) X mW_0 rfl dX9_type_24 ?_
    refine r_iconst (pc := 27) (v := 1) X rfl dX9_type_27 ?_
    refine r_iadd (pc := 28) X dX9_type_28 ?_
    refine pt_X9_151 (pc := 29) X mW_0  rfl dX9_type_29 ?_
    refine bkV.eq mP_7 ?_
    rw [h7, nI_1]
    refine r_aload_n (pc := 32) X rfl dX9_type_32 ?_
    refine gt_X9_151 (pc := 33) X mW_0 rfl dX9_type_33 ?_
    refine bk_top (upd_s (f := f) (k := 7)) ?_
    exact K dX9_type_36 ⟨(if_neg q6).symm, (if_neg q6).symm⟩
  · skip
    refine r_bipush (pc := 9) (v := (-3)) X rfl dX9_type_9 ?_
    exact K dX9_type_11 ⟨(if_pos q6).symm, (if_pos q6).symm⟩

set_option maxHeartbeats 4000000 in
set_option maxRecDepth 100000 in
theorem c_X9_clearText {G : bkG} {Z : Nat → Prop} {M : bkM} {r : Nat} {s a p q t o f : Nat → Int32} : bkCi G Z Z yX9_clearText cX9_clearText 2 (some .int) 0 0 0 [.ref r] (mW G M r s a p q t o f) (fun v M' => v = f 7 ∧ M' = (mW G M r s a p q t o (upd f 7 0))) := by
  refine bk_meti [some (.ref r), none] rfl pf_X9_clearText rfl rfl (fun E X K => ?_)
  refine r_aload_n (pc := 0) X rfl dX9_clearText_0 ?_
  refine gt_X9_151 (pc := 1) X mW_0 rfl dX9_clearText_1 ?_
  refine r_istore_n (pc := 4) X rfl rfl dX9_clearText_4 ?_
  refine r_aload_n (pc := 5) X rfl dX9_clearText_5 ?_
  refine r_iconst (pc := 6) (v := 0) X rfl dX9_clearText_6 ?_
  refine pt_X9_151 (pc := 7) X mW_0  rfl dX9_clearText_7 ?_
  refine bkV.eq mP_7 ?_
  refine r_iload_n (pc := 10) X rfl dX9_clearText_10 ?_
  exact K dX9_clearText_11 ⟨rfl, rfl⟩

set_option maxHeartbeats 4000000 in
set_option maxRecDepth 100000 in
theorem c_X9_undo {G : bkG} {Z : Nat → Prop} {M : bkM} {r : Nat} {s a p q t o f : Nat → Int32} {np : Nat} (hnp : np ≤ 4) (hf : f 3 = nI np) : bkCi G Z Z yX9_undo cX9_undo 2 (some .int) 0 0 0 [.ref r] (mW G M r s a p q t o f) (fun v M' => v = (if np = 0 then -5 else nI (np - 1)) ∧ M' = (if np = 0 then (mW G M r s a p q t o f) else (mW G M r (fun i => p (183 * (np - 1) + i)) a p q t o (upd f 3 (nI (np - 1)))))) := by
  refine bk_meti [some (.ref r), none] rfl pf_X9_undo rfl rfl (fun E X K => ?_)
  refine r_aload_n (pc := 0) X rfl dX9_undo_0 ?_
  refine gt_X9_40 (pc := 1) X mW_0 rfl dX9_undo_1 ?_
  refine r_if_ne (pc := 4) X 10 (by decide) dX9_undo_4 (fun q4 => ?_) (fun q4 => ?_)
  · skip
    obtain ⟨np, rfl⟩ : ∃ k, np = k + 1 := ⟨np - 1, by
      rcases Nat.eq_zero_or_pos np with z | z
      · subst z; exact absurd hf q4
      · omega⟩
    refine r_aload_n (pc := 10) X rfl dX9_undo_10 ?_
    refine r_dup (pc := 11) X rfl dX9_undo_11 ?_
    refine gt_X9_40 (pc := 12) X mW_0 rfl dX9_undo_12 ?_
    refine r_iconst (pc := 15) (v := 1) X rfl dX9_undo_15 ?_
    refine r_isub (pc := 16) X dX9_undo_16 ?_
    refine pt_X9_40 (pc := 17) X mW_0  rfl dX9_undo_17 ?_
    refine bkV.eq mP_3 ?_
    rw [show f 3 - 1 = nI np by rw [hf, ← nI_1]; grind]
    refine r_iconst (pc := 20) (v := 0) X rfl dX9_undo_20 ?_
    refine r_istore_n (pc := 21) X rfl rfl dX9_undo_21 ?_
    have lp22 : ∀ (d j : Nat) (y : Int32), j ≤ 183 → 183 < j + d → (y = nI j) → bkV E G Z 0 0 (mW G M r (jcp s (fun i => p (183 * np + i)) j) a p q t o (upd f 3 (nI np))) 22 [some (.ref r), some (.int y)] [] := by
      intro d
      induction d with
      | zero => intro j y; intros; exfalso; omega
      | succ d ih =>
        intro j y hj hd e1
        subst e1
        refine r_iload_n (pc := 22) X rfl dX9_undo_22 ?_
        refine r_sipush (pc := 23) (v := 183) X rfl dX9_undo_23 ?_
        refine r_icmpN_ge (pc := 26) X 56 (j) (183) rfl rfl (by omega) (by omega) (by decide) dX9_undo_26 (fun q26 => ?_) (fun q26 => ?_)
        · skip
          obtain rfl : j = 183 := by omega
          refine bkV.extI mW_1 (g := fun i => p (183 * np + i)) (fun i hi => if_pos hi) ?_
          refine bkV.eq mS_1 ?_
          refine r_aload_n (pc := 56) X rfl dX9_undo_56 ?_
          refine gt_X9_40 (pc := 57) X mW_0 rfl dX9_undo_57 ?_
          refine bk_top (upd_s (f := f) (k := 3)) ?_
          exact K dX9_undo_60 ⟨(if_neg (by omega)).symm, (if_neg (by omega)).symm⟩
        · skip
          refine r_aload_n (pc := 29) X rfl dX9_undo_29 ?_
          refine gt_X9_7 (pc := 30) X mW_0 rfl dX9_undo_30 ?_
          refine r_iload_n (pc := 33) X rfl dX9_undo_33 ?_
          refine r_aload_n (pc := 34) X rfl dX9_undo_34 ?_
          refine gt_X9_16 (pc := 35) X mW_0 rfl dX9_undo_35 ?_
          refine r_sipush (pc := 38) (v := 183) X rfl dX9_undo_38 ?_
          refine r_aload_n (pc := 41) X rfl dX9_undo_41 ?_
          refine gt_X9_40 (pc := 42) X mW_0 rfl dX9_undo_42 ?_
          refine bk_top (upd_s (f := f) (k := 3)) ?_
          refine r_imul (pc := 45) X dX9_undo_45 ?_
          refine r_iload_n (pc := 46) X rfl dX9_undo_46 ?_
          refine r_iadd (pc := 47) X dX9_undo_47 ?_
          refine r_iald (pc := 48) X mW_3 (183 * np + j) (by show 183 * nI np + nI j = _; rw [← nI_add, ← pk_mul]; rfl) (by omega) (by decide) dX9_undo_48 ?_
          refine r_iast (pc := 49) X mW_1 (j) rfl (by omega) (by decide) dX9_undo_49 ?_
          refine bkV.eq mS_1 ?_
          refine r_iinc (pc := 50) X rfl rfl rfl dX9_undo_50 ?_
          refine r_goto (pc := 53) X 22 (by decide) dX9_undo_53 ?_
          refine bkV.eq (congrArg (fun z => mW G M r z a p q t o (upd f 3 (nI np))) (jcp_up s (fun i => p (183 * np + i)) j)) ?_
          exact ih (j + 1) _ (by omega) (by omega) (nI_1 j)
    refine bkV.eq (show (mW G M r s a p q t o (upd f 3 (nI np))) = (mW G M r (jcp s (fun i => p (183 * np + i)) 0) a p q t o (upd f 3 (nI np))) by rw [jcp_0]) ?_
    exact lp22 (183 + 1) 0 _ (by omega) (by omega) rfl
  · skip
    have z : np = 0 := by
      rcases Nat.eq_zero_or_pos np with z | z
      · exact z
      · exfalso
        have e0 : nI np = nI 0 := hf.symm.trans q4
        have := (nI_eq (by omega) (by omega)).mp e0
        omega
    refine r_bipush (pc := 7) (v := (-5)) X rfl dX9_undo_7 ?_
    exact K dX9_undo_9 ⟨(if_pos z).symm, (if_pos z).symm⟩

set_option maxHeartbeats 4000000 in
set_option maxRecDepth 100000 in
theorem c_X9_keep {G : bkG} {Z : Nat → Prop} {M : bkM} {r : Nat} {s a p q t o f : Nat → Int32} : bkCi G Z Z yX9_keep cX9_keep 2 (some .int) 0 0 0 [.ref r] (mW G M r s a p q t o f) (fun v M' => v = s 181 ∧ M' = (mW G M r s a p s t o (upd f 5 1))) := by
  refine bk_meti [some (.ref r), none] rfl pf_X9_keep rfl rfl (fun E X K => ?_)
  refine r_iconst (pc := 0) (v := 0) X rfl dX9_keep_0 ?_
  refine r_istore_n (pc := 1) X rfl rfl dX9_keep_1 ?_
  have lp2 : ∀ (d j : Nat) (y : Int32), j ≤ 183 → 183 < j + d → (y = nI j) → bkV E G Z 0 0 (mW G M r s a p (jcp q s j) t o f) 2 [some (.ref r), some (.int y)] [] := by
    intro d
    induction d with
    | zero => intro j y; intros; exfalso; omega
    | succ d ih =>
      intro j y hj hd e1
      subst e1
      refine r_iload_n (pc := 2) X rfl dX9_keep_2 ?_
      refine r_sipush (pc := 3) (v := 183) X rfl dX9_keep_3 ?_
      refine r_icmpN_ge (pc := 6) X 27 (j) (183) rfl rfl (by omega) (by omega) (by decide) dX9_keep_6 (fun q6 => ?_) (fun q6 => ?_)
      · skip
        obtain rfl : j = 183 := by omega
        refine bkV.extI mW_4 (g := s) (fun i hi => if_pos hi) ?_
        refine bkV.eq mS_4 ?_
        refine r_aload_n (pc := 27) X rfl dX9_keep_27 ?_
        refine r_iconst (pc := 28) (v := 1) X rfl dX9_keep_28 ?_
        refine pt_X9_203 (pc := 29) X mW_0 (Or.inr rfl) rfl dX9_keep_29 ?_
        refine bkV.eq mP_5 ?_
        refine r_aload_n (pc := 32) X rfl dX9_keep_32 ?_
        refine gt_X9_7 (pc := 33) X mW_0 rfl dX9_keep_33 ?_
        refine r_sipush (pc := 36) (v := 181) X rfl dX9_keep_36 ?_
        refine r_iald (pc := 39) X mW_1 (181) rfl (by omega) (by decide) dX9_keep_39 ?_
        exact K dX9_keep_40 ⟨rfl, rfl⟩
      · skip
        refine r_aload_n (pc := 9) X rfl dX9_keep_9 ?_
        refine gt_X9_19 (pc := 10) X mW_0 rfl dX9_keep_10 ?_
        refine r_iload_n (pc := 13) X rfl dX9_keep_13 ?_
        refine r_aload_n (pc := 14) X rfl dX9_keep_14 ?_
        refine gt_X9_7 (pc := 15) X mW_0 rfl dX9_keep_15 ?_
        refine r_iload_n (pc := 18) X rfl dX9_keep_18 ?_
        refine r_iald (pc := 19) X mW_1 (j) rfl (by omega) (by decide) dX9_keep_19 ?_
        refine r_iast (pc := 20) X mW_4 (j) rfl (by omega) (by decide) dX9_keep_20 ?_
        refine bkV.eq mS_4 ?_
        refine r_iinc (pc := 21) X rfl rfl rfl dX9_keep_21 ?_
        refine r_goto (pc := 24) X 2 (by decide) dX9_keep_24 ?_
        rw [jcp_up]
        exact ih (j + 1) _ (by omega) (by omega) (nI_1 j)
  refine bkV.eq (show (mW G M r s a p q t o f) = (mW G M r s a p (jcp q s 0) t o f) by rw [jcp_0]) ?_
  exact lp2 (183 + 1) 0 _ (by omega) (by omega) rfl

set_option maxHeartbeats 4000000 in
set_option maxRecDepth 100000 in
theorem c_X9_ifPassed {G : bkG} {Z : Nat → Prop} {M : bkM} {r : Nat} {s a p q t o f : Nat → Int32} {n : Nat} (hw : jwf s n) (h : Int32) : bkCi G Z Z yX9_ifPassed cX9_ifPassed 3 (some .int) 8 0 0 [.ref r, .int h] (mW G M r s a p q t o f) (fun v M' => v = jifp s n h ∧ ∃ a' o', M' = (mW G M r s a' p q t o' f)) := by
  refine bk_meti [some (.ref r), some (.int h), none] rfl pf_X9_ifPassed rfl rfl (fun E X K => ?_)
  refine r_iload_n (pc := 0) X rfl dX9_ifPassed_0 ?_
  refine r_iconst (pc := 1) (v := 1) X rfl dX9_ifPassed_1 ?_
  refine r_bipush (pc := 2) (v := 40) X rfl dX9_ifPassed_2 ?_
  refine ca_X9_36 (pc := 4) X (c_X9_in h 1 40) rfl rfl rfl dX9_ifPassed_4 (fun r4 M4 hp4 => ?_)
  obtain ⟨rfl, rfl⟩ := hp4
  refine r_if_ne (pc := 7) X 13 (by decide) dX9_ifPassed_7 (fun q7 => ?_) (fun q7 => ?_)
  · skip
    obtain ⟨hn, h1, h2, rfl⟩ := jin_of1 (n := 40) rfl (by decide) (bi_n0.mp q7)
    have thn : tn (nI hn) = hn := tn_nI (by omega)
    refine r_aload_n (pc := 13) X rfl dX9_ifPassed_13 ?_
    refine ca_X9_194 (pc := 14) X (c_X9_putAside) mW_0 rfl rfl rfl dX9_ifPassed_14 (fun M14 hp14 => ?_)
    obtain rfl := hp14
    refine r_aload_n (pc := 17) X rfl dX9_ifPassed_17 ?_
    refine r_iload_n (pc := 18) X rfl dX9_ifPassed_18 ?_
    refine ca_X9_138 (pc := 19) X (c_X9_passes hw hn h2) mW_0 rfl rfl rfl dX9_ifPassed_19 (fun r19 M19 hp19 => ?_)
    obtain ⟨rfl, o2, rfl⟩ := hp19
    refine r_istore_n (pc := 22) X rfl rfl dX9_ifPassed_22 ?_
    refine r_aload_n (pc := 23) X rfl dX9_ifPassed_23 ?_
    refine ca_X9_200 (pc := 24) X (c_X9_putBack) mW_0 rfl rfl rfl dX9_ifPassed_24 (fun M24 hp24 => ?_)
    obtain rfl := hp24
    refine r_iload_n (pc := 27) X rfl dX9_ifPassed_27 ?_
    exact K dX9_ifPassed_28 ⟨by unfold jifp; rw [if_neg (by rw [bi_n0.mp q7]; decide), thn], s, o2, rfl⟩
  · skip
    refine r_bipush (pc := 10) (v := (-2)) X rfl dX9_ifPassed_10 ?_
    exact K dX9_ifPassed_12 ⟨(if_pos (bi_0.mp q7)).symm, a, o, rfl⟩

set_option maxHeartbeats 4000000 in
set_option maxRecDepth 100000 in
theorem c_X9_bestCard {G : bkG} {Z : Nat → Prop} {M : bkM} {r : Nat} {s a p q t o f : Nat → Int32} {n : Nat} (hw : jwf s n) (k : Int32) : bkCi G Z Z yX9_bestCard cX9_bestCard 6 (some .int) 8 0 0 [.ref r, .int k] (mW G M r s a p q t o f) (fun v M' => v = jbest s n k ∧ ∃ a' o', M' = (mW G M r s a' p q t o' f)) := by
  refine bk_meti [some (.ref r), some (.int k), none, none, none, none] rfl pf_X9_bestCard rfl rfl (fun E X K => ?_)
  refine r_iload_n (pc := 0) X rfl dX9_bestCard_0 ?_
  refine ca_X9_94 (pc := 1) X (c_X9_isLight k) rfl rfl rfl dX9_bestCard_1 (fun r1 M1 hp1 => ?_)
  obtain ⟨rfl, rfl⟩ := hp1
  refine r_if_ne (pc := 4) X 9 (by decide) dX9_bestCard_4 (fun q4 => ?_) (fun q4 => ?_)
  · skip
    obtain ⟨kn, hkn, rfl⟩ := jin_of (n := 3) rfl (by decide) (bi_n0.mp q4)
    have tkn : tn (nI kn) = kn := tn_nI (by omega)
    refine r_aload_n (pc := 9) X rfl dX9_bestCard_9 ?_
    refine ca_X9_194 (pc := 10) X (c_X9_putAside) mW_0 rfl rfl rfl dX9_bestCard_10 (fun M10 hp10 => ?_)
    obtain rfl := hp10
    refine r_aload_n (pc := 13) X rfl dX9_bestCard_13 ?_
    refine r_aload_n (pc := 14) X rfl dX9_bestCard_14 ?_
    refine r_bipush (pc := 15) (v := 10) X rfl dX9_bestCard_15 ?_
    refine ca_X9_138 (pc := 17) X (c_X9_passes hw 10 (by omega)) mW_0 rfl rfl rfl dX9_bestCard_17 (fun r17 M17 hp17 => ?_)
    obtain ⟨rfl, o2, rfl⟩ := hp17
    refine ca_X9_219 (pc := 20) X (c_X9_worth (hw.hrs 10).1 (hw.hrs 10).2.1 (jwr s n 10)) mW_0 rfl rfl rfl dX9_bestCard_20 (fun r20 M20 hp20 => ?_)
    obtain ⟨rfl, rfl⟩ := hp20
    refine r_istore_n (pc := 23) X rfl rfl dX9_bestCard_23 ?_
    refine r_aload_n (pc := 24) X rfl dX9_bestCard_24 ?_
    refine ca_X9_200 (pc := 25) X (c_X9_putBack) mW_0 rfl rfl rfl dX9_bestCard_25 (fun M25 hp25 => ?_)
    obtain rfl := hp25
    refine r_bipush (pc := 28) (v := (-5)) X rfl dX9_bestCard_28 ?_
    refine r_istore_n (pc := 30) X rfl rfl dX9_bestCard_30 ?_
    refine r_iconst (pc := 31) (v := 0) X rfl dX9_bestCard_31 ?_
    refine r_istore (pc := 32) X rfl rfl dX9_bestCard_32 ?_
    have lp34 : ∀ (d j : Nat) (x : Int32) (b : Int32) (y : Int32) (oo : Nat → Int32), j ≤ 4 → 4 < j + d → (x = (jbst s n kn j).2) → (b = (jbst s n kn j).1) → (y = nI j) → bkV E G Z 0 0 (mW G M r s s p q t oo f) 34 [some (.ref r), some (.int (nI kn)), some (.int x), some (.int b), some (.int y), none] [] := by
      intro d
      induction d with
      | zero => intro j x b y oo; intros; exfalso; omega
      | succ d ih =>
        intro j x b y oo hj hd e1 e2 e3
        subst e1
        subst e2
        subst e3
        refine r_iload (pc := 34) X rfl dX9_bestCard_34 ?_
        refine r_iconst (pc := 36) (v := 4) X rfl dX9_bestCard_36 ?_
        refine r_icmpN_ge (pc := 37) X 105 (j) (4) rfl rfl (by omega) (by omega) (by decide) dX9_bestCard_37 (fun q37 => ?_) (fun q37 => ?_)
        · skip
          refine r_iload_n (pc := 105) X rfl dX9_bestCard_105 ?_
          exact K dX9_bestCard_106 ⟨by unfold jbest; rw [if_neg (by rw [bi_n0.mp q4]; decide), tkn, show j = 4 by omega], s, oo, rfl⟩
        · skip
          refine r_aload_n (pc := 40) X rfl dX9_bestCard_40 ?_
          refine r_iload_n (pc := 41) X rfl dX9_bestCard_41 ?_
          refine r_iload (pc := 42) X rfl dX9_bestCard_42 ?_
          refine ca_X9_144 (pc := 44) X (c_X9_canLay kn j (by omega) (by omega)) mW_0 rfl rfl rfl dX9_bestCard_44 (fun r44 M44 hp44 => ?_)
          obtain ⟨rfl, rfl⟩ := hp44
          refine r_if_eq (pc := 47) X 99 (by decide) dX9_bestCard_47 (fun q47 => ?_) (fun q47 => ?_)
          · skip
            refine r_iinc (pc := 99) X rfl rfl rfl dX9_bestCard_99 ?_
            refine r_goto (pc := 102) X 34 (by decide) dX9_bestCard_102 ?_
            refine bkV.drop 5 (ih (j + 1) _ _ _ _ (by omega) (by omega) ?_ ?_ (nI_1 j))
            · clear K X ih
              show _ = (if _ then _ else _ : Int32 × Int32).2
              grind [jw10, bi_0, bi_n0]
            · clear K X ih
              show _ = (if _ then _ else _ : Int32 × Int32).1
              grind [jw10, bi_0, bi_n0]
          · skip
            refine r_aload_n (pc := 50) X rfl dX9_bestCard_50 ?_
            refine r_iload_n (pc := 51) X rfl dX9_bestCard_51 ?_
            refine r_iload (pc := 52) X rfl dX9_bestCard_52 ?_
            refine ca_X9_147 (pc := 54) X (c_X9_lays kn j (by omega) (by omega)) mW_0 rfl rfl rfl dX9_bestCard_54 (fun M54 hp54 => ?_)
            obtain rfl := hp54
            refine r_aload_n (pc := 57) X rfl dX9_bestCard_57 ?_
            refine r_aload_n (pc := 58) X rfl dX9_bestCard_58 ?_
            refine r_bipush (pc := 59) (v := 10) X rfl dX9_bestCard_59 ?_
            refine ca_X9_138 (pc := 61) X (c_X9_passes (hw.ly (k := kn) (l := j) (by omega) (by omega)) 10 (by omega)) mW_0 rfl rfl rfl dX9_bestCard_61 (fun r61 M61 hp61 => ?_)
            obtain ⟨rfl, o3, rfl⟩ := hp61
            refine ca_X9_219 (pc := 64) X (c_X9_worth ((hw.ly (k := kn) (l := j) (by omega) (by omega)).hrs 10).1 ((hw.ly (k := kn) (l := j) (by omega) (by omega)).hrs 10).2.1 (jwr (jly s kn j) n 10)) mW_0 rfl rfl rfl dX9_bestCard_64 (fun r64 M64 hp64 => ?_)
            obtain ⟨rfl, rfl⟩ := hp64
            refine r_istore (pc := 67) X rfl rfl dX9_bestCard_67 ?_
            refine r_aload_n (pc := 69) X rfl dX9_bestCard_69 ?_
            refine ca_X9_200 (pc := 70) X (c_X9_putBack) mW_0 rfl rfl rfl dX9_bestCard_70 (fun M70 hp70 => ?_)
            obtain rfl := hp70
            refine r_iload (pc := 73) X rfl dX9_bestCard_73 ?_
            refine r_iload_n (pc := 75) X rfl dX9_bestCard_75 ?_
            refine r_icmp_le (pc := 76) X 84 (by decide) dX9_bestCard_76 (fun q76 => ?_) (fun q76 => ?_)
            · skip
              refine r_iload_n (pc := 84) X rfl dX9_bestCard_84 ?_
              refine r_istore_n (pc := 85) X rfl rfl dX9_bestCard_85 ?_
              refine r_iload (pc := 86) X rfl dX9_bestCard_86 ?_
              refine r_iload_n (pc := 88) X rfl dX9_bestCard_88 ?_
              refine r_icmp_le (pc := 89) X 97 (by decide) dX9_bestCard_89 (fun q89 => ?_) (fun q89 => ?_)
              · skip
                refine r_iload_n (pc := 97) X rfl dX9_bestCard_97 ?_
                refine r_istore_n (pc := 98) X rfl rfl dX9_bestCard_98 ?_
                refine r_iinc (pc := 99) X rfl rfl rfl dX9_bestCard_99 ?_
                refine r_goto (pc := 102) X 34 (by decide) dX9_bestCard_102 ?_
                refine bkV.drop 5 (ih (j + 1) _ _ _ _ (by omega) (by omega) ?_ ?_ (nI_1 j))
                · clear K X ih
                  show _ = (if _ then _ else _ : Int32 × Int32).2
                  grind [jw10, bi_0, bi_n0]
                · clear K X ih
                  show _ = (if _ then _ else _ : Int32 × Int32).1
                  grind [jw10, bi_0, bi_n0]
              · skip
                refine r_iload (pc := 92) X rfl dX9_bestCard_92 ?_
                refine r_goto (pc := 94) X 98 (by decide) dX9_bestCard_94 ?_
                refine r_istore_n (pc := 98) X rfl rfl dX9_bestCard_98 ?_
                refine r_iinc (pc := 99) X rfl rfl rfl dX9_bestCard_99 ?_
                refine r_goto (pc := 102) X 34 (by decide) dX9_bestCard_102 ?_
                refine bkV.drop 5 (ih (j + 1) _ _ _ _ (by omega) (by omega) ?_ ?_ (nI_1 j))
                · clear K X ih
                  show _ = (if _ then _ else _ : Int32 × Int32).2
                  grind [jw10, bi_0, bi_n0]
                · clear K X ih
                  show _ = (if _ then _ else _ : Int32 × Int32).1
                  grind [jw10, bi_0, bi_n0]
            · skip
              refine r_iload (pc := 79) X rfl dX9_bestCard_79 ?_
              refine r_goto (pc := 81) X 85 (by decide) dX9_bestCard_81 ?_
              refine r_istore_n (pc := 85) X rfl rfl dX9_bestCard_85 ?_
              refine r_iload (pc := 86) X rfl dX9_bestCard_86 ?_
              refine r_iload_n (pc := 88) X rfl dX9_bestCard_88 ?_
              refine r_icmp_le (pc := 89) X 97 (by decide) dX9_bestCard_89 (fun q89 => ?_) (fun q89 => ?_)
              · skip
                refine r_iload_n (pc := 97) X rfl dX9_bestCard_97 ?_
                refine r_istore_n (pc := 98) X rfl rfl dX9_bestCard_98 ?_
                refine r_iinc (pc := 99) X rfl rfl rfl dX9_bestCard_99 ?_
                refine r_goto (pc := 102) X 34 (by decide) dX9_bestCard_102 ?_
                refine bkV.drop 5 (ih (j + 1) _ _ _ _ (by omega) (by omega) ?_ ?_ (nI_1 j))
                · clear K X ih
                  show _ = (if _ then _ else _ : Int32 × Int32).2
                  grind [jw10, bi_0, bi_n0]
                · clear K X ih
                  show _ = (if _ then _ else _ : Int32 × Int32).1
                  grind [jw10, bi_0, bi_n0]
              · skip
                refine r_iload (pc := 92) X rfl dX9_bestCard_92 ?_
                refine r_goto (pc := 94) X 98 (by decide) dX9_bestCard_94 ?_
                refine r_istore_n (pc := 98) X rfl rfl dX9_bestCard_98 ?_
                refine r_iinc (pc := 99) X rfl rfl rfl dX9_bestCard_99 ?_
                refine r_goto (pc := 102) X 34 (by decide) dX9_bestCard_102 ?_
                refine bkV.drop 5 (ih (j + 1) _ _ _ _ (by omega) (by omega) ?_ ?_ (nI_1 j))
                · clear K X ih
                  show _ = (if _ then _ else _ : Int32 × Int32).2
                  grind [jw10, bi_0, bi_n0]
                · clear K X ih
                  show _ = (if _ then _ else _ : Int32 × Int32).1
                  grind [jw10, bi_0, bi_n0]
    exact lp34 (4 + 1) 0 _ _ _ o2 (by omega) (by omega) rfl rfl rfl
  · skip
    refine r_iconst (pc := 7) (v := (-1)) X rfl dX9_bestCard_7 ?_
    exact K dX9_bestCard_8 ⟨(if_pos (bi_0.mp q4)).symm, a, o, rfl⟩

