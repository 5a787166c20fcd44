set_option maxHeartbeats 4000000 in
set_option maxRecDepth 100000 in
theorem c_X8_cellOf {G : bkG} {Z : Nat → Prop} {M : bkM} {x : Nat} {S O : Nat → Nat → Int32} {od : Nat → Nat} {sz kp : Int32} {t : Nat → Int32} {ln pc pl : Int32} {pf : Nat → Nat → Int32} {n : Nat} (hk : cOK (S 0) n (O 0)) (c w : Int32) : bkCi G Z Z yX8_cellOf cX8_cellOf 3 (some .int) 5 0 0 [.ref x, .int c, .int w] (xW G x S O od sz kp t ln pc pl pf M) (fun v M' => v = jcellOf (S 0) n c w ∧ M' = (xW G x S O od sz kp t ln pc pl pf M)) := by
  refine bk_meti [some (.ref x), some (.int c), some (.int w)] rfl pf_X8_cellOf rfl rfl (fun E X K => ?_)
  refine r_iload_n (pc := 0) X rfl dX8_cellOf_0 ?_
  refine ca_X8_158 (pc := 1) X (c_X8_isCell c) rfl rfl rfl dX8_cellOf_1 (fun r1 M1 hp1 => ?_)
  obtain ⟨rfl, rfl⟩ := hp1
  refine r_if_ne (pc := 4) X 9 (by decide) dX8_cellOf_4 (fun q4 => ?_) (fun q4 => ?_)
  · skip
    obtain ⟨cn, hcn, rfl⟩ := jin_of (n := 99) rfl (by decide) (bi_n0.mp q4)
    have tcn : tn (nI cn) = cn := tn_nI (by omega)
    have hin : ¬ jin (nI cn) 0 99 = false := by rw [show jin (nI cn) 0 99 = true from jin_nI (j := cn) (n := 99) (by omega) (by decide)]; decide
    have h01 := hk.1.2.2.1 cn (by omega)
    refine r_iload_n (pc := 9) X rfl dX8_cellOf_9 ?_
    rcases tb_case 3 (by decide) w with ⟨w9, hw9, rfl⟩ | ⟨hq, hne⟩
    · match w9, hw9 with
      | 0, _ =>
        refine r_tableIn (pc := 10) X 40 (by decide) (by decide) rfl (by decide) dX8_cellOf_10 ?_
        refine r_aload_n (pc := 40) X rfl dX8_cellOf_40 ?_
        refine gt_X8_21 (pc := 41) X xW_o rfl dX8_cellOf_41 ?_
        refine r_iload_n (pc := 44) X rfl dX8_cellOf_44 ?_
        refine bkV.eq xW_b0 ?_
        refine ca_X8_161 (pc := 45) X (c_X6_hasRock cn (by omega)) sW_o rfl rfl rfl dX8_cellOf_45 (fun r45 M45 hp45 => ?_)
        obtain ⟨rfl, rfl⟩ := hp45
        refine bkV.eq xW_b0.symm ?_
        refine r_if_eq (pc := 48) X 55 (by decide) dX8_cellOf_48 (fun q48 => ?_) (fun q48 => ?_)
        · skip
          refine r_iconst (pc := 55) (v := 0) X rfl dX8_cellOf_55 ?_
          exact K dX8_cellOf_56 ⟨by unfold jcellOf; rw [if_neg hin, tcn]; first | exact ((rk_01 h01).mp q48).symm | exact (h01.resolve_left (fun z => q48 ((rk_01 h01).mpr z))).symm, rfl⟩
        · skip
          refine r_iconst (pc := 51) (v := 1) X rfl dX8_cellOf_51 ?_
          refine r_goto (pc := 52) X 56 (by decide) dX8_cellOf_52 ?_
          exact K dX8_cellOf_56 ⟨by unfold jcellOf; rw [if_neg hin, tcn]; first | exact ((rk_01 h01).mp q48).symm | exact (h01.resolve_left (fun z => q48 ((rk_01 h01).mpr z))).symm, rfl⟩
      | 1, _ =>
        refine r_tableIn (pc := 10) X 57 (by decide) (by decide) rfl (by decide) dX8_cellOf_10 ?_
        refine r_aload_n (pc := 57) X rfl dX8_cellOf_57 ?_
        refine gt_X8_21 (pc := 58) X xW_o rfl dX8_cellOf_58 ?_
        refine r_iload_n (pc := 61) X rfl dX8_cellOf_61 ?_
        refine bkV.eq xW_b0 ?_
        refine ca_X8_164 (pc := 62) X (c_X6_shipAtSeaIn hk.1.1 hk.2.2 (nI cn)) sW_o rfl rfl rfl dX8_cellOf_62 (fun r62 M62 hp62 => ?_)
        obtain ⟨rfl, rfl⟩ := hp62
        refine bkV.eq xW_b0.symm ?_
        exact K dX8_cellOf_65 ⟨by unfold jcellOf; rw [if_neg hin, tcn]; rfl, rfl⟩
      | 2, _ =>
        refine r_tableIn (pc := 10) X 66 (by decide) (by decide) rfl (by decide) dX8_cellOf_10 ?_
        refine r_aload_n (pc := 66) X rfl dX8_cellOf_66 ?_
        refine gt_X8_21 (pc := 67) X xW_o rfl dX8_cellOf_67 ?_
        refine r_iload_n (pc := 70) X rfl dX8_cellOf_70 ?_
        refine r_aload_n (pc := 71) X rfl dX8_cellOf_71 ?_
        refine gt_X8_21 (pc := 72) X xW_o rfl dX8_cellOf_72 ?_
        refine gt_X8_77 (pc := 75) X xW_0o rfl dX8_cellOf_75 ?_
        refine r_iconst (pc := 78) (v := 0) X rfl dX8_cellOf_78 ?_
        refine bkV.eq xW_b0 ?_
        refine ca_X8_167 (pc := 79) X (c_X6_litBy xW_bB (by omega) cn (by omega) (S 0 181) 0) sW_o rfl rfl rfl dX8_cellOf_79 (fun r79 M79 hp79 => ?_)
        obtain ⟨rfl, rfl⟩ := hp79
        refine bkV.eq xW_b0.symm ?_
        exact K dX8_cellOf_82 ⟨by unfold jcellOf; rw [if_neg hin, tcn]; exact cby_eq hk.2.1 (by omega), rfl⟩
      | 3, _ =>
        refine r_tableIn (pc := 10) X 83 (by decide) (by decide) rfl (by decide) dX8_cellOf_10 ?_
        refine r_aload_n (pc := 83) X rfl dX8_cellOf_83 ?_
        refine gt_X8_10 (pc := 84) X xW_o rfl dX8_cellOf_84 ?_
        refine gt_X8_170 (pc := 87) X xW_bB.1 rfl dX8_cellOf_87 ?_
        refine r_iload_n (pc := 90) X rfl dX8_cellOf_90 ?_
        refine r_iald (pc := 91) X xW_bB.2.1 (cn) rfl (by omega) (by decide) dX8_cellOf_91 ?_
        exact K dX8_cellOf_92 ⟨by unfold jcellOf; rw [if_neg hin, tcn]; rfl, rfl⟩
      | w9 + 4, hw9 => exact absurd hw9 (by omega)
    · refine r_tableOut (pc := 10) X 93 hq (by decide) dX8_cellOf_10 ?_
      have n0 : w ≠ 0 := hne 0 (by omega)
      have n1 : w ≠ 1 := hne 1 (by omega)
      have n2 : w ≠ 2 := hne 2 (by omega)
      have n3 : w ≠ 3 := hne 3 (by omega)
      refine r_bipush (pc := 93) (v := (-2)) X rfl dX8_cellOf_93 ?_
      exact K dX8_cellOf_95 ⟨by unfold jcellOf; rw [if_neg hin, tcn]; rw [if_neg n0, if_neg n1, if_neg n2, if_neg n3], rfl⟩
  · skip
    refine r_iconst (pc := 7) (v := (-1)) X rfl dX8_cellOf_7 ?_
    exact K dX8_cellOf_8 ⟨(if_pos (bi_0.mp q4)).symm, rfl⟩

set_option maxHeartbeats 4000000 in
set_option maxRecDepth 100000 in
theorem c_X8_lightOf {G : bkG} {Z : Nat → Prop} {M : bkM} {x : Nat} {S O : Nat → Nat → Int32} {od : Nat → Nat} {sz kp : Int32} {t : Nat → Int32} {ln pc pl : Int32} {pf : Nat → Nat → Int32} {n : Nat} (hk : cOK (S 0) n (O 0)) (l w : Int32) : bkCi G Z Z yX8_lightOf cX8_lightOf 3 (some .int) 5 0 0 [.ref x, .int l, .int w] (xW G x S O od sz kp t ln pc pl pf M) (fun v M' => v = jlightOf (S 0) l w ∧ M' = (xW G x S O od sz kp t ln pc pl pf M)) := by
  refine bk_meti [some (.ref x), some (.int l), some (.int w)] rfl pf_X8_lightOf rfl rfl (fun E X K => ?_)
  refine r_iload_n (pc := 0) X rfl dX8_lightOf_0 ?_
  refine ca_X8_65 (pc := 1) X (c_X8_isLight l) rfl rfl rfl dX8_lightOf_1 (fun r1 M1 hp1 => ?_)
  obtain ⟨rfl, rfl⟩ := hp1
  refine r_if_ne (pc := 4) X 9 (by decide) dX8_lightOf_4 (fun q4 => ?_) (fun q4 => ?_)
  · skip
    obtain ⟨ln, hln, rfl⟩ := jin_of (n := 3) rfl (by decide) (bi_n0.mp q4)
    have tln : tn (nI ln) = ln := tn_nI (by omega)
    refine r_aload_n (pc := 9) X rfl dX8_lightOf_9 ?_
    refine gt_X8_21 (pc := 10) X xW_o rfl dX8_lightOf_10 ?_
    refine gt_X8_73 (pc := 13) X xW_0o rfl dX8_lightOf_13 ?_
    refine r_iload_n (pc := 16) X rfl dX8_lightOf_16 ?_
    refine r_aald (pc := 17) X xW_0l rfl rfl (ln) rfl (by omega) (by decide) rfl dX8_lightOf_17 ?_
    refine r_iload_n (pc := 18) X rfl dX8_lightOf_18 ?_
    refine r_aload_n (pc := 19) X rfl dX8_lightOf_19 ?_
    refine gt_X8_21 (pc := 20) X xW_o rfl dX8_lightOf_20 ?_
    refine gt_X8_77 (pc := 23) X xW_0o rfl dX8_lightOf_23 ?_
    refine ca_X8_81 (pc := 26) X (c_X3_told (xW_0lt (i := ln) (by omega)) (by omega) (xW_bB.2.2 ln (by omega)).1 (xW_bB.2.2 ln (by omega)).2 w (S 0 181)) (xW_0lt (i := ln) (by omega)) rfl rfl rfl dX8_lightOf_26 (fun r26 M26 hp26 => ?_)
    obtain ⟨rfl, rfl⟩ := hp26
    exact K dX8_lightOf_29 ⟨told_l hk.2.1 (by omega) w, rfl⟩
  · skip
    refine r_iconst (pc := 7) (v := (-1)) X rfl dX8_lightOf_7 ?_
    exact K dX8_lightOf_8 ⟨(if_pos (bi_0.mp q4)).symm, rfl⟩

set_option maxHeartbeats 4000000 in
set_option maxRecDepth 100000 in
theorem c_X8_keeperOf {G : bkG} {Z : Nat → Prop} {M : bkM} {x : Nat} {S O : Nat → Nat → Int32} {od : Nat → Nat} {sz kp : Int32} {t : Nat → Int32} {ln pc pl : Int32} {pf : Nat → Nat → Int32} {n : Nat} (hk : cOK (S 0) n (O 0)) (l w : Int32) : bkCi G Z Z yX8_keeperOf cX8_keeperOf 3 (some .int) 5 0 0 [.ref x, .int l, .int w] (xW G x S O od sz kp t ln pc pl pf M) (fun v M' => v = jkeeperOf (S 0) l w ∧ M' = (xW G x S O od sz kp t ln pc pl pf M)) := by
  refine bk_meti [some (.ref x), some (.int l), some (.int w)] rfl pf_X8_keeperOf rfl rfl (fun E X K => ?_)
  refine r_iload_n (pc := 0) X rfl dX8_keeperOf_0 ?_
  refine ca_X8_65 (pc := 1) X (c_X8_isLight l) rfl rfl rfl dX8_keeperOf_1 (fun r1 M1 hp1 => ?_)
  obtain ⟨rfl, rfl⟩ := hp1
  refine r_if_ne (pc := 4) X 9 (by decide) dX8_keeperOf_4 (fun q4 => ?_) (fun q4 => ?_)
  · skip
    obtain ⟨ln, hln, rfl⟩ := jin_of (n := 3) rfl (by decide) (bi_n0.mp q4)
    have tln : tn (nI ln) = ln := tn_nI (by omega)
    refine r_aload_n (pc := 9) X rfl dX8_keeperOf_9 ?_
    refine gt_X8_21 (pc := 10) X xW_o rfl dX8_keeperOf_10 ?_
    refine gt_X8_123 (pc := 13) X xW_0o rfl dX8_keeperOf_13 ?_
    refine r_iload_n (pc := 16) X rfl dX8_keeperOf_16 ?_
    refine r_aald (pc := 17) X xW_0k rfl rfl (ln) rfl (by omega) (by decide) rfl dX8_keeperOf_17 ?_
    refine r_iload_n (pc := 18) X rfl dX8_keeperOf_18 ?_
    refine ca_X8_174 (pc := 19) X (c_X2_told (xW_0kp (i := ln) (by omega)) w) (xW_0kp (i := ln) (by omega)) rfl rfl rfl dX8_keeperOf_19 (fun r19 M19 hp19 => ?_)
    obtain ⟨rfl, rfl⟩ := hp19
    exact K dX8_keeperOf_22 ⟨told_k (by omega) w, rfl⟩
  · skip
    refine r_iconst (pc := 7) (v := (-1)) X rfl dX8_keeperOf_7 ?_
    exact K dX8_keeperOf_8 ⟨(if_pos (bi_0.mp q4)).symm, rfl⟩

set_option maxHeartbeats 4000000 in
set_option maxRecDepth 100000 in
theorem c_X8_shipOf {G : bkG} {Z : Nat → Prop} {M : bkM} {x : Nat} {S O : Nat → Nat → Int32} {od : Nat → Nat} {sz kp : Int32} {t : Nat → Int32} {ln pc pl : Int32} {pf : Nat → Nat → Int32} {n : Nat} (hk : cOK (S 0) n (O 0)) (k w : Int32) : bkCi G Z Z yX8_shipOf cX8_shipOf 3 (some .int) 5 0 0 [.ref x, .int k, .int w] (xW G x S O od sz kp t ln pc pl pf M) (fun v M' => v = jshipOf (S 0) n k w ∧ M' = (xW G x S O od sz kp t ln pc pl pf M)) := by
  refine bk_meti [some (.ref x), some (.int k), some (.int w)] rfl pf_X8_shipOf rfl rfl (fun E X K => ?_)
  refine r_iload_n (pc := 0) X rfl dX8_shipOf_0 ?_
  refine ca_X8_176 (pc := 1) X (c_X8_isShip k) rfl rfl rfl dX8_shipOf_1 (fun r1 M1 hp1 => ?_)
  obtain ⟨rfl, rfl⟩ := hp1
  refine r_if_eq (pc := 4) X 18 (by decide) dX8_shipOf_4 (fun q4 => ?_) (fun q4 => ?_)
  · skip
    refine r_iconst (pc := 18) (v := (-1)) X rfl dX8_shipOf_18 ?_
    exact K dX8_shipOf_19 ⟨by unfold jshipOf; refine (if_pos ?_).symm; rw [hk.1.2.1]; first | exact jin_ship7 hk.1.1 (bi_0.mp q4) | exact jin_ship hk.1.1 (Or.inr (by rw [← hk.1.2.1]; exact Int32.not_lt.mp q15)), rfl⟩
  · skip
    refine r_iload_n (pc := 7) X rfl dX8_shipOf_7 ?_
    refine r_aload_n (pc := 8) X rfl dX8_shipOf_8 ?_
    refine gt_X8_21 (pc := 9) X xW_o rfl dX8_shipOf_9 ?_
    refine gt_X8_179 (pc := 12) X xW_0o rfl dX8_shipOf_12 ?_
    refine r_icmp_lt (pc := 15) X 20 (by decide) dX8_shipOf_15 (fun q15 => ?_) (fun q15 => ?_)
    · skip
      have hn8 := hk.1.1
      obtain ⟨kn, hkn, rfl⟩ : ∃ j, j < n ∧ k = nI j := by
        obtain ⟨j, hj, rfl⟩ := jin_of (n := 7) rfl (by decide) (bi_n0.mp q4)
        rw [hk.1.2.1] at q15
        exact ⟨j, (nI_ltI (by omega) (by omega)).mp q15, rfl⟩
      obtain ⟨-, ⟨cc, hcc, ec⟩, ⟨hh, hhh, eh⟩⟩ := hk.1.2.2.2 kn (by omega)
      refine r_iload_n (pc := 20) X rfl dX8_shipOf_20 ?_
      refine r_bipush (pc := 21) (v := 6) X rfl dX8_shipOf_21 ?_
      refine r_icmp_ne (pc := 23) X 35 (by decide) dX8_shipOf_23 (fun q23 => ?_) (fun q23 => ?_)
      · skip
        refine r_aload_n (pc := 35) X rfl dX8_shipOf_35 ?_
        refine gt_X8_21 (pc := 36) X xW_o rfl dX8_shipOf_36 ?_
        refine gt_X8_185 (pc := 39) X xW_0o rfl dX8_shipOf_39 ?_
        refine r_iload_n (pc := 42) X rfl dX8_shipOf_42 ?_
        refine r_aald (pc := 43) X xW_0s rfl rfl (kn) rfl (by omega) (by decide) rfl dX8_shipOf_43 ?_
        refine r_iload_n (pc := 44) X rfl dX8_shipOf_44 ?_
        refine ca_X8_189 (pc := 45) X (c_X5_told (xW_0sh (i := kn) (by omega)) hcc hhh ec eh w) (xW_0sh (i := kn) (by omega)) rfl rfl rfl dX8_shipOf_45 (fun r45 M45 hp45 => ?_)
        obtain ⟨rfl, rfl⟩ := hp45
        exact K dX8_shipOf_48 ⟨by rw [hk.2.2.lt (by omega) hkn]; exact told_s hk.1 hkn ec eh hcc hhh w q23, rfl⟩
      · skip
        subst q23
        refine r_aload_n (pc := 26) X rfl dX8_shipOf_26 ?_
        refine gt_X8_21 (pc := 27) X xW_o rfl dX8_shipOf_27 ?_
        refine r_iload_n (pc := 30) X rfl dX8_shipOf_30 ?_
        refine bkV.eq xW_b0 ?_
        refine ca_X8_182 (pc := 31) X (c_X6_placeOf hk.1 hk.2.2 kn hkn) sW_o rfl rfl rfl dX8_shipOf_31 (fun r31 M31 hp31 => ?_)
        obtain ⟨rfl, rfl⟩ := hp31
        refine bkV.eq xW_b0.symm ?_
        exact K dX8_shipOf_34 ⟨(told_s6 hk.1 hkn).symm, rfl⟩
    · skip
      refine r_iconst (pc := 18) (v := (-1)) X rfl dX8_shipOf_18 ?_
      exact K dX8_shipOf_19 ⟨by unfold jshipOf; refine (if_pos ?_).symm; rw [hk.1.2.1]; first | exact jin_ship7 hk.1.1 (bi_0.mp q4) | exact jin_ship hk.1.1 (Or.inr (by rw [← hk.1.2.1]; exact Int32.not_lt.mp q15)), rfl⟩

set_option maxHeartbeats 4000000 in
set_option maxRecDepth 100000 in
theorem c_X8_isLit {G : bkG} {Z : Nat → Prop} {M : bkM} {x : Nat} {S O : Nat → Nat → Int32} {od : Nat → Nat} {sz kp : Int32} {t : Nat → Int32} {ln pc pl : Int32} {pf : Nat → Nat → Int32} {n : Nat} (hk : cOK (S 0) n (O 0)) (l c h w : Int32) : bkCi G Z Z yX8_isLit cX8_isLit 7 (some .int) 5 0 0 [.ref x, .int l, .int c, .int h, .int w] (xW G x S O od sz kp t ln pc pl pf M) (fun v M' => v = jisLit (S 0) l c h w ∧ M' = (xW G x S O od sz kp t ln pc pl pf M)) := by
  refine bk_meti [some (.ref x), some (.int l), some (.int c), some (.int h), some (.int w), none, none] rfl pf_X8_isLit rfl rfl (fun E X K => ?_)
  refine r_iload_n (pc := 0) X rfl dX8_isLit_0 ?_
  refine ca_X8_65 (pc := 1) X (c_X8_isLight l) rfl rfl rfl dX8_isLit_1 (fun r1 M1 hp1 => ?_)
  obtain ⟨rfl, rfl⟩ := hp1
  refine r_if_eq (pc := 4) X 14 (by decide) dX8_isLit_4 (fun q4 => ?_) (fun q4 => ?_)
  · skip
    refine r_iconst (pc := 14) (v := (-1)) X rfl dX8_isLit_14 ?_
    exact K dX8_isLit_15 ⟨(if_pos (by first | exact Or.inl (bi_0.mp q4) | exact Or.inr (bi_0.mp q11))).symm, rfl⟩
  · skip
    refine r_iload_n (pc := 7) X rfl dX8_isLit_7 ?_
    refine ca_X8_158 (pc := 8) X (c_X8_isCell c) rfl rfl rfl dX8_isLit_8 (fun r8 M8 hp8 => ?_)
    obtain ⟨rfl, rfl⟩ := hp8
    refine r_if_ne (pc := 11) X 16 (by decide) dX8_isLit_11 (fun q11 => ?_) (fun q11 => ?_)
    · skip
      obtain ⟨ln, hln, rfl⟩ := jin_of (n := 3) rfl (by decide) (bi_n0.mp q4)
      have tln : tn (nI ln) = ln := tn_nI (by omega)
      obtain ⟨cn, hcn, rfl⟩ := jin_of (n := 99) rfl (by decide) (bi_n0.mp q11)
      have tcn : tn (nI cn) = cn := tn_nI (by omega)
      have hlc : ¬ (jin (nI ln) 0 3 = false ∨ jin (nI cn) 0 99 = false) := by rw [show jin (nI cn) 0 99 = true from jin_nI (j := cn) (n := 99) (by omega) (by decide), show jin (nI ln) 0 3 = true from jin_nI (j := ln) (n := 3) (by omega) (by decide)]; decide
      refine r_iload_n (pc := 16) X rfl dX8_isLit_16 ?_
      refine r_if_lt (pc := 17) X 38 (by decide) dX8_isLit_17 (fun q17 => ?_) (fun q17 => ?_)
      · skip
        refine r_bipush (pc := 38) (v := (-2)) X rfl dX8_isLit_38 ?_
        exact K dX8_isLit_40 ⟨by unfold jisLit; rw [if_neg hlc, if_pos (by first | exact Or.inl (jin_lo q17) | exact Or.inl (jin_hi q24) | exact Or.inr (jin_lo q29) | exact Or.inr (jin_hi (Int32.not_le.mp q35)))], rfl⟩
      · skip
        refine r_iload_n (pc := 20) X rfl dX8_isLit_20 ?_
        refine r_sipush (pc := 21) (v := 20000) X rfl dX8_isLit_21 ?_
        refine r_icmp_gt (pc := 24) X 38 (by decide) dX8_isLit_24 (fun q24 => ?_) (fun q24 => ?_)
        · skip
          refine r_bipush (pc := 38) (v := (-2)) X rfl dX8_isLit_38 ?_
          exact K dX8_isLit_40 ⟨by unfold jisLit; rw [if_neg hlc, if_pos (by first | exact Or.inl (jin_lo q17) | exact Or.inl (jin_hi q24) | exact Or.inr (jin_lo q29) | exact Or.inr (jin_hi (Int32.not_le.mp q35)))], rfl⟩
        · skip
          refine r_iload (pc := 27) X rfl dX8_isLit_27 ?_
          refine r_if_lt (pc := 29) X 38 (by decide) dX8_isLit_29 (fun q29 => ?_) (fun q29 => ?_)
          · skip
            refine r_bipush (pc := 38) (v := (-2)) X rfl dX8_isLit_38 ?_
            exact K dX8_isLit_40 ⟨by unfold jisLit; rw [if_neg hlc, if_pos (by first | exact Or.inl (jin_lo q17) | exact Or.inl (jin_hi q24) | exact Or.inr (jin_lo q29) | exact Or.inr (jin_hi (Int32.not_le.mp q35)))], rfl⟩
          · skip
            refine r_iload (pc := 32) X rfl dX8_isLit_32 ?_
            refine r_iconst (pc := 34) (v := 1) X rfl dX8_isLit_34 ?_
            refine r_icmp_le (pc := 35) X 41 (by decide) dX8_isLit_35 (fun q35 => ?_) (fun q35 => ?_)
            · skip
              have hh0 := jin_ok q17 (Int32.not_lt.mp q24)
              have hw0 := jin_ok q29 q35
              obtain ⟨hn, hhn, rfl⟩ := jin_of (n := 20000) rfl (by decide) hh0
              have e : jisLit (S 0) (nI ln) (nI cn) (nI hn) w = bi (clit (S 0) ln cn (nI hn) 0) := by unfold jisLit; rw [if_neg hlc, if_neg (by rw [hh0, hw0]; decide), tln, tcn, clit_0 hk.2.1 (by omega) (by omega)]
              refine r_aload_n (pc := 41) X rfl dX8_isLit_41 ?_
              refine gt_X8_21 (pc := 42) X xW_o rfl dX8_isLit_42 ?_
              refine gt_X8_73 (pc := 45) X xW_0o rfl dX8_isLit_45 ?_
              refine r_iload_n (pc := 48) X rfl dX8_isLit_48 ?_
              refine r_aald (pc := 49) X xW_0l rfl rfl (ln) rfl (by omega) (by decide) rfl dX8_isLit_49 ?_
              refine r_astore (pc := 50) X rfl rfl dX8_isLit_50 ?_
              refine r_iload (pc := 52) X rfl dX8_isLit_52 ?_
              refine r_if_ne (pc := 54) X 68 (by decide) dX8_isLit_54 (fun q54 => ?_) (fun q54 => ?_)
              · skip
                refine r_aload (pc := 68) X rfl dX8_isLit_68 ?_
                refine r_iload_n (pc := 70) X rfl dX8_isLit_70 ?_
                refine r_iload_n (pc := 71) X rfl dX8_isLit_71 ?_
                refine ca_X8_196 (pc := 72) X (c_X3_meetsOnWalk (xW_0lt (i := ln) (by omega)) (by omega) hk.2.1 cn hn (by omega) (by omega)) (xW_0lt (i := ln) (by omega)) rfl rfl rfl dX8_isLit_72 (fun r72 M72 hp72 => ?_)
                obtain ⟨rfl, rfl⟩ := hp72
                refine r_istore (pc := 75) X rfl rfl dX8_isLit_75 ?_
                refine r_iload (pc := 77) X rfl dX8_isLit_77 ?_
                refine r_if_eq (pc := 79) X 86 (by decide) dX8_isLit_79 (fun q79 => ?_) (fun q79 => ?_)
                · skip
                  refine r_iconst (pc := 86) (v := 0) X rfl dX8_isLit_86 ?_
                  exact K dX8_isLit_87 ⟨by rw [e]; first | exact q79.symm | exact ((bi_01 _).resolve_left q79).symm, rfl⟩
                · skip
                  refine r_iconst (pc := 82) (v := 1) X rfl dX8_isLit_82 ?_
                  refine r_goto (pc := 83) X 87 (by decide) dX8_isLit_83 ?_
                  exact K dX8_isLit_87 ⟨by rw [e]; first | exact q79.symm | exact ((bi_01 _).resolve_left q79).symm, rfl⟩
              · skip
                refine r_aload (pc := 57) X rfl dX8_isLit_57 ?_
                refine r_iload_n (pc := 59) X rfl dX8_isLit_59 ?_
                refine r_iload_n (pc := 60) X rfl dX8_isLit_60 ?_
                refine r_iconst (pc := 61) (v := 0) X rfl dX8_isLit_61 ?_
                refine ca_X8_192 (pc := 62) X (c_X3_lightsCell (xW_0lt (i := ln) (by omega)) (by omega) (xW_bB.2.2 ln (by omega)).1 (xW_bB.2.2 ln (by omega)).2 cn (by omega) (nI hn) 0) (xW_0lt (i := ln) (by omega)) rfl rfl rfl dX8_isLit_62 (fun r62 M62 hp62 => ?_)
                obtain ⟨rfl, rfl⟩ := hp62
                refine r_goto (pc := 65) X 75 (by decide) dX8_isLit_65 ?_
                refine r_istore (pc := 75) X rfl rfl dX8_isLit_75 ?_
                refine r_iload (pc := 77) X rfl dX8_isLit_77 ?_
                refine r_if_eq (pc := 79) X 86 (by decide) dX8_isLit_79 (fun q79 => ?_) (fun q79 => ?_)
                · skip
                  refine r_iconst (pc := 86) (v := 0) X rfl dX8_isLit_86 ?_
                  exact K dX8_isLit_87 ⟨by rw [e]; first | exact q79.symm | exact ((bi_01 _).resolve_left q79).symm, rfl⟩
                · skip
                  refine r_iconst (pc := 82) (v := 1) X rfl dX8_isLit_82 ?_
                  refine r_goto (pc := 83) X 87 (by decide) dX8_isLit_83 ?_
                  exact K dX8_isLit_87 ⟨by rw [e]; first | exact q79.symm | exact ((bi_01 _).resolve_left q79).symm, rfl⟩
            · skip
              refine r_bipush (pc := 38) (v := (-2)) X rfl dX8_isLit_38 ?_
              exact K dX8_isLit_40 ⟨by unfold jisLit; rw [if_neg hlc, if_pos (by first | exact Or.inl (jin_lo q17) | exact Or.inl (jin_hi q24) | exact Or.inr (jin_lo q29) | exact Or.inr (jin_hi (Int32.not_le.mp q35)))], rfl⟩
    · skip
      refine r_iconst (pc := 14) (v := (-1)) X rfl dX8_isLit_14 ?_
      exact K dX8_isLit_15 ⟨(if_pos (by first | exact Or.inl (bi_0.mp q4) | exact Or.inr (bi_0.mp q11))).symm, rfl⟩

set_option maxHeartbeats 4000000 in
set_option maxRecDepth 100000 in
theorem c_X8_why {G : bkG} {Z : Nat → Prop} {M : bkM} {x : Nat} {S O : Nat → Nat → Int32} {od : Nat → Nat} {sz kp : Int32} {t : Nat → Int32} {ln pc pl : Int32} {pf : Nat → Nat → Int32} {n : Nat} (hk : cOK (S 0) n (O 0)) (l c : Int32) : bkCi G Z Z yX8_why cX8_why 3 (some .int) 5 0 0 [.ref x, .int l, .int c] (xW G x S O od sz kp t ln pc pl pf M) (fun v M' => v = jwhy (S 0) l c ∧ M' = (xW G x S O od sz kp t ln pc pl pf M)) := by
  refine bk_meti [some (.ref x), some (.int l), some (.int c)] rfl pf_X8_why rfl rfl (fun E X K => ?_)
  refine r_iload_n (pc := 0) X rfl dX8_why_0 ?_
  refine ca_X8_65 (pc := 1) X (c_X8_isLight l) rfl rfl rfl dX8_why_1 (fun r1 M1 hp1 => ?_)
  obtain ⟨rfl, rfl⟩ := hp1
  refine r_if_eq (pc := 4) X 14 (by decide) dX8_why_4 (fun q4 => ?_) (fun q4 => ?_)
  · skip
    refine r_iconst (pc := 14) (v := (-1)) X rfl dX8_why_14 ?_
    exact K dX8_why_15 ⟨(if_pos (by first | exact Or.inl (bi_0.mp q4) | exact Or.inr (bi_0.mp q11))).symm, rfl⟩
  · skip
    refine r_iload_n (pc := 7) X rfl dX8_why_7 ?_
    refine ca_X8_158 (pc := 8) X (c_X8_isCell c) rfl rfl rfl dX8_why_8 (fun r8 M8 hp8 => ?_)
    obtain ⟨rfl, rfl⟩ := hp8
    refine r_if_ne (pc := 11) X 16 (by decide) dX8_why_11 (fun q11 => ?_) (fun q11 => ?_)
    · skip
      obtain ⟨ln, hln, rfl⟩ := jin_of (n := 3) rfl (by decide) (bi_n0.mp q4)
      have tln : tn (nI ln) = ln := tn_nI (by omega)
      obtain ⟨cn, hcn, rfl⟩ := jin_of (n := 99) rfl (by decide) (bi_n0.mp q11)
      have tcn : tn (nI cn) = cn := tn_nI (by omega)
      refine r_aload_n (pc := 16) X rfl dX8_why_16 ?_
      refine gt_X8_21 (pc := 17) X xW_o rfl dX8_why_17 ?_
      refine gt_X8_73 (pc := 20) X xW_0o rfl dX8_why_20 ?_
      refine r_iload_n (pc := 23) X rfl dX8_why_23 ?_
      refine r_aald (pc := 24) X xW_0l rfl rfl (ln) rfl (by omega) (by decide) rfl dX8_why_24 ?_
      refine r_iload_n (pc := 25) X rfl dX8_why_25 ?_
      refine r_aload_n (pc := 26) X rfl dX8_why_26 ?_
      refine gt_X8_21 (pc := 27) X xW_o rfl dX8_why_27 ?_
      refine gt_X8_77 (pc := 30) X xW_0o rfl dX8_why_30 ?_
      refine ca_X8_199 (pc := 33) X (c_X3_whyDark (xW_0lt (i := ln) (by omega)) (by omega) (xW_bB.2.2 ln (by omega)).1 (xW_bB.2.2 ln (by omega)).2 cn (by omega) (S 0 181)) (xW_0lt (i := ln) (by omega)) rfl rfl rfl dX8_why_33 (fun r33 M33 hp33 => ?_)
      obtain ⟨rfl, rfl⟩ := hp33
      exact K dX8_why_36 ⟨told_w hk.2.1 (by omega) (by omega), rfl⟩
    · skip
      refine r_iconst (pc := 14) (v := (-1)) X rfl dX8_why_14 ?_
      exact K dX8_why_15 ⟨(if_pos (by first | exact Or.inl (bi_0.mp q4) | exact Or.inr (bi_0.mp q11))).symm, rfl⟩

set_option maxHeartbeats 4000000 in
set_option maxRecDepth 100000 in
theorem c_X8_count {G : bkG} {Z : Nat → Prop} {M : bkM} {x : Nat} {S O : Nat → Nat → Int32} {od : Nat → Nat} {sz kp : Int32} {t : Nat → Int32} {ln pc pl : Int32} {pf : Nat → Nat → Int32} {n : Nat} (hk : cOK (S 0) n (O 0)) (w : Int32) : bkCi G Z Z yX8_count cX8_count 2 (some .int) 5 0 0 [.ref x, .int w] (xW G x S O od sz kp t ln pc pl pf M) (fun v M' => v = jcount (S 0) n sz ln w ∧ M' = (xW G x S O od sz kp t ln pc pl pf M)) := by
  refine bk_meti [some (.ref x), some (.int w)] rfl pf_X8_count rfl rfl (fun E X K => ?_)
  refine r_iload_n (pc := 0) X rfl dX8_count_0 ?_
  rcases tb_case 13 (by decide) w with ⟨w9, hw9, rfl⟩ | ⟨hq, hne⟩
  · match w9, hw9 with
    | 0, _ =>
      refine r_tableIn (pc := 1) X 72 (by decide) (by decide) rfl (by decide) dX8_count_1 ?_
      refine r_aload_n (pc := 72) X rfl dX8_count_72 ?_
      refine gt_X8_21 (pc := 73) X xW_o rfl dX8_count_73 ?_
      refine gt_X8_77 (pc := 76) X xW_0o rfl dX8_count_76 ?_
      exact K dX8_count_79 ⟨by first | rfl | (unfold jcount; rw [if_neg n0, if_neg n1, if_neg n2, if_neg n3, if_neg n4, if_neg n5, if_neg n6, if_neg n7, if_neg n8, if_neg n9, if_neg n10, if_neg n11, if_neg n12, if_neg n13]), rfl⟩
    | 1, _ =>
      refine r_tableIn (pc := 1) X 80 (by decide) (by decide) rfl (by decide) dX8_count_1 ?_
      refine r_aload_n (pc := 80) X rfl dX8_count_80 ?_
      refine gt_X8_21 (pc := 81) X xW_o rfl dX8_count_81 ?_
      refine bkV.eq xW_b0 ?_
      refine ca_X8_61 (pc := 84) X (c_X6_rocks) sW_o rfl rfl rfl dX8_count_84 (fun r84 M84 hp84 => ?_)
      obtain ⟨rfl, rfl⟩ := hp84
      refine bkV.eq xW_b0.symm ?_
      exact K dX8_count_87 ⟨(jsm_rocks 100 hk.1.2.2.1).symm, rfl⟩
    | 2, _ =>
      refine r_tableIn (pc := 1) X 88 (by decide) (by decide) rfl (by decide) dX8_count_1 ?_
      refine r_aload_n (pc := 88) X rfl dX8_count_88 ?_
      refine gt_X8_21 (pc := 89) X xW_o rfl dX8_count_89 ?_
      refine gt_X8_179 (pc := 92) X xW_0o rfl dX8_count_92 ?_
      exact K dX8_count_95 ⟨by first | rfl | (unfold jcount; rw [if_neg n0, if_neg n1, if_neg n2, if_neg n3, if_neg n4, if_neg n5, if_neg n6, if_neg n7, if_neg n8, if_neg n9, if_neg n10, if_neg n11, if_neg n12, if_neg n13]), rfl⟩
    | 3, _ =>
      refine r_tableIn (pc := 1) X 96 (by decide) (by decide) rfl (by decide) dX8_count_1 ?_
      refine r_aload_n (pc := 96) X rfl dX8_count_96 ?_
      refine gt_X8_21 (pc := 97) X xW_o rfl dX8_count_97 ?_
      refine r_iconst (pc := 100) (v := 0) X rfl dX8_count_100 ?_
      refine bkV.eq xW_b0 ?_
      refine ca_X8_202 (pc := 101) X (c_X6_shipsThatAre hk.1.1 hk.2.2 0 (by decide)) sW_o rfl rfl rfl dX8_count_101 (fun r101 M101 hp101 => ?_)
      obtain ⟨rfl, rfl⟩ := hp101
      refine bkV.eq xW_b0.symm ?_
      exact K dX8_count_104 ⟨congrArg nI (jpc8_jset (jst (S 0) 0) hk.1.1).symm, rfl⟩
    | 4, _ =>
      refine r_tableIn (pc := 1) X 105 (by decide) (by decide) rfl (by decide) dX8_count_1 ?_
      refine r_aload_n (pc := 105) X rfl dX8_count_105 ?_
      refine gt_X8_21 (pc := 106) X xW_o rfl dX8_count_106 ?_
      refine r_iconst (pc := 109) (v := 1) X rfl dX8_count_109 ?_
      refine bkV.eq xW_b0 ?_
      refine ca_X8_202 (pc := 110) X (c_X6_shipsThatAre hk.1.1 hk.2.2 1 (by decide)) sW_o rfl rfl rfl dX8_count_110 (fun r110 M110 hp110 => ?_)
      obtain ⟨rfl, rfl⟩ := hp110
      refine bkV.eq xW_b0.symm ?_
      exact K dX8_count_113 ⟨congrArg nI (jpc8_jset (jst (S 0) 1) hk.1.1).symm, rfl⟩
    | 5, _ =>
      refine r_tableIn (pc := 1) X 114 (by decide) (by decide) rfl (by decide) dX8_count_1 ?_
      refine r_aload_n (pc := 114) X rfl dX8_count_114 ?_
      refine gt_X8_21 (pc := 115) X xW_o rfl dX8_count_115 ?_
      refine r_iconst (pc := 118) (v := 2) X rfl dX8_count_118 ?_
      refine bkV.eq xW_b0 ?_
      refine ca_X8_202 (pc := 119) X (c_X6_shipsThatAre hk.1.1 hk.2.2 2 (by decide)) sW_o rfl rfl rfl dX8_count_119 (fun r119 M119 hp119 => ?_)
      obtain ⟨rfl, rfl⟩ := hp119
      refine bkV.eq xW_b0.symm ?_
      exact K dX8_count_122 ⟨congrArg nI (jpc8_jset (jst (S 0) 2) hk.1.1).symm, rfl⟩
    | 6, _ =>
      refine r_tableIn (pc := 1) X 123 (by decide) (by decide) rfl (by decide) dX8_count_1 ?_
      refine r_aload_n (pc := 123) X rfl dX8_count_123 ?_
      refine gt_X8_21 (pc := 124) X xW_o rfl dX8_count_124 ?_
      refine r_iconst (pc := 127) (v := 1) X rfl dX8_count_127 ?_
      refine bkV.eq xW_b0 ?_
      refine ca_X8_205 (pc := 128) X (c_X6_litCells xW_bB (by omega) hk.2.1 true) sW_o rfl rfl rfl dX8_count_128 (fun r128 M128 hp128 => ?_)
      obtain ⟨rfl, rfl⟩ := hp128
      refine bkV.eq xW_b0.symm ?_
      exact K dX8_count_131 ⟨by first | rfl | (unfold jcount; rw [if_neg n0, if_neg n1, if_neg n2, if_neg n3, if_neg n4, if_neg n5, if_neg n6, if_neg n7, if_neg n8, if_neg n9, if_neg n10, if_neg n11, if_neg n12, if_neg n13]), rfl⟩
    | 7, _ =>
      refine r_tableIn (pc := 1) X 132 (by decide) (by decide) rfl (by decide) dX8_count_1 ?_
      refine r_aload_n (pc := 132) X rfl dX8_count_132 ?_
      refine gt_X8_21 (pc := 133) X xW_o rfl dX8_count_133 ?_
      refine r_iconst (pc := 136) (v := 0) X rfl dX8_count_136 ?_
      refine bkV.eq xW_b0 ?_
      refine ca_X8_205 (pc := 137) X (c_X6_litCells xW_bB (by omega) hk.2.1 false) sW_o rfl rfl rfl dX8_count_137 (fun r137 M137 hp137 => ?_)
      obtain ⟨rfl, rfl⟩ := hp137
      refine bkV.eq xW_b0.symm ?_
      exact K dX8_count_140 ⟨by first | rfl | (unfold jcount; rw [if_neg n0, if_neg n1, if_neg n2, if_neg n3, if_neg n4, if_neg n5, if_neg n6, if_neg n7, if_neg n8, if_neg n9, if_neg n10, if_neg n11, if_neg n12, if_neg n13]), rfl⟩
    | 8, _ =>
      refine r_tableIn (pc := 1) X 141 (by decide) (by decide) rfl (by decide) dX8_count_1 ?_
      refine r_aload_n (pc := 141) X rfl dX8_count_141 ?_
      refine gt_X8_21 (pc := 142) X xW_o rfl dX8_count_142 ?_
      refine bkV.eq xW_b0 ?_
      refine ca_X8_209 (pc := 145) X (c_X6_debts) sW_o rfl rfl rfl dX8_count_145 (fun r145 M145 hp145 => ?_)
      obtain ⟨rfl, rfl⟩ := hp145
      refine bkV.eq xW_b0.symm ?_
      exact K dX8_count_148 ⟨by first | rfl | (unfold jcount; rw [if_neg n0, if_neg n1, if_neg n2, if_neg n3, if_neg n4, if_neg n5, if_neg n6, if_neg n7, if_neg n8, if_neg n9, if_neg n10, if_neg n11, if_neg n12, if_neg n13]), rfl⟩
    | 9, _ =>
      refine r_tableIn (pc := 1) X 149 (by decide) (by decide) rfl (by decide) dX8_count_1 ?_
      refine r_aload_n (pc := 149) X rfl dX8_count_149 ?_
      refine gt_X8_21 (pc := 150) X xW_o rfl dX8_count_150 ?_
      refine bkV.eq xW_b0 ?_
      refine ca_X8_212 (pc := 153) X (c_X6_paid) sW_o rfl rfl rfl dX8_count_153 (fun r153 M153 hp153 => ?_)
      obtain ⟨rfl, rfl⟩ := hp153
      refine bkV.eq xW_b0.symm ?_
      exact K dX8_count_156 ⟨by first | rfl | (unfold jcount; rw [if_neg n0, if_neg n1, if_neg n2, if_neg n3, if_neg n4, if_neg n5, if_neg n6, if_neg n7, if_neg n8, if_neg n9, if_neg n10, if_neg n11, if_neg n12, if_neg n13]), rfl⟩
    | 10, _ =>
      refine r_tableIn (pc := 1) X 157 (by decide) (by decide) rfl (by decide) dX8_count_1 ?_
      refine r_aload_n (pc := 157) X rfl dX8_count_157 ?_
      refine gt_X8_21 (pc := 158) X xW_o rfl dX8_count_158 ?_
      refine bkV.eq xW_b0 ?_
      refine ca_X8_215 (pc := 161) X (c_X6_worthHome hk.1.1 hk.2.2) sW_o rfl rfl rfl dX8_count_161 (fun r161 M161 hp161 => ?_)
      obtain ⟨rfl, rfl⟩ := hp161
      refine bkV.eq xW_b0.symm ?_
      exact K dX8_count_164 ⟨by first | rfl | (unfold jcount; rw [if_neg n0, if_neg n1, if_neg n2, if_neg n3, if_neg n4, if_neg n5, if_neg n6, if_neg n7, if_neg n8, if_neg n9, if_neg n10, if_neg n11, if_neg n12, if_neg n13]), rfl⟩
    | 11, _ =>
      refine r_tableIn (pc := 1) X 165 (by decide) (by decide) rfl (by decide) dX8_count_1 ?_
      refine r_aload_n (pc := 165) X rfl dX8_count_165 ?_
      refine gt_X8_38 (pc := 166) X xW_o rfl dX8_count_166 ?_
      refine gt_X8_218 (pc := 169) X xW_h rfl dX8_count_169 ?_
      exact K dX8_count_172 ⟨by first | rfl | (unfold jcount; rw [if_neg n0, if_neg n1, if_neg n2, if_neg n3, if_neg n4, if_neg n5, if_neg n6, if_neg n7, if_neg n8, if_neg n9, if_neg n10, if_neg n11, if_neg n12, if_neg n13]), rfl⟩
    | 12, _ =>
      refine r_tableIn (pc := 1) X 173 (by decide) (by decide) rfl (by decide) dX8_count_1 ?_
      refine r_aload_n (pc := 173) X rfl dX8_count_173 ?_
      refine gt_X8_45 (pc := 174) X xW_o rfl dX8_count_174 ?_
      refine gt_X8_151 (pc := 177) X xW_t rfl dX8_count_177 ?_
      exact K dX8_count_180 ⟨by first | rfl | (unfold jcount; rw [if_neg n0, if_neg n1, if_neg n2, if_neg n3, if_neg n4, if_neg n5, if_neg n6, if_neg n7, if_neg n8, if_neg n9, if_neg n10, if_neg n11, if_neg n12, if_neg n13]), rfl⟩
    | 13, _ =>
      refine r_tableIn (pc := 1) X 181 (by decide) (by decide) rfl (by decide) dX8_count_1 ?_
      refine r_aload_n (pc := 181) X rfl dX8_count_181 ?_
      refine gt_X8_21 (pc := 182) X xW_o rfl dX8_count_182 ?_
      refine gt_X8_144 (pc := 185) X xW_0o rfl dX8_count_185 ?_
      exact K dX8_count_188 ⟨by first | rfl | (unfold jcount; rw [if_neg n0, if_neg n1, if_neg n2, if_neg n3, if_neg n4, if_neg n5, if_neg n6, if_neg n7, if_neg n8, if_neg n9, if_neg n10, if_neg n11, if_neg n12, if_neg n13]), rfl⟩
    | w9 + 14, hw9 => exact absurd hw9 (by omega)
  · refine r_tableOut (pc := 1) X 189 hq (by decide) dX8_count_1 ?_
    have n0 : w ≠ 0 := hne 0 (by omega)
    have n1 : w ≠ 1 := hne 1 (by omega)
    have n2 : w ≠ 2 := hne 2 (by omega)
    have n3 : w ≠ 3 := hne 3 (by omega)
    have n4 : w ≠ 4 := hne 4 (by omega)
    have n5 : w ≠ 5 := hne 5 (by omega)
    have n6 : w ≠ 6 := hne 6 (by omega)
    have n7 : w ≠ 7 := hne 7 (by omega)
    have n8 : w ≠ 8 := hne 8 (by omega)
    have n9 : w ≠ 9 := hne 9 (by omega)
    have n10 : w ≠ 10 := hne 10 (by omega)
    have n11 : w ≠ 11 := hne 11 (by omega)
    have n12 : w ≠ 12 := hne 12 (by omega)
    have n13 : w ≠ 13 := hne 13 (by omega)
    refine r_bipush (pc := 189) (v := (-2)) X rfl dX8_count_189 ?_
    exact K dX8_count_191 ⟨by first | rfl | (unfold jcount; rw [if_neg n0, if_neg n1, if_neg n2, if_neg n3, if_neg n4, if_neg n5, if_neg n6, if_neg n7, if_neg n8, if_neg n9, if_neg n10, if_neg n11, if_neg n12, if_neg n13]), rfl⟩

set_option maxHeartbeats 4000000 in
set_option maxRecDepth 100000 in
theorem c_X8_share {G : bkG} {Z : Nat → Prop} {M : bkM} {x : Nat} {S O : Nat → Nat → Int32} {od : Nat → Nat} {sz kp : Int32} {t : Nat → Int32} {ln pc pl : Int32} {pf : Nat → Nat → Int32} {n : Nat} (hk : cOK (S 0) n (O 0)) (c : Int32) : bkCf G Z Z yX8_share cX8_share 4 5 0 0 [.ref x, .int c] (xW G x S O od sz kp t ln pc pl pf M) (fun v M' => v = jshare (S 0) c ∧ M' = (xW G x S O od sz kp t ln pc pl pf M)) := by
  refine bk_metf [some (.ref x), some (.int c), none, none] rfl pf_X8_share rfl rfl (fun E X K => ?_)
  refine r_iload_n (pc := 0) X rfl dX8_share_0 ?_
  refine ca_X8_158 (pc := 1) X (c_X8_isCell c) rfl rfl rfl dX8_share_1 (fun r1 M1 hp1 => ?_)
  obtain ⟨rfl, rfl⟩ := hp1
  refine r_if_ne (pc := 4) X 10 (by decide) dX8_share_4 (fun q4 => ?_) (fun q4 => ?_)
  · skip
    obtain ⟨cn, hcn, rfl⟩ := jin_of (n := 99) rfl (by decide) (bi_n0.mp q4)
    have tcn : tn (nI cn) = cn := tn_nI (by omega)
    refine r_iconst (pc := 10) (v := 0) X rfl dX8_share_10 ?_
    refine r_istore_n (pc := 11) X rfl rfl dX8_share_11 ?_
    refine r_iconst (pc := 12) (v := 0) X rfl dX8_share_12 ?_
    refine r_istore_n (pc := 13) X rfl rfl dX8_share_13 ?_
    have lp14 : ∀ (d j : Nat) (z : Int32) (y : Int32), j ≤ 8 → 8 < j + d → (z = nI (jct (fun j => jlt (S 0) cn (nI j) 0) j)) → (y = nI j) → bkV E G Z 0 0 (xW G x S O od sz kp t ln pc pl pf M) 14 [some (.ref x), some (.int (nI cn)), some (.int z), some (.int y)] [] := by
      intro d
      induction d with
      | zero => intro j z y; intros; exfalso; omega
      | succ d ih =>
        intro j z y hj hd e1 e2
        subst e1
        subst e2
        refine r_iload_n (pc := 14) X rfl dX8_share_14 ?_
        refine r_bipush (pc := 15) (v := 8) X rfl dX8_share_15 ?_
        refine r_icmpN_ge (pc := 17) X 50 (j) (8) rfl rfl (by omega) (by omega) (by decide) dX8_share_17 (fun q17 => ?_) (fun q17 => ?_)
        · skip
          refine r_iload_n (pc := 50) X rfl dX8_share_50 ?_
          refine r_i2f (pc := 51) X dX8_share_51 ?_
          refine r_ldcf (pc := 52) X co_X8_222 dX8_share_52 ?_
          refine r_fdiv (pc := 54) X (jsh_n _ (by have := jct_le (fun j => jlt (S 0) cn (nI j) 0) j; omega)) dX8_share_54 ?_
          exact K dX8_share_55 ⟨by unfold jshare; rw [if_neg (by rw [show jin (nI cn) 0 99 = true from jin_nI (j := cn) (n := 99) (by omega) (by decide)]; decide), tcn, show j = 8 by omega]; rfl, rfl⟩
        · skip
          refine r_aload_n (pc := 20) X rfl dX8_share_20 ?_
          refine gt_X8_21 (pc := 21) X xW_o rfl dX8_share_21 ?_
          refine r_iload_n (pc := 24) X rfl dX8_share_24 ?_
          refine r_aload_n (pc := 25) X rfl dX8_share_25 ?_
          refine gt_X8_21 (pc := 26) X xW_o rfl dX8_share_26 ?_
          refine gt_X8_77 (pc := 29) X xW_0o rfl dX8_share_29 ?_
          refine r_iload_n (pc := 32) X rfl dX8_share_32 ?_
          refine r_iadd (pc := 33) X dX8_share_33 ?_
          refine r_iconst (pc := 34) (v := 0) X rfl dX8_share_34 ?_
          refine bkV.eq xW_b0 ?_
          refine ca_X8_167 (pc := 35) X (c_X6_litBy xW_bB (by omega) cn (by omega) (S 0 181 + nI j) 0) sW_o rfl rfl rfl dX8_share_35 (fun r35 M35 hp35 => ?_)
          obtain ⟨rfl, rfl⟩ := hp35
          refine bkV.eq xW_b0.symm ?_
          refine r_if_eq (pc := 38) X 44 (by decide) dX8_share_38 (fun q38 => ?_) (fun q38 => ?_)
          · skip
            have hj := (cby_lt (h := 0) hk.2.1 (by omega) (by omega)).mp q38
            refine r_iinc (pc := 44) X rfl rfl rfl dX8_share_44 ?_
            refine r_goto (pc := 47) X 14 (by decide) dX8_share_47 ?_
            refine ih (j + 1) _ _ (by omega) (by omega) ?_ (nI_1 j)
            first | exact jct_t hj | exact jct_f0 hj
          · skip
            have hj : jlt (S 0) cn (nI j) 0 = true := by
              cases e : jlt (S 0) cn (nI j) 0
              · exact absurd ((cby_lt (h := 0) hk.2.1 (by omega) (by omega)).mpr e) q38
              · rfl
            refine r_iinc (pc := 41) X rfl rfl rfl dX8_share_41 ?_
            refine r_iinc (pc := 44) X rfl rfl rfl dX8_share_44 ?_
            refine r_goto (pc := 47) X 14 (by decide) dX8_share_47 ?_
            refine ih (j + 1) _ _ (by omega) (by omega) ?_ (nI_1 j)
            first | exact jct_t hj | exact jct_f0 hj
    exact lp14 (8 + 1) 0 _ _ (by omega) (by omega) rfl rfl
  · skip
    refine r_ldcf (pc := 7) X co_X8_221 dX8_share_7 ?_
    exact K dX8_share_9 ⟨(if_pos (bi_0.mp q4)).symm, rfl⟩

set_option maxHeartbeats 4000000 in
set_option maxRecDepth 100000 in
theorem c_X8_litIn {G : bkG} {Z : Nat → Prop} {M : bkM} {x : Nat} {S O : Nat → Nat → Int32} {od : Nat → Nat} {sz kp : Int32} {t : Nat → Int32} {ln pc pl : Int32} {pf : Nat → Nat → Int32} {n : Nat} (hk : cOK (S 0) n (O 0)) (c : Int32) : bkCi G Z Z yX8_litIn cX8_litIn 3 (some .int) 5 0 0 [.ref x, .int c] (xW G x S O od sz kp t ln pc pl pf M) (fun v M' => v = jlitIn (S 0) c ∧ M' = (xW G x S O od sz kp t ln pc pl pf M)) := by
  refine bk_meti [some (.ref x), some (.int c), none] rfl pf_X8_litIn rfl rfl (fun E X K => ?_)
  refine r_iload_n (pc := 0) X rfl dX8_litIn_0 ?_
  refine ca_X8_158 (pc := 1) X (c_X8_isCell c) rfl rfl rfl dX8_litIn_1 (fun r1 M1 hp1 => ?_)
  obtain ⟨rfl, rfl⟩ := hp1
  refine r_if_ne (pc := 4) X 9 (by decide) dX8_litIn_4 (fun q4 => ?_) (fun q4 => ?_)
  · skip
    obtain ⟨cn, hcn, rfl⟩ := jin_of (n := 99) rfl (by decide) (bi_n0.mp q4)
    have tcn : tn (nI cn) = cn := tn_nI (by omega)
    refine r_iconst (pc := 9) (v := 0) X rfl dX8_litIn_9 ?_
    refine r_istore_n (pc := 10) X rfl rfl dX8_litIn_10 ?_
    have lp11 : ∀ (d j : Nat) (y : Int32), j ≤ 41 → 41 < j + d → (y = nI j) → (jlitIn (S 0) (nI cn) = jfind (fun j => jlt (S 0) cn (nI j) (nI j)) j (41 - j)) → bkV E G Z 0 0 (xW G x S O od sz kp t ln pc pl pf M) 11 [some (.ref x), some (.int (nI cn)), some (.int y)] [] := by
      intro d
      induction d with
      | zero => intro j y; intros; exfalso; omega
      | succ d ih =>
        intro j y hj hd e1 e2
        subst e1
        refine r_iload_n (pc := 11) X rfl dX8_litIn_11 ?_
        refine r_bipush (pc := 12) (v := 40) X rfl dX8_litIn_12 ?_
        refine r_icmpN_gt (pc := 14) X 46 (j) (40) rfl rfl (by omega) (by omega) (by decide) dX8_litIn_14 (fun q14 => ?_) (fun q14 => ?_)
        · skip
          obtain rfl : j = 41 := by omega
          refine r_bipush (pc := 46) (v := (-5)) X rfl dX8_litIn_46 ?_
          exact K dX8_litIn_48 ⟨(e2.trans jfind_end).symm, rfl⟩
        · skip
          refine r_aload_n (pc := 17) X rfl dX8_litIn_17 ?_
          refine gt_X8_21 (pc := 18) X xW_o rfl dX8_litIn_18 ?_
          refine r_iload_n (pc := 21) X rfl dX8_litIn_21 ?_
          refine r_aload_n (pc := 22) X rfl dX8_litIn_22 ?_
          refine gt_X8_21 (pc := 23) X xW_o rfl dX8_litIn_23 ?_
          refine gt_X8_77 (pc := 26) X xW_0o rfl dX8_litIn_26 ?_
          refine r_iload_n (pc := 29) X rfl dX8_litIn_29 ?_
          refine r_iadd (pc := 30) X dX8_litIn_30 ?_
          refine r_iload_n (pc := 31) X rfl dX8_litIn_31 ?_
          refine bkV.eq xW_b0 ?_
          refine ca_X8_167 (pc := 32) X (c_X6_litBy xW_bB (by omega) cn (by omega) (S 0 181 + nI j) (nI j)) sW_o rfl rfl rfl dX8_litIn_32 (fun r32 M32 hp32 => ?_)
          obtain ⟨rfl, rfl⟩ := hp32
          refine bkV.eq xW_b0.symm ?_
          refine r_if_eq (pc := 35) X 40 (by decide) dX8_litIn_35 (fun q35 => ?_) (fun q35 => ?_)
          · skip
            have hj := (cby_lt hk.2.1 (by omega) (by omega)).mp q35
            refine r_iinc (pc := 40) X rfl rfl rfl dX8_litIn_40 ?_
            refine r_goto (pc := 43) X 11 (by decide) dX8_litIn_43 ?_
            exact ih (j + 1) _ (by omega) (by omega) (nI_1 j) (e2.trans (jfind_miss (by omega) hj))
          · skip
            have hj : jlt (S 0) cn (nI j) (nI j) = true := by
              cases e : jlt (S 0) cn (nI j) (nI j)
              · exact absurd ((cby_lt hk.2.1 (by omega) (by omega)).mpr e) q35
              · rfl
            refine r_iload_n (pc := 38) X rfl dX8_litIn_38 ?_
            exact K dX8_litIn_39 ⟨(e2.trans (jfind_hit (by omega) hj)).symm, rfl⟩
    exact lp11 (41 + 1) 0 _ (by omega) (by omega) rfl (by unfold jlitIn; rw [if_neg (by rw [show jin (nI cn) 0 99 = true from jin_nI (j := cn) (n := 99) (by omega) (by decide)]; decide), tcn])
  · skip
    refine r_iconst (pc := 7) (v := (-1)) X rfl dX8_litIn_7 ?_
    exact K dX8_litIn_8 ⟨(if_pos (bi_0.mp q4)).symm, rfl⟩

