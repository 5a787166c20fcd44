set_option maxHeartbeats 4000000 in
set_option maxRecDepth 100000 in
theorem c_X9_cellOf {G : bkG} {Z : Nat → Prop} {M : bkM} {r : Nat} {s a p q t o f : Nat → Int32} {n : Nat} (hw : jwf s n) (c w : Int32) : bkCi G Z Z yX9_cellOf cX9_cellOf 3 (some .int) 5 0 0 [.ref r, .int c, .int w] (mW G M r s a p q t o f) (fun v M' => v = jcellOf s n c w ∧ M' = (mW G M r s a p q t o f)) := by
  refine bk_meti [some (.ref r), some (.int c), some (.int w)] rfl pf_X9_cellOf rfl rfl (fun E X K => ?_)
  refine r_iload_n (pc := 0) X rfl dX9_cellOf_0 ?_
  refine ca_X9_77 (pc := 1) X (c_X9_isCell c) rfl rfl rfl dX9_cellOf_1 (fun r1 M1 hp1 => ?_)
  obtain ⟨rfl, rfl⟩ := hp1
  refine r_if_ne (pc := 4) X 9 (by decide) dX9_cellOf_4 (fun q4 => ?_) (fun q4 => ?_)
  · skip
    obtain ⟨cn, hcn, rfl⟩ := jin_of (n := 99) rfl (by decide) (bi_n0.mp q4)
    have tcn : tn (nI cn) = cn := tn_nI (by omega)
    refine r_iload_n (pc := 9) X rfl dX9_cellOf_9 ?_
    rcases tb_case 3 (by decide) w with ⟨w9, hw9, rfl⟩ | ⟨hq, hne⟩
    · match w9, hw9 with
      | 0, _ =>
        refine r_tableIn (pc := 10) X 40 (by decide) (by decide) rfl (by decide) dX9_cellOf_10 ?_
        refine r_aload_n (pc := 40) X rfl dX9_cellOf_40 ?_
        refine gt_X9_7 (pc := 41) X mW_0 rfl dX9_cellOf_41 ?_
        refine r_iconst (pc := 44) (v := 0) X rfl dX9_cellOf_44 ?_
        refine r_iload_n (pc := 45) X rfl dX9_cellOf_45 ?_
        refine r_iadd (pc := 46) X dX9_cellOf_46 ?_
        refine r_iald (pc := 47) X mW_1 (cn) (Int32.zero_add _) (by omega) (by decide) dX9_cellOf_47 ?_
        exact K dX9_cellOf_48 ⟨by unfold jcellOf; rw [if_neg (by rw [show jin (nI cn) 0 99 = true from jin_nI (j := cn) (n := 99) (by omega) (by decide)]; decide), tcn]; first | rfl | (rw [if_neg n0, if_neg n1, if_neg n2, if_neg n3]), rfl⟩
      | 1, _ =>
        refine r_tableIn (pc := 10) X 49 (by decide) (by decide) rfl (by decide) dX9_cellOf_10 ?_
        refine r_aload_n (pc := 49) X rfl dX9_cellOf_49 ?_
        refine r_iload_n (pc := 50) X rfl dX9_cellOf_50 ?_
        refine ca_X9_103 (pc := 51) X (c_X9_shipIn hw.1 hw.2.1 (nI cn)) mW_0 rfl rfl rfl dX9_cellOf_51 (fun r51 M51 hp51 => ?_)
        obtain ⟨rfl, rfl⟩ := hp51
        exact K dX9_cellOf_54 ⟨by unfold jcellOf; rw [if_neg (by rw [show jin (nI cn) 0 99 = true from jin_nI (j := cn) (n := 99) (by omega) (by decide)]; decide), tcn]; first | rfl | (rw [if_neg n0, if_neg n1, if_neg n2, if_neg n3]), rfl⟩
      | 2, _ =>
        refine r_tableIn (pc := 10) X 55 (by decide) (by decide) rfl (by decide) dX9_cellOf_10 ?_
        refine r_aload_n (pc := 55) X rfl dX9_cellOf_55 ?_
        refine r_iload_n (pc := 56) X rfl dX9_cellOf_56 ?_
        refine ca_X9_116 (pc := 57) X (c_X9_lightsOn cn (by omega)) mW_0 rfl rfl rfl dX9_cellOf_57 (fun r57 M57 hp57 => ?_)
        obtain ⟨rfl, rfl⟩ := hp57
        exact K dX9_cellOf_60 ⟨by unfold jcellOf; rw [if_neg (by rw [show jin (nI cn) 0 99 = true from jin_nI (j := cn) (n := 99) (by omega) (by decide)]; decide), tcn]; first | rfl | (rw [if_neg n0, if_neg n1, if_neg n2, if_neg n3]), rfl⟩
      | 3, _ =>
        refine r_tableIn (pc := 10) X 61 (by decide) (by decide) rfl (by decide) dX9_cellOf_10 ?_
        refine r_iload_n (pc := 61) X rfl dX9_cellOf_61 ?_
        refine ca_X9_119 (pc := 62) X (c_X9_nearest cn (by omega)) rfl rfl rfl dX9_cellOf_62 (fun r62 M62 hp62 => ?_)
        obtain ⟨rfl, rfl⟩ := hp62
        exact K dX9_cellOf_65 ⟨by unfold jcellOf; rw [if_neg (by rw [show jin (nI cn) 0 99 = true from jin_nI (j := cn) (n := 99) (by omega) (by decide)]; decide), tcn]; first | rfl | (rw [if_neg n0, if_neg n1, if_neg n2, if_neg n3]), rfl⟩
      | w9 + 4, hw9 => exact absurd hw9 (by omega)
    · refine r_tableOut (pc := 10) X 66 hq (by decide) dX9_cellOf_10 ?_
      have n0 : w ≠ 0 := hne 0 (by omega)
      have n1 : w ≠ 1 := hne 1 (by omega)
      have n2 : w ≠ 2 := hne 2 (by omega)
      have n3 : w ≠ 3 := hne 3 (by omega)
      refine r_bipush (pc := 66) (v := (-2)) X rfl dX9_cellOf_66 ?_
      exact K dX9_cellOf_68 ⟨by unfold jcellOf; rw [if_neg (by rw [show jin (nI cn) 0 99 = true from jin_nI (j := cn) (n := 99) (by omega) (by decide)]; decide), tcn]; first | rfl | (rw [if_neg n0, if_neg n1, if_neg n2, if_neg n3]), rfl⟩
  · skip
    refine r_iconst (pc := 7) (v := (-1)) X rfl dX9_cellOf_7 ?_
    exact K dX9_cellOf_8 ⟨(if_pos (bi_0.mp q4)).symm, rfl⟩

set_option maxHeartbeats 4000000 in
set_option maxRecDepth 100000 in
theorem c_X9_lightOf {G : bkG} {Z : Nat → Prop} {M : bkM} {r : Nat} {s a p q t o f : Nat → Int32} (l w : Int32) : bkCi G Z Z yX9_lightOf cX9_lightOf 3 (some .int) 5 0 0 [.ref r, .int l, .int w] (mW G M r s a p q t o f) (fun v M' => v = jlightOf s l w ∧ M' = (mW G M r s a p q t o f)) := by
  refine bk_meti [some (.ref r), some (.int l), some (.int w)] rfl pf_X9_lightOf rfl rfl (fun E X K => ?_)
  refine r_iload_n (pc := 0) X rfl dX9_lightOf_0 ?_
  refine ca_X9_94 (pc := 1) X (c_X9_isLight l) rfl rfl rfl dX9_lightOf_1 (fun r1 M1 hp1 => ?_)
  obtain ⟨rfl, rfl⟩ := hp1
  refine r_if_ne (pc := 4) X 9 (by decide) dX9_lightOf_4 (fun q4 => ?_) (fun q4 => ?_)
  · skip
    obtain ⟨ln, hln, rfl⟩ := jin_of (n := 3) rfl (by decide) (bi_n0.mp q4)
    have tln : tn (nI ln) = ln := tn_nI (by omega)
    refine r_iload_n (pc := 9) X rfl dX9_lightOf_9 ?_
    refine r_iconst (pc := 10) (v := 0) X rfl dX9_lightOf_10 ?_
    refine r_bipush (pc := 11) (v := 6) X rfl dX9_lightOf_11 ?_
    refine ca_X9_36 (pc := 13) X (c_X9_in w 0 6) rfl rfl rfl dX9_lightOf_13 (fun r13 M13 hp13 => ?_)
    obtain ⟨rfl, rfl⟩ := hp13
    refine r_if_ne (pc := 16) X 24 (by decide) dX9_lightOf_16 (fun q16 => ?_) (fun q16 => ?_)
    · skip
      obtain ⟨wn, hwn, rfl⟩ := jin_of (n := 6) rfl (by decide) (bi_n0.mp q16)
      have twn : tn (nI wn) = wn := tn_nI (by omega)
      refine r_iload_n (pc := 24) X rfl dX9_lightOf_24 ?_
      refine r_iconst (pc := 25) (v := 5) X rfl dX9_lightOf_25 ?_
      refine r_icmpN_ge (pc := 26) X 42 (wn) (5) rfl rfl (by omega) (by omega) (by decide) dX9_lightOf_26 (fun q26 => ?_) (fun q26 => ?_)
      · skip
        refine r_iload_n (pc := 42) X rfl dX9_lightOf_42 ?_
        refine r_iconst (pc := 43) (v := 5) X rfl dX9_lightOf_43 ?_
        refine r_icmpN_ne (pc := 44) X 63 (wn) (5) rfl rfl (by omega) (by omega) (by decide) dX9_lightOf_44 (fun q44 => ?_) (fun q44 => ?_)
        · skip
          refine r_aload_n (pc := 63) X rfl dX9_lightOf_63 ?_
          refine r_iload_n (pc := 64) X rfl dX9_lightOf_64 ?_
          refine ca_X9_206 (pc := 65) X (c_X9_litCells ln (by omega)) mW_0 rfl rfl rfl dX9_lightOf_65 (fun r65 M65 hp65 => ?_)
          obtain ⟨rfl, rfl⟩ := hp65
          exact K dX9_lightOf_68 ⟨by clear K X; grind [jlightOf, bi_0, bi_n0], rfl⟩
        · skip
          refine r_aload_n (pc := 47) X rfl dX9_lightOf_47 ?_
          refine r_iload_n (pc := 48) X rfl dX9_lightOf_48 ?_
          refine r_aload_n (pc := 49) X rfl dX9_lightOf_49 ?_
          refine gt_X9_7 (pc := 50) X mW_0 rfl dX9_lightOf_50 ?_
          refine r_sipush (pc := 53) (v := 181) X rfl dX9_lightOf_53 ?_
          refine r_iald (pc := 56) X mW_1 (181) rfl (by omega) (by decide) dX9_lightOf_56 ?_
          refine ca_X9_60 (pc := 57) X (c_X9_beam ln (by omega) (s 181)) mW_0 rfl rfl rfl dX9_lightOf_57 (fun r57 M57 hp57 => ?_)
          obtain ⟨rfl, rfl⟩ := hp57
          refine r_goto (pc := 60) X 68 (by decide) dX9_lightOf_60 ?_
          exact K dX9_lightOf_68 ⟨by clear K X; grind [jlightOf, bi_0, bi_n0], rfl⟩
      · skip
        refine r_aload_n (pc := 29) X rfl dX9_lightOf_29 ?_
        refine gt_X9_7 (pc := 30) X mW_0 rfl dX9_lightOf_30 ?_
        refine r_iload_n (pc := 33) X rfl dX9_lightOf_33 ?_
        refine r_iload_n (pc := 34) X rfl dX9_lightOf_34 ?_
        refine ca_X9_29 (pc := 35) X (c_X9_ofL ln wn) rfl rfl rfl dX9_lightOf_35 (fun r35 M35 hp35 => ?_)
        obtain ⟨rfl, rfl⟩ := hp35
        refine r_iald (pc := 38) X mW_1 (100 + 5 * ln + wn) rfl (by omega) (by decide) dX9_lightOf_38 ?_
        refine r_goto (pc := 39) X 68 (by decide) dX9_lightOf_39 ?_
        exact K dX9_lightOf_68 ⟨by clear K X; grind [jlightOf, bi_0, bi_n0], rfl⟩
    · skip
      refine r_bipush (pc := 19) (v := (-2)) X rfl dX9_lightOf_19 ?_
      refine r_goto (pc := 21) X 68 (by decide) dX9_lightOf_21 ?_
      exact K dX9_lightOf_68 ⟨by clear K X; grind [jlightOf, bi_0, bi_n0], rfl⟩
  · skip
    refine r_iconst (pc := 7) (v := (-1)) X rfl dX9_lightOf_7 ?_
    exact K dX9_lightOf_8 ⟨by clear K X; grind [jlightOf, bi_0, bi_n0], rfl⟩

set_option maxHeartbeats 4000000 in
set_option maxRecDepth 100000 in
theorem c_X9_keeperOf {G : bkG} {Z : Nat → Prop} {M : bkM} {r : Nat} {s a p q t o f : Nat → Int32} (l w : Int32) : bkCi G Z Z yX9_keeperOf cX9_keeperOf 3 (some .int) 2 0 0 [.ref r, .int l, .int w] (mW G M r s a p q t o f) (fun v M' => v = jkeeperOf s l w ∧ M' = (mW G M r s a p q t o f)) := by
  refine bk_meti [some (.ref r), some (.int l), some (.int w)] rfl pf_X9_keeperOf rfl rfl (fun E X K => ?_)
  refine r_iload_n (pc := 0) X rfl dX9_keeperOf_0 ?_
  refine ca_X9_94 (pc := 1) X (c_X9_isLight l) rfl rfl rfl dX9_keeperOf_1 (fun r1 M1 hp1 => ?_)
  obtain ⟨rfl, rfl⟩ := hp1
  refine r_if_ne (pc := 4) X 11 (by decide) dX9_keeperOf_4 (fun q4 => ?_) (fun q4 => ?_)
  · skip
    obtain ⟨ln, hln, rfl⟩ := jin_of (n := 3) rfl (by decide) (bi_n0.mp q4)
    have tln : tn (nI ln) = ln := tn_nI (by omega)
    refine r_iload_n (pc := 11) X rfl dX9_keeperOf_11 ?_
    refine r_iconst (pc := 12) (v := 0) X rfl dX9_keeperOf_12 ?_
    refine r_iconst (pc := 13) (v := 4) X rfl dX9_keeperOf_13 ?_
    refine ca_X9_36 (pc := 14) X (c_X9_in w 0 4) rfl rfl rfl dX9_keeperOf_14 (fun r14 M14 hp14 => ?_)
    obtain ⟨rfl, rfl⟩ := hp14
    refine r_if_eq (pc := 17) X 33 (by decide) dX9_keeperOf_17 (fun q17 => ?_) (fun q17 => ?_)
    · skip
      refine r_bipush (pc := 33) (v := (-2)) X rfl dX9_keeperOf_33 ?_
      exact K dX9_keeperOf_35 ⟨by clear K X; grind [jkeeperOf, bi_0, bi_n0], rfl⟩
    · skip
      obtain ⟨wn, hwn, rfl⟩ := jin_of (n := 4) rfl (by decide) (bi_n0.mp q17)
      have twn : tn (nI wn) = wn := tn_nI (by omega)
      refine r_aload_n (pc := 20) X rfl dX9_keeperOf_20 ?_
      refine gt_X9_7 (pc := 21) X mW_0 rfl dX9_keeperOf_21 ?_
      refine r_iload_n (pc := 24) X rfl dX9_keeperOf_24 ?_
      refine r_iload_n (pc := 25) X rfl dX9_keeperOf_25 ?_
      refine ca_X9_33 (pc := 26) X (c_X9_ofK ln wn) rfl rfl rfl dX9_keeperOf_26 (fun r26 M26 hp26 => ?_)
      obtain ⟨rfl, rfl⟩ := hp26
      refine r_iald (pc := 29) X mW_1 (120 + 5 * ln + wn) rfl (by omega) (by decide) dX9_keeperOf_29 ?_
      refine r_goto (pc := 30) X 35 (by decide) dX9_keeperOf_30 ?_
      exact K dX9_keeperOf_35 ⟨by clear K X; grind [jkeeperOf, bi_0, bi_n0], rfl⟩
  · skip
    refine r_iconst (pc := 7) (v := (-1)) X rfl dX9_keeperOf_7 ?_
    refine r_goto (pc := 8) X 35 (by decide) dX9_keeperOf_8 ?_
    exact K dX9_keeperOf_35 ⟨by clear K X; grind [jkeeperOf, bi_0, bi_n0], rfl⟩

set_option maxHeartbeats 4000000 in
set_option maxRecDepth 100000 in
theorem c_X9_shipOf {G : bkG} {Z : Nat → Prop} {M : bkM} {r : Nat} {s a p q t o f : Nat → Int32} {n : Nat} (hw : jwf s n) (k w : Int32) : bkCi G Z Z yX9_shipOf cX9_shipOf 3 (some .int) 2 0 0 [.ref r, .int k, .int w] (mW G M r s a p q t o f) (fun v M' => v = jshipOf s n k w ∧ M' = (mW G M r s a p q t o f)) := by
  refine bk_meti [some (.ref r), some (.int k), some (.int w)] rfl pf_X9_shipOf rfl rfl (fun E X K => ?_)
  refine r_aload_n (pc := 0) X rfl dX9_shipOf_0 ?_
  refine r_iload_n (pc := 1) X rfl dX9_shipOf_1 ?_
  refine ca_X9_209 (pc := 2) X (c_X9_isShip k) mW_0 rfl rfl rfl dX9_shipOf_2 (fun r2 M2 hp2 => ?_)
  obtain ⟨rfl, rfl⟩ := hp2
  refine r_if_ne (pc := 5) X 10 (by decide) dX9_shipOf_5 (fun q5 => ?_) (fun q5 => ?_)
  · skip
    have qk := bi_n0.mp q5
    rw [hw.2.1] at qk
    obtain ⟨kn, hkn, rfl⟩ := jin_n hw.1 qk
    have hn8 := hw.1
    have tkn : tn (nI kn) = kn := tn_nI (by omega)
    obtain ⟨-, ⟨cc, hcc, ec⟩, ⟨hh, hhh, eh⟩⟩ := hw.2.2.2 kn (by omega)
    have tcc : tn (nI cc) = cc := tn_nI (by omega)
    have thh : tn (nI hh) = hh := tn_nI (by omega)
    refine r_iload_n (pc := 10) X rfl dX9_shipOf_10 ?_
    refine r_iconst (pc := 11) (v := 0) X rfl dX9_shipOf_11 ?_
    refine r_bipush (pc := 12) (v := 6) X rfl dX9_shipOf_12 ?_
    refine ca_X9_36 (pc := 14) X (c_X9_in w 0 6) rfl rfl rfl dX9_shipOf_14 (fun r14 M14 hp14 => ?_)
    obtain ⟨rfl, rfl⟩ := hp14
    refine r_if_ne (pc := 17) X 23 (by decide) dX9_shipOf_17 (fun q17 => ?_) (fun q17 => ?_)
    · skip
      obtain ⟨wn, hwn, rfl⟩ := jin_of (n := 6) rfl (by decide) (bi_n0.mp q17)
      have twn : tn (nI wn) = wn := tn_nI (by omega)
      refine r_iload_n (pc := 23) X rfl dX9_shipOf_23 ?_
      refine r_iconst (pc := 24) (v := 5) X rfl dX9_shipOf_24 ?_
      refine r_icmpN_ge (pc := 25) X 41 (wn) (5) rfl rfl (by omega) (by omega) (by decide) dX9_shipOf_25 (fun q25 => ?_) (fun q25 => ?_)
      · skip
        refine r_iload_n (pc := 41) X rfl dX9_shipOf_41 ?_
        refine r_iconst (pc := 42) (v := 5) X rfl dX9_shipOf_42 ?_
        refine r_icmpN_ne (pc := 43) X 72 (wn) (5) rfl rfl (by omega) (by omega) (by decide) dX9_shipOf_43 (fun q43 => ?_) (fun q43 => ?_)
        · skip
          refine r_aload_n (pc := 72) X rfl dX9_shipOf_72 ?_
          refine gt_X9_7 (pc := 73) X mW_0 rfl dX9_shipOf_73 ?_
          refine r_iload_n (pc := 76) X rfl dX9_shipOf_76 ?_
          refine r_iconst (pc := 77) (v := 3) X rfl dX9_shipOf_77 ?_
          refine ca_X9_100 (pc := 78) X (c_X9_ofS kn 3) rfl rfl rfl dX9_shipOf_78 (fun r78 M78 hp78 => ?_)
          obtain ⟨rfl, rfl⟩ := hp78
          refine r_iald (pc := 81) X mW_1 (140 + 5 * kn + 3) rfl (by omega) (by decide) dX9_shipOf_81 ?_
          refine r_if_ne (pc := 82) X 93 (by decide) dX9_shipOf_82 (fun q82 => ?_) (fun q82 => ?_)
          · skip
            refine r_bipush (pc := 93) (v := (-5)) X rfl dX9_shipOf_93 ?_
            exact K dX9_shipOf_95 ⟨by clear K X; grind [jshipOf, bi_0, bi_n0], rfl⟩
          · skip
            refine r_aload_n (pc := 85) X rfl dX9_shipOf_85 ?_
            refine r_iload_n (pc := 86) X rfl dX9_shipOf_86 ?_
            refine ca_X9_122 (pc := 87) X (c_X9_rank hw.1 hw.2.1 kn (by omega)) mW_0 rfl rfl rfl dX9_shipOf_87 (fun r87 M87 hp87 => ?_)
            obtain ⟨rfl, rfl⟩ := hp87
            refine r_goto (pc := 90) X 95 (by decide) dX9_shipOf_90 ?_
            exact K dX9_shipOf_95 ⟨by clear K X; grind [jshipOf, bi_0, bi_n0], rfl⟩
        · skip
          refine r_aload_n (pc := 46) X rfl dX9_shipOf_46 ?_
          refine gt_X9_7 (pc := 47) X mW_0 rfl dX9_shipOf_47 ?_
          refine r_iload_n (pc := 50) X rfl dX9_shipOf_50 ?_
          refine r_iconst (pc := 51) (v := 1) X rfl dX9_shipOf_51 ?_
          refine ca_X9_100 (pc := 52) X (c_X9_ofS kn 1) rfl rfl rfl dX9_shipOf_52 (fun r52 M52 hp52 => ?_)
          obtain ⟨rfl, rfl⟩ := hp52
          refine r_iald (pc := 55) X mW_1 (140 + 5 * kn + 1) rfl (by omega) (by decide) dX9_shipOf_55 ?_
          refine bk_top ec ?_
          refine r_aload_n (pc := 56) X rfl dX9_shipOf_56 ?_
          refine gt_X9_7 (pc := 57) X mW_0 rfl dX9_shipOf_57 ?_
          refine r_iload_n (pc := 60) X rfl dX9_shipOf_60 ?_
          refine r_iconst (pc := 61) (v := 2) X rfl dX9_shipOf_61 ?_
          refine ca_X9_100 (pc := 62) X (c_X9_ofS kn 2) rfl rfl rfl dX9_shipOf_62 (fun r62 M62 hp62 => ?_)
          obtain ⟨rfl, rfl⟩ := hp62
          refine r_iald (pc := 65) X mW_1 (140 + 5 * kn + 2) rfl (by omega) (by decide) dX9_shipOf_65 ?_
          refine bk_top eh ?_
          refine ca_X9_67 (pc := 66) X (c_X9_distance cc hh hcc hhh) rfl rfl rfl dX9_shipOf_66 (fun r66 M66 hp66 => ?_)
          obtain ⟨rfl, rfl⟩ := hp66
          refine r_goto (pc := 69) X 95 (by decide) dX9_shipOf_69 ?_
          exact K dX9_shipOf_95 ⟨by clear K X; grind [jshipOf, bi_0, bi_n0], rfl⟩
      · skip
        refine r_aload_n (pc := 28) X rfl dX9_shipOf_28 ?_
        refine gt_X9_7 (pc := 29) X mW_0 rfl dX9_shipOf_29 ?_
        refine r_iload_n (pc := 32) X rfl dX9_shipOf_32 ?_
        refine r_iload_n (pc := 33) X rfl dX9_shipOf_33 ?_
        refine ca_X9_100 (pc := 34) X (c_X9_ofS kn wn) rfl rfl rfl dX9_shipOf_34 (fun r34 M34 hp34 => ?_)
        obtain ⟨rfl, rfl⟩ := hp34
        refine r_iald (pc := 37) X mW_1 (140 + 5 * kn + wn) rfl (by omega) (by decide) dX9_shipOf_37 ?_
        refine r_goto (pc := 38) X 95 (by decide) dX9_shipOf_38 ?_
        exact K dX9_shipOf_95 ⟨by clear K X; grind [jshipOf, bi_0, bi_n0], rfl⟩
    · skip
      refine r_bipush (pc := 20) (v := (-2)) X rfl dX9_shipOf_20 ?_
      exact K dX9_shipOf_22 ⟨by clear K X; grind [jshipOf, bi_0, bi_n0], rfl⟩
  · skip
    refine r_iconst (pc := 8) (v := (-1)) X rfl dX9_shipOf_8 ?_
    exact K dX9_shipOf_9 ⟨by clear K X; grind [jshipOf, bi_0, bi_n0], rfl⟩

set_option maxHeartbeats 4000000 in
set_option maxRecDepth 100000 in
theorem c_X9_isLit {G : bkG} {Z : Nat → Prop} {M : bkM} {r : Nat} {s a p q t o f : Nat → Int32} (l c h w : Int32) : bkCi G Z Z yX9_isLit cX9_isLit 5 (some .int) 3 0 0 [.ref r, .int l, .int c, .int h, .int w] (mW G M r s a p q t o f) (fun v M' => v = jisLit s l c h w ∧ M' = (mW G M r s a p q t o f)) := by
  refine bk_meti [some (.ref r), some (.int l), some (.int c), some (.int h), some (.int w)] rfl pf_X9_isLit rfl rfl (fun E X K => ?_)
  refine r_iload_n (pc := 0) X rfl dX9_isLit_0 ?_
  refine ca_X9_94 (pc := 1) X (c_X9_isLight l) rfl rfl rfl dX9_isLit_1 (fun r1 M1 hp1 => ?_)
  obtain ⟨rfl, rfl⟩ := hp1
  refine r_if_eq (pc := 4) X 14 (by decide) dX9_isLit_4 (fun q4 => ?_) (fun q4 => ?_)
  · skip
    refine r_iconst (pc := 14) (v := (-1)) X rfl dX9_isLit_14 ?_
    exact K dX9_isLit_15 ⟨by clear K X; grind [jisLit, bi, bi_0, bi_n0], rfl⟩
  · skip
    refine r_iload_n (pc := 7) X rfl dX9_isLit_7 ?_
    refine ca_X9_77 (pc := 8) X (c_X9_isCell c) rfl rfl rfl dX9_isLit_8 (fun r8 M8 hp8 => ?_)
    obtain ⟨rfl, rfl⟩ := hp8
    refine r_if_ne (pc := 11) X 16 (by decide) dX9_isLit_11 (fun q11 => ?_) (fun q11 => ?_)
    · skip
      obtain ⟨ln, hln, rfl⟩ := jin_of (n := 3) rfl (by decide) (bi_n0.mp q4)
      have tln : tn (nI ln) = ln := tn_nI (by omega)
      obtain ⟨cn, hcn, rfl⟩ := jin_of (n := 99) rfl (by decide) (bi_n0.mp q11)
      have tcn : tn (nI cn) = cn := tn_nI (by omega)
      refine r_iload_n (pc := 16) X rfl dX9_isLit_16 ?_
      refine r_iconst (pc := 17) (v := 0) X rfl dX9_isLit_17 ?_
      refine r_sipush (pc := 18) (v := 20000) X rfl dX9_isLit_18 ?_
      refine ca_X9_36 (pc := 21) X (c_X9_in h 0 20000) rfl rfl rfl dX9_isLit_21 (fun r21 M21 hp21 => ?_)
      obtain ⟨rfl, rfl⟩ := hp21
      refine r_if_eq (pc := 24) X 37 (by decide) dX9_isLit_24 (fun q24 => ?_) (fun q24 => ?_)
      · skip
        refine r_bipush (pc := 37) (v := (-2)) X rfl dX9_isLit_37 ?_
        exact K dX9_isLit_39 ⟨by clear K X; grind [jisLit, bi, bi_0, bi_n0], rfl⟩
      · skip
        refine r_iload (pc := 27) X rfl dX9_isLit_27 ?_
        refine r_iconst (pc := 29) (v := 0) X rfl dX9_isLit_29 ?_
        refine r_iconst (pc := 30) (v := 1) X rfl dX9_isLit_30 ?_
        refine ca_X9_36 (pc := 31) X (c_X9_in w 0 1) rfl rfl rfl dX9_isLit_31 (fun r31 M31 hp31 => ?_)
        obtain ⟨rfl, rfl⟩ := hp31
        refine r_if_ne (pc := 34) X 40 (by decide) dX9_isLit_34 (fun q34 => ?_) (fun q34 => ?_)
        · skip
          refine r_aload_n (pc := 40) X rfl dX9_isLit_40 ?_
          refine r_iload_n (pc := 41) X rfl dX9_isLit_41 ?_
          refine r_iload_n (pc := 42) X rfl dX9_isLit_42 ?_
          refine r_iload_n (pc := 43) X rfl dX9_isLit_43 ?_
          refine r_aload_n (pc := 44) X rfl dX9_isLit_44 ?_
          refine gt_X9_7 (pc := 45) X mW_0 rfl dX9_isLit_45 ?_
          refine r_iload_n (pc := 48) X rfl dX9_isLit_48 ?_
          refine r_iconst (pc := 49) (v := 4) X rfl dX9_isLit_49 ?_
          refine ca_X9_29 (pc := 50) X (c_X9_ofL ln 4) rfl rfl rfl dX9_isLit_50 (fun r50 M50 hp50 => ?_)
          obtain ⟨rfl, rfl⟩ := hp50
          refine r_iald (pc := 53) X mW_1 (100 + 5 * ln + 4) rfl (by omega) (by decide) dX9_isLit_53 ?_
          refine ca_X9_70 (pc := 54) X (c_X9_lights ln cn (by omega) (by omega) h (s (100 + 5 * ln + 4))) mW_0 rfl rfl rfl dX9_isLit_54 (fun r54 M54 hp54 => ?_)
          obtain ⟨rfl, rfl⟩ := hp54
          refine r_if_eq (pc := 57) X 64 (by decide) dX9_isLit_57 (fun q57 => ?_) (fun q57 => ?_)
          · skip
            refine r_iconst (pc := 64) (v := 0) X rfl dX9_isLit_64 ?_
            exact K dX9_isLit_65 ⟨by clear K X; grind [jisLit, bi, bi_0, bi_n0], rfl⟩
          · skip
            refine r_iconst (pc := 60) (v := 1) X rfl dX9_isLit_60 ?_
            refine r_goto (pc := 61) X 65 (by decide) dX9_isLit_61 ?_
            exact K dX9_isLit_65 ⟨by clear K X; grind [jisLit, bi, bi_0, bi_n0], rfl⟩
        · skip
          refine r_bipush (pc := 37) (v := (-2)) X rfl dX9_isLit_37 ?_
          exact K dX9_isLit_39 ⟨by clear K X; grind [jisLit, bi, bi_0, bi_n0], rfl⟩
    · skip
      refine r_iconst (pc := 14) (v := (-1)) X rfl dX9_isLit_14 ?_
      exact K dX9_isLit_15 ⟨by clear K X; grind [jisLit, bi, bi_0, bi_n0], rfl⟩

set_option maxHeartbeats 4000000 in
set_option maxRecDepth 100000 in
theorem c_X9_why {G : bkG} {Z : Nat → Prop} {M : bkM} {r : Nat} {s a p q t o f : Nat → Int32} (l c : Int32) : bkCi G Z Z yX9_why cX9_why 5 (some .int) 2 0 0 [.ref r, .int l, .int c] (mW G M r s a p q t o f) (fun v M' => v = jwhy s l c ∧ M' = (mW G M r s a p q t o f)) := by
  refine bk_meti [some (.ref r), some (.int l), some (.int c), none, none] rfl pf_X9_why rfl rfl (fun E X K => ?_)
  refine r_iload_n (pc := 0) X rfl dX9_why_0 ?_
  refine ca_X9_94 (pc := 1) X (c_X9_isLight l) rfl rfl rfl dX9_why_1 (fun r1 M1 hp1 => ?_)
  obtain ⟨rfl, rfl⟩ := hp1
  refine r_if_eq (pc := 4) X 14 (by decide) dX9_why_4 (fun q4 => ?_) (fun q4 => ?_)
  · skip
    refine r_iconst (pc := 14) (v := (-1)) X rfl dX9_why_14 ?_
    exact K dX9_why_15 ⟨by clear K X; grind [jwhy, jwhy1, bi_0, bi_n0], rfl⟩
  · skip
    refine r_iload_n (pc := 7) X rfl dX9_why_7 ?_
    refine ca_X9_77 (pc := 8) X (c_X9_isCell c) rfl rfl rfl dX9_why_8 (fun r8 M8 hp8 => ?_)
    obtain ⟨rfl, rfl⟩ := hp8
    refine r_if_ne (pc := 11) X 16 (by decide) dX9_why_11 (fun q11 => ?_) (fun q11 => ?_)
    · skip
      obtain ⟨ln, hln, rfl⟩ := jin_of (n := 3) rfl (by decide) (bi_n0.mp q4)
      have tln : tn (nI ln) = ln := tn_nI (by omega)
      obtain ⟨cn, hcn, rfl⟩ := jin_of (n := 99) rfl (by decide) (bi_n0.mp q11)
      have tcn : tn (nI cn) = cn := tn_nI (by omega)
      refine r_iload_n (pc := 16) X rfl dX9_why_16 ?_
      refine r_iload_n (pc := 17) X rfl dX9_why_17 ?_
      refine ca_X9_57 (pc := 18) X (c_X9_wind ln cn (by omega) (by omega)) rfl rfl rfl dX9_why_18 (fun r18 M18 hp18 => ?_)
      obtain ⟨rfl, rfl⟩ := hp18
      refine r_istore_n (pc := 21) X rfl rfl dX9_why_21 ?_
      refine r_iload_n (pc := 22) X rfl dX9_why_22 ?_
      refine ca_X9_54 (pc := 23) X (c_X9_home ln (by omega)) rfl rfl rfl dX9_why_23 (fun r23 M23 hp23 => ?_)
      obtain ⟨rfl, rfl⟩ := hp23
      refine r_iload_n (pc := 26) X rfl dX9_why_26 ?_
      refine ca_X9_67 (pc := 27) X (c_X9_distance (jhm ln) cn (jhm_lt _) (by omega)) rfl rfl rfl dX9_why_27 (fun r27 M27 hp27 => ?_)
      obtain ⟨rfl, rfl⟩ := hp27
      refine r_istore (pc := 30) X rfl rfl dX9_why_30 ?_
      refine r_iload_n (pc := 32) X rfl dX9_why_32 ?_
      refine r_bipush (pc := 33) (v := (-5)) X rfl dX9_why_33 ?_
      refine r_icmp_ne (pc := 35) X 40 (by decide) dX9_why_35 (fun q35 => ?_) (fun q35 => ?_)
      · skip
        refine r_aload_n (pc := 40) X rfl dX9_why_40 ?_
        refine r_iload_n (pc := 41) X rfl dX9_why_41 ?_
        refine r_iload_n (pc := 42) X rfl dX9_why_42 ?_
        refine ca_X9_63 (pc := 43) X (c_X9_isDark ln (by omega) (jwd ln cn)) mW_0 rfl rfl rfl dX9_why_43 (fun r43 M43 hp43 => ?_)
        obtain ⟨rfl, rfl⟩ := hp43
        refine r_if_eq (pc := 46) X 53 (by decide) dX9_why_46 (fun q46 => ?_) (fun q46 => ?_)
        · skip
          refine r_iload (pc := 53) X rfl dX9_why_53 ?_
          refine r_aload_n (pc := 55) X rfl dX9_why_55 ?_
          refine gt_X9_7 (pc := 56) X mW_0 rfl dX9_why_56 ?_
          refine r_iload_n (pc := 59) X rfl dX9_why_59 ?_
          refine r_iconst (pc := 60) (v := 2) X rfl dX9_why_60 ?_
          refine ca_X9_29 (pc := 61) X (c_X9_ofL ln 2) rfl rfl rfl dX9_why_61 (fun r61 M61 hp61 => ?_)
          obtain ⟨rfl, rfl⟩ := hp61
          refine r_iald (pc := 64) X mW_1 (100 + 5 * ln + 2) rfl (by omega) (by decide) dX9_why_64 ?_
          refine r_icmp_le (pc := 65) X 72 (by decide) dX9_why_65 (fun q65 => ?_) (fun q65 => ?_)
          · skip
            refine r_iload (pc := 72) X rfl dX9_why_72 ?_
            refine r_aload_n (pc := 74) X rfl dX9_why_74 ?_
            refine gt_X9_7 (pc := 75) X mW_0 rfl dX9_why_75 ?_
            refine r_iload_n (pc := 78) X rfl dX9_why_78 ?_
            refine r_iconst (pc := 79) (v := 2) X rfl dX9_why_79 ?_
            refine ca_X9_29 (pc := 80) X (c_X9_ofL ln 2) rfl rfl rfl dX9_why_80 (fun r80 M80 hp80 => ?_)
            obtain ⟨rfl, rfl⟩ := hp80
            refine r_iald (pc := 83) X mW_1 (100 + 5 * ln + 2) rfl (by omega) (by decide) dX9_why_83 ?_
            refine r_aload_n (pc := 84) X rfl dX9_why_84 ?_
            refine gt_X9_7 (pc := 85) X mW_0 rfl dX9_why_85 ?_
            refine r_iload_n (pc := 88) X rfl dX9_why_88 ?_
            refine r_iconst (pc := 89) (v := 4) X rfl dX9_why_89 ?_
            refine ca_X9_29 (pc := 90) X (c_X9_ofL ln 4) rfl rfl rfl dX9_why_90 (fun r90 M90 hp90 => ?_)
            obtain ⟨rfl, rfl⟩ := hp90
            refine r_iald (pc := 93) X mW_1 (100 + 5 * ln + 4) rfl (by omega) (by decide) dX9_why_93 ?_
            refine r_isub (pc := 94) X dX9_why_94 ?_
            refine r_icmp_le (pc := 95) X 102 (by decide) dX9_why_95 (fun q95 => ?_) (fun q95 => ?_)
            · skip
              refine r_iload_n (pc := 102) X rfl dX9_why_102 ?_
              refine r_aload_n (pc := 103) X rfl dX9_why_103 ?_
              refine r_iload_n (pc := 104) X rfl dX9_why_104 ?_
              refine r_aload_n (pc := 105) X rfl dX9_why_105 ?_
              refine gt_X9_7 (pc := 106) X mW_0 rfl dX9_why_106 ?_
              refine r_sipush (pc := 109) (v := 181) X rfl dX9_why_109 ?_
              refine r_iald (pc := 112) X mW_1 (181) rfl (by omega) (by decide) dX9_why_112 ?_
              refine ca_X9_60 (pc := 113) X (c_X9_beam ln (by omega) (s 181)) mW_0 rfl rfl rfl dX9_why_113 (fun r113 M113 hp113 => ?_)
              obtain ⟨rfl, rfl⟩ := hp113
              refine r_icmp_ne (pc := 116) X 123 (by decide) dX9_why_116 (fun q116 => ?_) (fun q116 => ?_)
              · skip
                refine r_iconst (pc := 123) (v := 4) X rfl dX9_why_123 ?_
                exact K dX9_why_124 ⟨by clear K X; grind [jwhy, jwhy1, bi_0, bi_n0], rfl⟩
              · skip
                refine r_iconst (pc := 119) (v := 0) X rfl dX9_why_119 ?_
                refine r_goto (pc := 120) X 124 (by decide) dX9_why_120 ?_
                exact K dX9_why_124 ⟨by clear K X; grind [jwhy, jwhy1, bi_0, bi_n0], rfl⟩
            · skip
              refine r_iconst (pc := 98) (v := 3) X rfl dX9_why_98 ?_
              refine r_goto (pc := 99) X 124 (by decide) dX9_why_99 ?_
              exact K dX9_why_124 ⟨by clear K X; grind [jwhy, jwhy1, bi_0, bi_n0], rfl⟩
          · skip
            refine r_iconst (pc := 68) (v := 2) X rfl dX9_why_68 ?_
            refine r_goto (pc := 69) X 124 (by decide) dX9_why_69 ?_
            exact K dX9_why_124 ⟨by clear K X; grind [jwhy, jwhy1, bi_0, bi_n0], rfl⟩
        · skip
          refine r_iconst (pc := 49) (v := 1) X rfl dX9_why_49 ?_
          refine r_goto (pc := 50) X 124 (by decide) dX9_why_50 ?_
          exact K dX9_why_124 ⟨by clear K X; grind [jwhy, jwhy1, bi_0, bi_n0], rfl⟩
      · skip
        refine r_iconst (pc := 38) (v := 0) X rfl dX9_why_38 ?_
        exact K dX9_why_39 ⟨by clear K X; grind [jwhy, jwhy1, bi_0, bi_n0], rfl⟩
    · skip
      refine r_iconst (pc := 14) (v := (-1)) X rfl dX9_why_14 ?_
      exact K dX9_why_15 ⟨by clear K X; grind [jwhy, jwhy1, bi_0, bi_n0], rfl⟩

set_option maxHeartbeats 4000000 in
set_option maxRecDepth 100000 in
theorem c_X9_count {G : bkG} {Z : Nat → Prop} {M : bkM} {r : Nat} {s a p q t o f : Nat → Int32} {n : Nat} (hw : jwf s n) (w : Int32) : bkCi G Z Z yX9_count cX9_count 2 (some .int) 6 0 0 [.ref r, .int w] (mW G M r s a p q t o f) (fun v M' => v = jcount s n (f 3) (f 7) w ∧ M' = (mW G M r s a p q t o f)) := by
  refine bk_meti [some (.ref r), some (.int w)] rfl pf_X9_count rfl rfl (fun E X K => ?_)
  refine r_iload_n (pc := 0) X rfl dX9_count_0 ?_
  rcases tb_case 13 (by decide) w with ⟨w9, hw9, rfl⟩ | ⟨hq, hne⟩
  · match w9, hw9 with
    | 0, _ =>
      refine r_tableIn (pc := 1) X 72 (by decide) (by decide) rfl (by decide) dX9_count_1 ?_
      refine r_aload_n (pc := 72) X rfl dX9_count_72 ?_
      refine gt_X9_7 (pc := 73) X mW_0 rfl dX9_count_73 ?_
      refine r_sipush (pc := 76) (v := 181) X rfl dX9_count_76 ?_
      refine r_iald (pc := 79) X mW_1 (181) rfl (by omega) (by decide) dX9_count_79 ?_
      exact K dX9_count_80 ⟨by first | rfl | (unfold jcount; rw [if_neg n0, if_neg n1, if_neg n2, if_neg n3, if_neg n4, if_neg n5, if_neg n6, if_neg n7, if_neg n8, if_neg n9, if_neg n10, if_neg n11, if_neg n12, if_neg n13]), rfl⟩
    | 1, _ =>
      refine r_tableIn (pc := 1) X 81 (by decide) (by decide) rfl (by decide) dX9_count_1 ?_
      refine r_aload_n (pc := 81) X rfl dX9_count_81 ?_
      refine ca_X9_90 (pc := 82) X (c_X9_rocks) mW_0 rfl rfl rfl dX9_count_82 (fun r82 M82 hp82 => ?_)
      obtain ⟨rfl, rfl⟩ := hp82
      exact K dX9_count_85 ⟨by first | rfl | (unfold jcount; rw [if_neg n0, if_neg n1, if_neg n2, if_neg n3, if_neg n4, if_neg n5, if_neg n6, if_neg n7, if_neg n8, if_neg n9, if_neg n10, if_neg n11, if_neg n12, if_neg n13]), rfl⟩
    | 2, _ =>
      refine r_tableIn (pc := 1) X 86 (by decide) (by decide) rfl (by decide) dX9_count_1 ?_
      refine r_aload_n (pc := 86) X rfl dX9_count_86 ?_
      refine gt_X9_7 (pc := 87) X mW_0 rfl dX9_count_87 ?_
      refine r_sipush (pc := 90) (v := 180) X rfl dX9_count_90 ?_
      refine r_iald (pc := 93) X mW_1 (180) rfl (by omega) (by decide) dX9_count_93 ?_
      exact K dX9_count_94 ⟨by first | rfl | (unfold jcount; rw [if_neg n0, if_neg n1, if_neg n2, if_neg n3, if_neg n4, if_neg n5, if_neg n6, if_neg n7, if_neg n8, if_neg n9, if_neg n10, if_neg n11, if_neg n12, if_neg n13]), rfl⟩
    | 3, _ =>
      refine r_tableIn (pc := 1) X 95 (by decide) (by decide) rfl (by decide) dX9_count_1 ?_
      refine r_aload_n (pc := 95) X rfl dX9_count_95 ?_
      refine r_iload_n (pc := 96) X rfl dX9_count_96 ?_
      refine r_iconst (pc := 97) (v := 3) X rfl dX9_count_97 ?_
      refine r_isub (pc := 98) X dX9_count_98 ?_
      refine ca_X9_129 (pc := 99) X (c_X9_shipsIn hw.1 hw.2.1 _) mW_0 rfl rfl rfl dX9_count_99 (fun r99 M99 hp99 => ?_)
      obtain ⟨rfl, rfl⟩ := hp99
      refine ca_X9_141 (pc := 102) X (c_X9_many (jset _ n) (jset_256 _ hw.1)) rfl rfl rfl dX9_count_102 (fun r102 M102 hp102 => ?_)
      obtain ⟨rfl, rfl⟩ := hp102
      exact K dX9_count_105 ⟨by first | rfl | (unfold jcount; rw [if_neg n0, if_neg n1, if_neg n2, if_neg n3, if_neg n4, if_neg n5, if_neg n6, if_neg n7, if_neg n8, if_neg n9, if_neg n10, if_neg n11, if_neg n12, if_neg n13]), rfl⟩
    | 4, _ =>
      refine r_tableIn (pc := 1) X 95 (by decide) (by decide) rfl (by decide) dX9_count_1 ?_
      refine r_aload_n (pc := 95) X rfl dX9_count_95 ?_
      refine r_iload_n (pc := 96) X rfl dX9_count_96 ?_
      refine r_iconst (pc := 97) (v := 3) X rfl dX9_count_97 ?_
      refine r_isub (pc := 98) X dX9_count_98 ?_
      refine ca_X9_129 (pc := 99) X (c_X9_shipsIn hw.1 hw.2.1 _) mW_0 rfl rfl rfl dX9_count_99 (fun r99 M99 hp99 => ?_)
      obtain ⟨rfl, rfl⟩ := hp99
      refine ca_X9_141 (pc := 102) X (c_X9_many (jset _ n) (jset_256 _ hw.1)) rfl rfl rfl dX9_count_102 (fun r102 M102 hp102 => ?_)
      obtain ⟨rfl, rfl⟩ := hp102
      exact K dX9_count_105 ⟨by first | rfl | (unfold jcount; rw [if_neg n0, if_neg n1, if_neg n2, if_neg n3, if_neg n4, if_neg n5, if_neg n6, if_neg n7, if_neg n8, if_neg n9, if_neg n10, if_neg n11, if_neg n12, if_neg n13]), rfl⟩
    | 5, _ =>
      refine r_tableIn (pc := 1) X 95 (by decide) (by decide) rfl (by decide) dX9_count_1 ?_
      refine r_aload_n (pc := 95) X rfl dX9_count_95 ?_
      refine r_iload_n (pc := 96) X rfl dX9_count_96 ?_
      refine r_iconst (pc := 97) (v := 3) X rfl dX9_count_97 ?_
      refine r_isub (pc := 98) X dX9_count_98 ?_
      refine ca_X9_129 (pc := 99) X (c_X9_shipsIn hw.1 hw.2.1 _) mW_0 rfl rfl rfl dX9_count_99 (fun r99 M99 hp99 => ?_)
      obtain ⟨rfl, rfl⟩ := hp99
      refine ca_X9_141 (pc := 102) X (c_X9_many (jset _ n) (jset_256 _ hw.1)) rfl rfl rfl dX9_count_102 (fun r102 M102 hp102 => ?_)
      obtain ⟨rfl, rfl⟩ := hp102
      exact K dX9_count_105 ⟨by first | rfl | (unfold jcount; rw [if_neg n0, if_neg n1, if_neg n2, if_neg n3, if_neg n4, if_neg n5, if_neg n6, if_neg n7, if_neg n8, if_neg n9, if_neg n10, if_neg n11, if_neg n12, if_neg n13]), rfl⟩
    | 6, _ =>
      refine r_tableIn (pc := 1) X 106 (by decide) (by decide) rfl (by decide) dX9_count_1 ?_
      refine r_aload_n (pc := 106) X rfl dX9_count_106 ?_
      refine r_iconst (pc := 107) (v := 1) X rfl dX9_count_107 ?_
      refine ca_X9_212 (pc := 108) X (c_X9_litNow true) mW_0 rfl rfl rfl dX9_count_108 (fun r108 M108 hp108 => ?_)
      obtain ⟨rfl, rfl⟩ := hp108
      exact K dX9_count_111 ⟨by first | rfl | (unfold jcount; rw [if_neg n0, if_neg n1, if_neg n2, if_neg n3, if_neg n4, if_neg n5, if_neg n6, if_neg n7, if_neg n8, if_neg n9, if_neg n10, if_neg n11, if_neg n12, if_neg n13]), rfl⟩
    | 7, _ =>
      refine r_tableIn (pc := 1) X 112 (by decide) (by decide) rfl (by decide) dX9_count_1 ?_
      refine r_aload_n (pc := 112) X rfl dX9_count_112 ?_
      refine r_iconst (pc := 113) (v := 0) X rfl dX9_count_113 ?_
      refine ca_X9_212 (pc := 114) X (c_X9_litNow false) mW_0 rfl rfl rfl dX9_count_114 (fun r114 M114 hp114 => ?_)
      obtain ⟨rfl, rfl⟩ := hp114
      exact K dX9_count_117 ⟨by first | rfl | (unfold jcount; rw [if_neg n0, if_neg n1, if_neg n2, if_neg n3, if_neg n4, if_neg n5, if_neg n6, if_neg n7, if_neg n8, if_neg n9, if_neg n10, if_neg n11, if_neg n12, if_neg n13]), rfl⟩
    | 8, _ =>
      refine r_tableIn (pc := 1) X 118 (by decide) (by decide) rfl (by decide) dX9_count_1 ?_
      refine r_aload_n (pc := 118) X rfl dX9_count_118 ?_
      refine r_iconst (pc := 119) (v := 1) X rfl dX9_count_119 ?_
      refine ca_X9_216 (pc := 120) X (c_X9_ofAll 1 (by omega)) mW_0 rfl rfl rfl dX9_count_120 (fun r120 M120 hp120 => ?_)
      obtain ⟨rfl, rfl⟩ := hp120
      exact K dX9_count_123 ⟨by first | rfl | (unfold jcount; rw [if_neg n0, if_neg n1, if_neg n2, if_neg n3, if_neg n4, if_neg n5, if_neg n6, if_neg n7, if_neg n8, if_neg n9, if_neg n10, if_neg n11, if_neg n12, if_neg n13]), rfl⟩
    | 9, _ =>
      refine r_tableIn (pc := 1) X 124 (by decide) (by decide) rfl (by decide) dX9_count_1 ?_
      refine r_aload_n (pc := 124) X rfl dX9_count_124 ?_
      refine r_iconst (pc := 125) (v := 4) X rfl dX9_count_125 ?_
      refine ca_X9_216 (pc := 126) X (c_X9_ofAll 4 (by omega)) mW_0 rfl rfl rfl dX9_count_126 (fun r126 M126 hp126 => ?_)
      obtain ⟨rfl, rfl⟩ := hp126
      exact K dX9_count_129 ⟨by first | rfl | (unfold jcount; rw [if_neg n0, if_neg n1, if_neg n2, if_neg n3, if_neg n4, if_neg n5, if_neg n6, if_neg n7, if_neg n8, if_neg n9, if_neg n10, if_neg n11, if_neg n12, if_neg n13]), rfl⟩
    | 10, _ =>
      refine r_tableIn (pc := 1) X 130 (by decide) (by decide) rfl (by decide) dX9_count_1 ?_
      refine r_aload_n (pc := 130) X rfl dX9_count_130 ?_
      refine r_aload_n (pc := 131) X rfl dX9_count_131 ?_
      refine r_iconst (pc := 132) (v := 1) X rfl dX9_count_132 ?_
      refine ca_X9_129 (pc := 133) X (c_X9_shipsIn hw.1 hw.2.1 1) mW_0 rfl rfl rfl dX9_count_133 (fun r133 M133 hp133 => ?_)
      obtain ⟨rfl, rfl⟩ := hp133
      refine ca_X9_219 (pc := 136) X (c_X9_worth hw.1 hw.2.1 _) mW_0 rfl rfl rfl dX9_count_136 (fun r136 M136 hp136 => ?_)
      obtain ⟨rfl, rfl⟩ := hp136
      exact K dX9_count_139 ⟨by first | rfl | (unfold jcount; rw [if_neg n0, if_neg n1, if_neg n2, if_neg n3, if_neg n4, if_neg n5, if_neg n6, if_neg n7, if_neg n8, if_neg n9, if_neg n10, if_neg n11, if_neg n12, if_neg n13]), rfl⟩
    | 11, _ =>
      refine r_tableIn (pc := 1) X 140 (by decide) (by decide) rfl (by decide) dX9_count_1 ?_
      refine r_aload_n (pc := 140) X rfl dX9_count_140 ?_
      refine gt_X9_40 (pc := 141) X mW_0 rfl dX9_count_141 ?_
      exact K dX9_count_144 ⟨by first | rfl | (unfold jcount; rw [if_neg n0, if_neg n1, if_neg n2, if_neg n3, if_neg n4, if_neg n5, if_neg n6, if_neg n7, if_neg n8, if_neg n9, if_neg n10, if_neg n11, if_neg n12, if_neg n13]), rfl⟩
    | 12, _ =>
      refine r_tableIn (pc := 1) X 145 (by decide) (by decide) rfl (by decide) dX9_count_1 ?_
      refine r_aload_n (pc := 145) X rfl dX9_count_145 ?_
      refine gt_X9_151 (pc := 146) X mW_0 rfl dX9_count_146 ?_
      exact K dX9_count_149 ⟨by first | rfl | (unfold jcount; rw [if_neg n0, if_neg n1, if_neg n2, if_neg n3, if_neg n4, if_neg n5, if_neg n6, if_neg n7, if_neg n8, if_neg n9, if_neg n10, if_neg n11, if_neg n12, if_neg n13]), rfl⟩
    | 13, _ =>
      refine r_tableIn (pc := 1) X 150 (by decide) (by decide) rfl (by decide) dX9_count_1 ?_
      refine r_aload_n (pc := 150) X rfl dX9_count_150 ?_
      refine gt_X9_7 (pc := 151) X mW_0 rfl dX9_count_151 ?_
      refine r_sipush (pc := 154) (v := 182) X rfl dX9_count_154 ?_
      refine r_iald (pc := 157) X mW_1 (182) rfl (by omega) (by decide) dX9_count_157 ?_
      exact K dX9_count_158 ⟨by first | rfl | (unfold jcount; rw [if_neg n0, if_neg n1, if_neg n2, if_neg n3, if_neg n4, if_neg n5, if_neg n6, if_neg n7, if_neg n8, if_neg n9, if_neg n10, if_neg n11, if_neg n12, if_neg n13]), rfl⟩
    | w9 + 14, hw9 => exact absurd hw9 (by omega)
  · refine r_tableOut (pc := 1) X 159 hq (by decide) dX9_count_1 ?_
    have n0 : w ≠ 0 := hne 0 (by omega)
    have n1 : w ≠ 1 := hne 1 (by omega)
    have n2 : w ≠ 2 := hne 2 (by omega)
    have n3 : w ≠ 3 := hne 3 (by omega)
    have n4 : w ≠ 4 := hne 4 (by omega)
    have n5 : w ≠ 5 := hne 5 (by omega)
    have n6 : w ≠ 6 := hne 6 (by omega)
    have n7 : w ≠ 7 := hne 7 (by omega)
    have n8 : w ≠ 8 := hne 8 (by omega)
    have n9 : w ≠ 9 := hne 9 (by omega)
    have n10 : w ≠ 10 := hne 10 (by omega)
    have n11 : w ≠ 11 := hne 11 (by omega)
    have n12 : w ≠ 12 := hne 12 (by omega)
    have n13 : w ≠ 13 := hne 13 (by omega)
    refine r_bipush (pc := 159) (v := (-2)) X rfl dX9_count_159 ?_
    exact K dX9_count_161 ⟨by first | rfl | (unfold jcount; rw [if_neg n0, if_neg n1, if_neg n2, if_neg n3, if_neg n4, if_neg n5, if_neg n6, if_neg n7, if_neg n8, if_neg n9, if_neg n10, if_neg n11, if_neg n12, if_neg n13]), rfl⟩

set_option maxHeartbeats 4000000 in
set_option maxRecDepth 100000 in
theorem c_X9_share {G : bkG} {Z : Nat → Prop} {M : bkM} {r : Nat} {s a p q t o f : Nat → Int32} (c : Int32) : bkCf G Z Z yX9_share cX9_share 4 4 0 0 [.ref r, .int c] (mW G M r s a p q t o f) (fun v M' => v = jshare s c ∧ M' = (mW G M r s a p q t o f)) := by
  refine bk_metf [some (.ref r), some (.int c), none, none] rfl pf_X9_share rfl rfl (fun E X K => ?_)
  refine r_iload_n (pc := 0) X rfl dX9_share_0 ?_
  refine ca_X9_77 (pc := 1) X (c_X9_isCell c) rfl rfl rfl dX9_share_1 (fun r1 M1 hp1 => ?_)
  obtain ⟨rfl, rfl⟩ := hp1
  refine r_if_ne (pc := 4) X 10 (by decide) dX9_share_4 (fun q4 => ?_) (fun q4 => ?_)
  · skip
    obtain ⟨cn, hcn, rfl⟩ := jin_of (n := 99) rfl (by decide) (bi_n0.mp q4)
    have tcn : tn (nI cn) = cn := tn_nI (by omega)
    refine r_iconst (pc := 10) (v := 0) X rfl dX9_share_10 ?_
    refine r_istore_n (pc := 11) X rfl rfl dX9_share_11 ?_
    refine r_iconst (pc := 12) (v := 0) X rfl dX9_share_12 ?_
    refine r_istore_n (pc := 13) X rfl rfl dX9_share_13 ?_
    have lp14 : ∀ (d j : Nat) (x : Int32) (y : Int32), j ≤ 8 → 8 < j + d → (x = nI (jct (fun j => jlt s cn (nI j) 0) j)) → (y = nI j) → bkV E G Z 0 0 (mW G M r s a p q t o f) 14 [some (.ref r), some (.int (nI cn)), some (.int x), some (.int y)] [] := by
      intro d
      induction d with
      | zero => intro j x y; intros; exfalso; omega
      | succ d ih =>
        intro j x y hj hd e1 e2
        subst e1
        subst e2
        refine r_iload_n (pc := 14) X rfl dX9_share_14 ?_
        refine r_bipush (pc := 15) (v := 8) X rfl dX9_share_15 ?_
        refine r_icmpN_ge (pc := 17) X 44 (j) (8) rfl rfl (by omega) (by omega) (by decide) dX9_share_17 (fun q17 => ?_) (fun q17 => ?_)
        · skip
          refine r_iload_n (pc := 44) X rfl dX9_share_44 ?_
          refine r_i2f (pc := 45) X dX9_share_45 ?_
          refine r_ldcf (pc := 46) X co_X9_226 dX9_share_46 ?_
          refine r_fdiv (pc := 48) X (jsh_n _ (by have := jct_le (fun j => jlt s cn (nI j) 0) j; omega)) dX9_share_48 ?_
          exact K dX9_share_49 ⟨by unfold jshare; rw [if_neg (by rw [show jin (nI cn) 0 99 = true from jin_nI (j := cn) (n := 99) (by omega) (by decide)]; decide), tcn, show j = 8 by omega]; rfl, rfl⟩
        · skip
          refine r_iload_n (pc := 20) X rfl dX9_share_20 ?_
          refine r_aload_n (pc := 21) X rfl dX9_share_21 ?_
          refine r_iload_n (pc := 22) X rfl dX9_share_22 ?_
          refine r_iload_n (pc := 23) X rfl dX9_share_23 ?_
          refine r_iconst (pc := 24) (v := 0) X rfl dX9_share_24 ?_
          refine ca_X9_223 (pc := 25) X (c_X9_isLitThen cn (by omega) (nI j) 0) mW_0 rfl rfl rfl dX9_share_25 (fun r25 M25 hp25 => ?_)
          obtain ⟨rfl, rfl⟩ := hp25
          refine r_if_eq (pc := 28) X 35 (by decide) dX9_share_28 (fun q28 => ?_) (fun q28 => ?_)
          · skip
            refine r_iconst (pc := 35) (v := 0) X rfl dX9_share_35 ?_
            refine r_iadd (pc := 36) X dX9_share_36 ?_
            refine r_istore_n (pc := 37) X rfl rfl dX9_share_37 ?_
            refine r_iinc (pc := 38) X rfl rfl rfl dX9_share_38 ?_
            refine r_goto (pc := 41) X 14 (by decide) dX9_share_41 ?_
            refine ih (j + 1) _ _ (by omega) (by omega) ?_ (nI_1 j)
            first | exact jct_t (by clear K X ih; grind [bi_0, bi_n0]) | exact jct_f (by clear K X ih; grind [bi_0, bi_n0])
          · skip
            refine r_iconst (pc := 31) (v := 1) X rfl dX9_share_31 ?_
            refine r_goto (pc := 32) X 36 (by decide) dX9_share_32 ?_
            refine r_iadd (pc := 36) X dX9_share_36 ?_
            refine r_istore_n (pc := 37) X rfl rfl dX9_share_37 ?_
            refine r_iinc (pc := 38) X rfl rfl rfl dX9_share_38 ?_
            refine r_goto (pc := 41) X 14 (by decide) dX9_share_41 ?_
            refine ih (j + 1) _ _ (by omega) (by omega) ?_ (nI_1 j)
            first | exact jct_t (by clear K X ih; grind [bi_0, bi_n0]) | exact jct_f (by clear K X ih; grind [bi_0, bi_n0])
    exact lp14 (8 + 1) 0 _ _ (by omega) (by omega) rfl rfl
  · skip
    refine r_ldcf (pc := 7) X co_X9_222 dX9_share_7 ?_
    exact K dX9_share_9 ⟨(if_pos (bi_0.mp q4)).symm, rfl⟩

set_option maxHeartbeats 4000000 in
set_option maxRecDepth 100000 in
theorem c_X9_litIn {G : bkG} {Z : Nat → Prop} {M : bkM} {r : Nat} {s a p q t o f : Nat → Int32} (c : Int32) : bkCi G Z Z yX9_litIn cX9_litIn 3 (some .int) 4 0 0 [.ref r, .int c] (mW G M r s a p q t o f) (fun v M' => v = jlitIn s c ∧ M' = (mW G M r s a p q t o f)) := by
  refine bk_meti [some (.ref r), some (.int c), none] rfl pf_X9_litIn rfl rfl (fun E X K => ?_)
  refine r_iload_n (pc := 0) X rfl dX9_litIn_0 ?_
  refine ca_X9_77 (pc := 1) X (c_X9_isCell c) rfl rfl rfl dX9_litIn_1 (fun r1 M1 hp1 => ?_)
  obtain ⟨rfl, rfl⟩ := hp1
  refine r_if_ne (pc := 4) X 9 (by decide) dX9_litIn_4 (fun q4 => ?_) (fun q4 => ?_)
  · skip
    obtain ⟨cn, hcn, rfl⟩ := jin_of (n := 99) rfl (by decide) (bi_n0.mp q4)
    have tcn : tn (nI cn) = cn := tn_nI (by omega)
    refine r_iconst (pc := 9) (v := 0) X rfl dX9_litIn_9 ?_
    refine r_istore_n (pc := 10) X rfl rfl dX9_litIn_10 ?_
    have lp11 : ∀ (d j : Nat) (y : Int32), j ≤ 41 → 41 < j + d → (y = nI j) → (jlitIn s (nI cn) = jfind (fun j => jlt s cn (nI j) (nI j)) j (41 - j)) → bkV E G Z 0 0 (mW G M r s a p q t o f) 11 [some (.ref r), some (.int (nI cn)), some (.int y)] [] := by
      intro d
      induction d with
      | zero => intro j y; intros; exfalso; omega
      | succ d ih =>
        intro j y hj hd e1 e2
        subst e1
        refine r_iload_n (pc := 11) X rfl dX9_litIn_11 ?_
        refine r_bipush (pc := 12) (v := 40) X rfl dX9_litIn_12 ?_
        refine r_icmpN_gt (pc := 14) X 35 (j) (40) rfl rfl (by omega) (by omega) (by decide) dX9_litIn_14 (fun q14 => ?_) (fun q14 => ?_)
        · skip
          obtain rfl : j = 41 := by omega
          refine r_bipush (pc := 35) (v := (-5)) X rfl dX9_litIn_35 ?_
          exact K dX9_litIn_37 ⟨(e2.trans jfind_end).symm, rfl⟩
        · skip
          refine r_aload_n (pc := 17) X rfl dX9_litIn_17 ?_
          refine r_iload_n (pc := 18) X rfl dX9_litIn_18 ?_
          refine r_iload_n (pc := 19) X rfl dX9_litIn_19 ?_
          refine r_iload_n (pc := 20) X rfl dX9_litIn_20 ?_
          refine ca_X9_223 (pc := 21) X (c_X9_isLitThen cn (by omega) (nI j) (nI j)) mW_0 rfl rfl rfl dX9_litIn_21 (fun r21 M21 hp21 => ?_)
          obtain ⟨rfl, rfl⟩ := hp21
          refine r_if_eq (pc := 24) X 29 (by decide) dX9_litIn_24 (fun q24 => ?_) (fun q24 => ?_)
          · skip
            refine r_iinc (pc := 29) X rfl rfl rfl dX9_litIn_29 ?_
            refine r_goto (pc := 32) X 11 (by decide) dX9_litIn_32 ?_
            exact ih (j + 1) _ (by omega) (by omega) (nI_1 j) (e2.trans (jfind_miss (by omega) (bi_0.mp q24)))
          · skip
            refine r_iload_n (pc := 27) X rfl dX9_litIn_27 ?_
            exact K dX9_litIn_28 ⟨(e2.trans (jfind_hit (by omega) (bi_n0.mp q24))).symm, rfl⟩
    exact lp11 (41 + 1) 0 _ (by omega) (by omega) rfl (by unfold jlitIn; rw [if_neg (by rw [show jin (nI cn) 0 99 = true from jin_nI (j := cn) (n := 99) (by omega) (by decide)]; decide), tcn])
  · skip
    refine r_iconst (pc := 7) (v := (-1)) X rfl dX9_litIn_7 ?_
    exact K dX9_litIn_8 ⟨(if_pos (bi_0.mp q4)).symm, rfl⟩

