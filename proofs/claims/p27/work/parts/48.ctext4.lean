set_option maxHeartbeats 800000 in
set_option maxRecDepth 100000 in
theorem c_X7_readPart {G : bkG} {Z : Nat → Prop} {M : bkM} {T : Nat} {t : Nat → Int32} {pc : Int32} {pf : Nat → Nat → Int32} {len p i : Nat} (h60 : len ≤ 60) (hp : p ≤ len) (ht : tOK t) (hi : i < 20) (f : Nat → Int32) : bkCi G Z Z yX7_readPart cX7_readPart 2 (some .boolean) 4 0 0 [.ref T, .ref (T + 3 + i)] (tW G T t (nI len) pc (nI p) (pfu pf i f) M) (fun v M' => v = bi (!(jpx t len (p, false)).2) ∧ ∃ f', M' = (tW G T t (nI len) pc (nI (jpx t len (p, false)).1) (pfu pf i f') M) ∧ ((jpx t len (p, false)).2 = false → f' 0 = jpl t len (p, false) ∧ pR (jpl t len (p, false)) (jpa t len (p, false)) (jpb t len (p, false) 0) (jpd t len (p, false) 0) (f' 1) (f' 2) (f' 3) (f' 4))) := by
  refine bk_metz [some (.ref T), some (.ref (T + 3 + i))] rfl pf_X7_readPart rfl rfl (fun E X K => ?_)
  refine r_aload_n (pc := 0) X rfl dX7_readPart_0 ?_
  refine r_aload_n (pc := 1) X rfl dX7_readPart_1 ?_
  refine ca_X7_40 (pc := 2) X (c_X7_signAhead h60 hp ht) tW_o rfl rfl rfl dX7_readPart_2 (fun r2 M2 hp2 => ?_)
  obtain ⟨rfl, rfl⟩ := hp2
  refine pt_X7_44 (pc := 5) X (tW_qu hi) (ht.ah h60).1 (ht.ah h60).2 rfl dX7_readPart_5 ?_
  refine bkV.eq ((congrArg (fun z => bku _ _ (.inr (4, z))) ptF_0).trans (tS_qu hi)) ?_
  refine r_aload_n (pc := 8) X rfl dX7_readPart_8 ?_
  refine r_bipush (pc := 9) (v := 114) X rfl dX7_readPart_9 ?_
  refine ca_X7_36 (pc := 11) X (c_X7_readSign h60 hp ht 114 (by decide) (by decide)) tW_o rfl rfl rfl dX7_readPart_11 (fun r11 M11 hp11 => ?_)
  obtain ⟨rfl, rfl⟩ := hp11
  refine r_if_eq (pc := 14) X 38 (by decide) dX7_readPart_14 (fun q14 => ?_) (fun q14 => ?_)
  · skip
    obtain ⟨w1, m1⟩ := jsg_no2 (jsg_no q14)
    rw [w1]
    refine r_aload_n (pc := 38) X rfl dX7_readPart_38 ?_
    refine r_bipush (pc := 39) (v := 115) X rfl dX7_readPart_39 ?_
    refine ca_X7_36 (pc := 41) X (c_X7_readSign h60 hp ht 115 (by decide) (by decide)) tW_o rfl rfl rfl dX7_readPart_41 (fun r41 M41 hp41 => ?_)
    obtain ⟨rfl, rfl⟩ := hp41
    refine r_if_eq (pc := 44) X 53 (by decide) dX7_readPart_44 (fun q44 => ?_) (fun q44 => ?_)
    · skip
      obtain ⟨w2, m2⟩ := jsg_no2 (jsg_no q44)
      rw [w2]
      refine r_aload_n (pc := 53) X rfl dX7_readPart_53 ?_
      refine r_bipush (pc := 54) (v := 100) X rfl dX7_readPart_54 ?_
      refine ca_X7_36 (pc := 56) X (c_X7_readSign h60 hp ht 100 (by decide) (by decide)) tW_o rfl rfl rfl dX7_readPart_56 (fun r56 M56 hp56 => ?_)
      obtain ⟨rfl, rfl⟩ := hp56
      refine r_if_eq (pc := 59) X 108 (by decide) dX7_readPart_59 (fun q59 => ?_) (fun q59 => ?_)
      · skip
        obtain ⟨w3, m3⟩ := jsg_no2 (jsg_no q59)
        rw [w3]
        refine r_aload_n (pc := 108) X rfl dX7_readPart_108 ?_
        refine r_bipush (pc := 109) (v := 104) X rfl dX7_readPart_109 ?_
        refine ca_X7_36 (pc := 111) X (c_X7_readSign h60 hp ht 104 (by decide) (by decide)) tW_o rfl rfl rfl dX7_readPart_111 (fun r111 M111 hp111 => ?_)
        obtain ⟨rfl, rfl⟩ := hp111
        refine r_if_eq (pc := 114) X 140 (by decide) dX7_readPart_114 (fun q114 => ?_) (fun q114 => ?_)
        · skip
          obtain ⟨w4, m4⟩ := jsg_no2 (jsg_no q114)
          rw [w4]
          refine r_iconst (pc := 140) (v := 0) X rfl dX7_readPart_140 ?_
          exact K dX7_readPart_141 (by first | exact Or.inl rfl | exact Or.inr rfl) (by have EQ := pl_miss (t := t) (len := len) m1 m2 m3 m4; exact ⟨by rw [EQ]; rfl, _, by rw [EQ], fun z => by rw [EQ] at z; cases z⟩)
        · skip
          obtain ⟨q4, w4⟩ := jsg_ex q114
          obtain ⟨rfl, hl, e1, hkd⟩ := pl_hit (by decide) w4
          rw [w4]
          have hp1 : p + 1 ≤ len := by have := jsg_le (t := t) (c := 104) (x := (p, false)) (by decide) hp; rw [w4] at this; exact this
          refine r_aload_n (pc := 117) X rfl dX7_readPart_117 ?_
          refine r_aload_n (pc := 118) X rfl dX7_readPart_118 ?_
          refine r_bipush (pc := 119) (v := 20) X rfl dX7_readPart_119 ?_
          refine ca_X7_68 (pc := 121) X (c_X7_readNumber h60 hp1 ht 20 (Or.inr rfl)) tW_o rfl rfl rfl dX7_readPart_121 (fun r121 M121 hp121 => ?_)
          obtain ⟨rfl, rfl⟩ := hp121
          refine pt_X7_62 (pc := 124) X (tW_qu hi)  rfl dX7_readPart_124 ?_
          refine bkV.eq ((congrArg (fun z => bku _ _ (.inr (4, z))) ptF_1).trans (tS_qu hi)) ?_
          refine r_aload_n (pc := 127) X rfl dX7_readPart_127 ?_
          refine gt_X7_62 (pc := 128) X (tW_qu hi) rfl dX7_readPart_128 ?_
          refine bk_top upd_s ?_
          refine r_if_lt (pc := 131) X 138 (by decide) dX7_readPart_131 (fun q131 => ?_) (fun q131 => ?_)
          · skip
            have EQ := (px_h hl e1).1
            have E := knm_neg.mp q131
            refine r_iconst (pc := 138) (v := 0) X rfl dX7_readPart_138 ?_
            exact K dX7_readPart_139 (by first | exact Or.inl rfl | exact Or.inr rfl) (by first | exact ⟨by rw [EQ, E]; rfl, _, by rw [EQ], fun z => by rw [EQ, E] at z; cases z⟩ | exact ⟨by rw [EQ, e2]; rfl, _, by rw [EQ], fun _ => ⟨hkd.trans hl.symm, by rw [hl, (px_h hl e1).2, k2]; exact pR_h rfl⟩⟩)
          · skip
            have EQ := (px_h hl e1).1
            obtain ⟨a2, e2, k2⟩ := knm_ok q131
            refine r_iconst (pc := 134) (v := 1) X rfl dX7_readPart_134 ?_
            refine r_goto (pc := 135) X 139 (by decide) dX7_readPart_135 ?_
            exact K dX7_readPart_139 (by first | exact Or.inl rfl | exact Or.inr rfl) (by first | exact ⟨by rw [EQ, E]; rfl, _, by rw [EQ], fun z => by rw [EQ, E] at z; cases z⟩ | exact ⟨by rw [EQ, e2]; rfl, _, by rw [EQ], fun _ => ⟨hkd.trans hl.symm, by rw [hl, (px_h hl e1).2, k2]; exact pR_h rfl⟩⟩)
      · skip
        obtain ⟨q3, w3⟩ := jsg_ex q59
        obtain ⟨rfl, hl, e1, hkd⟩ := pl_hit (by decide) w3
        rw [w3]
        have hp1 : p + 1 ≤ len := by have := jsg_le (t := t) (c := 100) (x := (p, false)) (by decide) hp; rw [w3] at this; exact this
        refine r_aload_n (pc := 62) X rfl dX7_readPart_62 ?_
        refine r_aload_n (pc := 63) X rfl dX7_readPart_63 ?_
        refine r_iconst (pc := 64) (v := 0) X rfl dX7_readPart_64 ?_
        refine r_iconst (pc := 65) (v := 3) X rfl dX7_readPart_65 ?_
        refine ca_X7_58 (pc := 66) X (c_X7_readDigit h60 hp1 ht 0 3 (by decide)) tW_o rfl rfl rfl dX7_readPart_66 (fun r66 M66 hp66 => ?_)
        obtain ⟨rfl, rfl⟩ := hp66
        refine pt_X7_62 (pc := 69) X (tW_qu hi)  rfl dX7_readPart_69 ?_
        refine bkV.eq ((congrArg (fun z => bku _ _ (.inr (4, z))) ptF_1).trans (tS_qu hi)) ?_
        refine r_aload_n (pc := 72) X rfl dX7_readPart_72 ?_
        refine r_aload_n (pc := 73) X rfl dX7_readPart_73 ?_
        refine gt_X7_62 (pc := 74) X (tW_qu hi) rfl dX7_readPart_74 ?_
        refine bk_top upd_s ?_
        refine r_if_ge (pc := 77) X 85 (by decide) dX7_readPart_77 (fun q77 => ?_) (fun q77 => ?_)
        · skip
          obtain ⟨e2, k2, j2⟩ := kdg_ge (lo := 0) (hi := 3) (by decide) q77
          have hp2 : p + 1 + 1 ≤ len := by have := jdg_le (t := t) (lo := 0) (hi := 3) (x := (p + 1, false)) (by decide) hp1; rw [e2] at this; exact this
          rw [e2]
          refine r_aload_n (pc := 85) X rfl dX7_readPart_85 ?_
          refine r_iconst (pc := 86) (v := 0) X rfl dX7_readPart_86 ?_
          refine r_bipush (pc := 87) (v := 7) X rfl dX7_readPart_87 ?_
          refine ca_X7_58 (pc := 89) X (c_X7_readDigit h60 hp2 ht 0 7 (by decide)) tW_o rfl rfl rfl dX7_readPart_89 (fun r89 M89 hp89 => ?_)
          obtain ⟨rfl, rfl⟩ := hp89
          have EQ : jpx t len (p, false) = jdg t len 0 7 (p + 1 + 1, false) := by rw [(px_d hl e1).1, e2]
          refine pt_X7_65 (pc := 92) X (tW_qu hi)  rfl dX7_readPart_92 ?_
          refine bkV.eq ((congrArg (fun z => bku _ _ (.inr (4, z))) ptF_4).trans (tS_qu hi)) ?_
          refine r_aload_n (pc := 95) X rfl dX7_readPart_95 ?_
          refine gt_X7_65 (pc := 96) X (tW_qu hi) rfl dX7_readPart_96 ?_
          refine bk_top upd_s ?_
          refine r_if_lt (pc := 99) X 106 (by decide) dX7_readPart_99 (fun q99 => ?_) (fun q99 => ?_)
          · skip
            have E := (kdg_neg (lo := 0) (hi := 7) (by decide)).mp q99
            refine r_iconst (pc := 106) (v := 0) X rfl dX7_readPart_106 ?_
            exact K dX7_readPart_107 (by first | exact Or.inl rfl | exact Or.inr rfl) (by first | exact ⟨by rw [EQ, E]; rfl, _, by rw [EQ], fun z => by rw [EQ, E] at z; cases z⟩ | exact ⟨by rw [EQ, e7]; rfl, _, by rw [EQ], fun _ => ⟨hkd.trans hl.symm, by rw [hl, (px_d hl e1).2.1, (px_d hl e1).2.2, e2, k2, k7]; exact pR_d rfl rfl⟩⟩)
          · skip
            obtain ⟨e7, k7, j7⟩ := kdg_ge (lo := 0) (hi := 7) (by decide) (Int32.not_lt.mp q99)
            refine r_iconst (pc := 102) (v := 1) X rfl dX7_readPart_102 ?_
            refine r_goto (pc := 103) X 107 (by decide) dX7_readPart_103 ?_
            exact K dX7_readPart_107 (by first | exact Or.inl rfl | exact Or.inr rfl) (by first | exact ⟨by rw [EQ, E]; rfl, _, by rw [EQ], fun z => by rw [EQ, E] at z; cases z⟩ | exact ⟨by rw [EQ, e7]; rfl, _, by rw [EQ], fun _ => ⟨hkd.trans hl.symm, by rw [hl, (px_d hl e1).2.1, (px_d hl e1).2.2, e2, k2, k7]; exact pR_d rfl rfl⟩⟩)
        · skip
          obtain ⟨e2, k2⟩ := kdg_lt (lo := 0) (hi := 3) (by decide) q77
          rw [e2]
          have EQ : jpx t len (p, false) = (p + 1, true) := by rw [(px_d hl e1).1, e2, jdg_w]
          have E : ((p + 1, true) : JX).2 = true := rfl
          refine r_bipush (pc := 80) (v := (-5)) X rfl dX7_readPart_80 ?_
          refine r_goto (pc := 82) X 92 (by decide) dX7_readPart_82 ?_
          refine pt_X7_65 (pc := 92) X (tW_qu hi)  rfl dX7_readPart_92 ?_
          refine bkV.eq ((congrArg (fun z => bku _ _ (.inr (4, z))) ptF_4).trans (tS_qu hi)) ?_
          refine r_aload_n (pc := 95) X rfl dX7_readPart_95 ?_
          refine gt_X7_65 (pc := 96) X (tW_qu hi) rfl dX7_readPart_96 ?_
          refine bk_top upd_s ?_
          refine r_if_lt (pc := 99) X 106 (by decide) dX7_readPart_99 (fun q99 => ?_) (fun q99 => absurd (by decide) q99)
          refine r_iconst (pc := 106) (v := 0) X rfl dX7_readPart_106 ?_
          exact K dX7_readPart_107 (by first | exact Or.inl rfl | exact Or.inr rfl) (by first | exact ⟨by rw [EQ, E]; rfl, _, by rw [EQ], fun z => by rw [EQ, E] at z; cases z⟩ | exact ⟨by rw [EQ, e7]; rfl, _, by rw [EQ], fun _ => ⟨hkd.trans hl.symm, by rw [hl, (px_d hl e1).2.1, (px_d hl e1).2.2, e2, k2, k7]; exact pR_d rfl rfl⟩⟩)
    · skip
      obtain ⟨q2, w2⟩ := jsg_ex q44
      obtain ⟨rfl, hl, e1, hkd⟩ := pl_hit (by decide) w2
      rw [w2]
      have hp1 : p + 1 ≤ len := by have := jsg_le (t := t) (c := 115) (x := (p, false)) (by decide) hp; rw [w2] at this; exact this
      refine r_aload_n (pc := 47) X rfl dX7_readPart_47 ?_
      refine r_aload_n (pc := 48) X rfl dX7_readPart_48 ?_
      refine ca_X7_55 (pc := 49) X (c_X7_readShip h60 hp1 ht hi _) tW_o rfl rfl rfl dX7_readPart_49 (fun r49 M49 hp49 => ?_)
      obtain ⟨rfl, f2, rfl, hf2⟩ := hp49
      exact K dX7_readPart_52 (by cases (!(jqx t len 115 (p + 1, false)).2) <;> first | exact Or.inl rfl | exact Or.inr rfl) (by obtain ⟨E1, E2, E3, E4⟩ := px_s hl e1; refine ⟨by rw [E1], f2, by rw [E1], fun z => ?_⟩; rw [E1] at z; obtain ⟨y0, y1, y2, y3⟩ := hf2 z; exact ⟨y0.trans (hkd.trans hl.symm), by rw [hl, E2, E3, E4]; exact pR_s y1 y2 y3⟩)
  · skip
    obtain ⟨q1, w1⟩ := jsg_ex q14
    obtain ⟨rfl, hl, e1, hkd⟩ := pl_hit (by decide) w1
    rw [w1]
    have hp1 : p + 1 ≤ len := by have := jsg_le (t := t) (c := 114) (x := (p, false)) (by decide) hp; rw [w1] at this; exact this
    refine r_aload_n (pc := 17) X rfl dX7_readPart_17 ?_
    refine r_aload_n (pc := 18) X rfl dX7_readPart_18 ?_
    refine ca_X7_48 (pc := 19) X (c_X7_readCell h60 hp1 ht) tW_o rfl rfl rfl dX7_readPart_19 (fun r19 M19 hp19 => ?_)
    obtain ⟨rfl, rfl⟩ := hp19
    refine pt_X7_52 (pc := 22) X (tW_qu hi)  rfl dX7_readPart_22 ?_
    refine bkV.eq ((congrArg (fun z => bku _ _ (.inr (4, z))) ptF_2).trans (tS_qu hi)) ?_
    refine r_aload_n (pc := 25) X rfl dX7_readPart_25 ?_
    refine gt_X7_52 (pc := 26) X (tW_qu hi) rfl dX7_readPart_26 ?_
    refine bk_top upd_s ?_
    refine r_if_lt (pc := 29) X 36 (by decide) dX7_readPart_29 (fun q29 => ?_) (fun q29 => ?_)
    · skip
      have EQ := (px_r hl e1).1
      have E := kcl_neg.mp q29
      refine r_iconst (pc := 36) (v := 0) X rfl dX7_readPart_36 ?_
      exact K dX7_readPart_37 (by first | exact Or.inl rfl | exact Or.inr rfl) (by first | exact ⟨by rw [EQ, E]; rfl, _, by rw [EQ], fun z => by rw [EQ, E] at z; cases z⟩ | exact ⟨by rw [EQ, e2]; rfl, _, by rw [EQ], fun _ => ⟨hkd.trans hl.symm, by rw [hl, (px_r hl e1).2, k2]; exact pR_r rfl⟩⟩)
    · skip
      have EQ := (px_r hl e1).1
      obtain ⟨a2, e2, k2⟩ := kcl_ok q29
      refine r_iconst (pc := 32) (v := 1) X rfl dX7_readPart_32 ?_
      refine r_goto (pc := 33) X 37 (by decide) dX7_readPart_33 ?_
      exact K dX7_readPart_37 (by first | exact Or.inl rfl | exact Or.inr rfl) (by first | exact ⟨by rw [EQ, E]; rfl, _, by rw [EQ], fun z => by rw [EQ, E] at z; cases z⟩ | exact ⟨by rw [EQ, e2]; rfl, _, by rw [EQ], fun _ => ⟨hkd.trans hl.symm, by rw [hl, (px_r hl e1).2, k2]; exact pR_r rfl⟩⟩)

