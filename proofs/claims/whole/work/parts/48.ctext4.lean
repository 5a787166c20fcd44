set_option maxHeartbeats 800000 in
set_option maxRecDepth 100000 in
theorem c_X7_readPart {G : bkG} {Z : Nat → Prop} {M : bkM} {T : Nat} {t : Nat → Int32} {pc : Int32} {pf : Nat → Nat → Int32} {len p i : Nat} (h60 : len ≤ 60) (hp : p ≤ len) (hi : i < 20) (ht : tOK t) (f : Nat → Int32) : bkCi G Z Z yX7_readPart cX7_readPart 2 (some .boolean) 3 0 0 [.ref T, .ref (T + 3 + i)] (tW G T t (nI len) pc (nI p) (pfu pf i f) M) (fun v M' => v = bi (!(jpx t len (p, false)).2) ∧ ∃ f', M' = (tW G T t (nI len) pc (nI (jpx t len (p, false)).1) (pfu pf i f') M) ∧ ((jpx t len (p, false)).2 = false → f' 0 = jpl t len (p, false) ∧ pR (jpl t len (p, false)) (jpa t len (p, false)) (jpb t len (p, false) 0) (jpd t len (p, false) 0) (f' 1) (f' 2) (f' 3) (f' 4))) := by
  refine bk_metz [some (.ref T), some (.ref (T + 3 + i))] rfl pf_X7_readPart rfl rfl (fun E X K => ?_)
  have t29 : bkV E G Z 0 0 (tW G T t (nI len) pc (nI p) (pfu pf i (upd f 0 (if p < len then t p else 32))) M) 29 [some (.ref T), some (.ref (T + 3 + i))] [] := by
    refine r_aload_n (pc := 29) X rfl dX7_readPart_29 ?_
    refine r_bipush (pc := 30) (v := 114) X rfl dX7_readPart_30 ?_
    refine ca_X7_36 (pc := 32) X (c_X7_readSign h60 hp 114 (by decide)) tW_o rfl rfl rfl dX7_readPart_32 (fun r32 M32 hp32 => ?_)
    obtain ⟨rfl, rfl⟩ := hp32
    refine r_if_eq (pc := 35) X 59 (by decide) dX7_readPart_35 (fun q35 => ?_) (fun q35 => ?_)
    · skip
      obtain ⟨w1, m1⟩ := jsg_no2 (jsg_no q35)
      rw [w1]
      refine r_aload_n (pc := 59) X rfl dX7_readPart_59 ?_
      refine r_bipush (pc := 60) (v := 115) X rfl dX7_readPart_60 ?_
      refine ca_X7_36 (pc := 62) X (c_X7_readSign h60 hp 115 (by decide)) tW_o rfl rfl rfl dX7_readPart_62 (fun r62 M62 hp62 => ?_)
      obtain ⟨rfl, rfl⟩ := hp62
      refine r_if_eq (pc := 65) X 74 (by decide) dX7_readPart_65 (fun q65 => ?_) (fun q65 => ?_)
      · skip
        obtain ⟨w2, m2⟩ := jsg_no2 (jsg_no q65)
        rw [w2]
        refine r_aload_n (pc := 74) X rfl dX7_readPart_74 ?_
        refine r_bipush (pc := 75) (v := 100) X rfl dX7_readPart_75 ?_
        refine ca_X7_36 (pc := 77) X (c_X7_readSign h60 hp 100 (by decide)) tW_o rfl rfl rfl dX7_readPart_77 (fun r77 M77 hp77 => ?_)
        obtain ⟨rfl, rfl⟩ := hp77
        refine r_if_eq (pc := 80) X 129 (by decide) dX7_readPart_80 (fun q80 => ?_) (fun q80 => ?_)
        · skip
          obtain ⟨w3, m3⟩ := jsg_no2 (jsg_no q80)
          rw [w3]
          refine r_aload_n (pc := 129) X rfl dX7_readPart_129 ?_
          refine r_bipush (pc := 130) (v := 104) X rfl dX7_readPart_130 ?_
          refine ca_X7_36 (pc := 132) X (c_X7_readSign h60 hp 104 (by decide)) tW_o rfl rfl rfl dX7_readPart_132 (fun r132 M132 hp132 => ?_)
          obtain ⟨rfl, rfl⟩ := hp132
          refine r_if_eq (pc := 135) X 161 (by decide) dX7_readPart_135 (fun q135 => ?_) (fun q135 => ?_)
          · skip
            obtain ⟨w4, m4⟩ := jsg_no2 (jsg_no q135)
            rw [w4]
            refine r_iconst (pc := 161) (v := 0) X rfl dX7_readPart_161 ?_
            exact K dX7_readPart_162 (by first | exact Or.inl rfl | exact Or.inr rfl) (by have EQ := pl_miss (t := t) (len := len) m1 m2 m3 m4; exact ⟨by rw [EQ]; rfl, _, by rw [EQ], fun z => by rw [EQ] at z; cases z⟩)
          · skip
            obtain ⟨q4, w4⟩ := jsg_ex q135
            obtain ⟨rfl, hl, e1, hkd⟩ := pl_hit (by decide) w4
            rw [w4]
            have hp1 : p + 1 ≤ len := by have := jsg_le (t := t) (c := 104) (x := (p, false)) (by decide) hp; rw [w4] at this; exact this
            refine r_aload_n (pc := 138) X rfl dX7_readPart_138 ?_
            refine r_aload_n (pc := 139) X rfl dX7_readPart_139 ?_
            refine r_bipush (pc := 140) (v := 20) X rfl dX7_readPart_140 ?_
            refine ca_X7_64 (pc := 142) X (c_X7_readNumber h60 hp1 20 (Or.inr rfl)) tW_o rfl rfl rfl dX7_readPart_142 (fun r142 M142 hp142 => ?_)
            obtain ⟨rfl, rfl⟩ := hp142
            refine pt_X7_58 (pc := 145) X (tW_qu hi)  rfl dX7_readPart_145 ?_
            refine bkV.eq ((congrArg (fun z => bku _ _ (.inr (4, z))) ptF_1).trans (tS_qu hi)) ?_
            refine r_aload_n (pc := 148) X rfl dX7_readPart_148 ?_
            refine gt_X7_58 (pc := 149) X (tW_qu hi) rfl dX7_readPart_149 ?_
            refine bk_top upd_s ?_
            refine r_if_lt (pc := 152) X 159 (by decide) dX7_readPart_152 (fun q152 => ?_) (fun q152 => ?_)
            · skip
              have EQ := (px_h hl e1).1
              have E := knm_neg.mp q152
              refine r_iconst (pc := 159) (v := 0) X rfl dX7_readPart_159 ?_
              exact K dX7_readPart_160 (by first | exact Or.inl rfl | exact Or.inr rfl) (by first | exact ⟨by rw [EQ, E]; rfl, _, by rw [EQ], fun z => by rw [EQ, E] at z; cases z⟩ | exact ⟨by rw [EQ, e2]; rfl, _, by rw [EQ], fun _ => ⟨hkd.trans hl.symm, by rw [hl, (px_h hl e1).2, k2]; exact pR_h rfl⟩⟩)
            · skip
              have EQ := (px_h hl e1).1
              obtain ⟨a2, e2, k2⟩ := knm_ok q152
              refine r_iconst (pc := 155) (v := 1) X rfl dX7_readPart_155 ?_
              refine r_goto (pc := 156) X 160 (by decide) dX7_readPart_156 ?_
              exact K dX7_readPart_160 (by first | exact Or.inl rfl | exact Or.inr rfl) (by first | exact ⟨by rw [EQ, E]; rfl, _, by rw [EQ], fun z => by rw [EQ, E] at z; cases z⟩ | exact ⟨by rw [EQ, e2]; rfl, _, by rw [EQ], fun _ => ⟨hkd.trans hl.symm, by rw [hl, (px_h hl e1).2, k2]; exact pR_h rfl⟩⟩)
        · skip
          obtain ⟨q3, w3⟩ := jsg_ex q80
          obtain ⟨rfl, hl, e1, hkd⟩ := pl_hit (by decide) w3
          rw [w3]
          have hp1 : p + 1 ≤ len := by have := jsg_le (t := t) (c := 100) (x := (p, false)) (by decide) hp; rw [w3] at this; exact this
          refine r_aload_n (pc := 83) X rfl dX7_readPart_83 ?_
          refine r_aload_n (pc := 84) X rfl dX7_readPart_84 ?_
          refine r_iconst (pc := 85) (v := 0) X rfl dX7_readPart_85 ?_
          refine r_iconst (pc := 86) (v := 3) X rfl dX7_readPart_86 ?_
          refine ca_X7_54 (pc := 87) X (c_X7_readDigit h60 hp1 0 3 (by decide)) tW_o rfl rfl rfl dX7_readPart_87 (fun r87 M87 hp87 => ?_)
          obtain ⟨rfl, rfl⟩ := hp87
          refine pt_X7_58 (pc := 90) X (tW_qu hi)  rfl dX7_readPart_90 ?_
          refine bkV.eq ((congrArg (fun z => bku _ _ (.inr (4, z))) ptF_1).trans (tS_qu hi)) ?_
          refine r_aload_n (pc := 93) X rfl dX7_readPart_93 ?_
          refine r_aload_n (pc := 94) X rfl dX7_readPart_94 ?_
          refine gt_X7_58 (pc := 95) X (tW_qu hi) rfl dX7_readPart_95 ?_
          refine bk_top upd_s ?_
          refine r_if_ge (pc := 98) X 106 (by decide) dX7_readPart_98 (fun q98 => ?_) (fun q98 => ?_)
          · skip
            obtain ⟨e2, k2, j2⟩ := kdg_ge (lo := 0) (hi := 3) (by decide) q98
            have hp2 : p + 1 + 1 ≤ len := by have := jdg_le (t := t) (lo := 0) (hi := 3) (x := (p + 1, false)) (by decide) hp1; rw [e2] at this; exact this
            rw [e2]
            refine r_aload_n (pc := 106) X rfl dX7_readPart_106 ?_
            refine r_iconst (pc := 107) (v := 0) X rfl dX7_readPart_107 ?_
            refine r_bipush (pc := 108) (v := 7) X rfl dX7_readPart_108 ?_
            refine ca_X7_54 (pc := 110) X (c_X7_readDigit h60 hp2 0 7 (by decide)) tW_o rfl rfl rfl dX7_readPart_110 (fun r110 M110 hp110 => ?_)
            obtain ⟨rfl, rfl⟩ := hp110
            have EQ : jpx t len (p, false) = jdg t len 0 7 (p + 1 + 1, false) := by rw [(px_d hl e1).1, e2]
            refine pt_X7_61 (pc := 113) X (tW_qu hi)  rfl dX7_readPart_113 ?_
            refine bkV.eq ((congrArg (fun z => bku _ _ (.inr (4, z))) ptF_4).trans (tS_qu hi)) ?_
            refine r_aload_n (pc := 116) X rfl dX7_readPart_116 ?_
            refine gt_X7_61 (pc := 117) X (tW_qu hi) rfl dX7_readPart_117 ?_
            refine bk_top upd_s ?_
            refine r_if_lt (pc := 120) X 127 (by decide) dX7_readPart_120 (fun q120 => ?_) (fun q120 => ?_)
            · skip
              have E := (kdg_neg (lo := 0) (hi := 7) (by decide)).mp q120
              refine r_iconst (pc := 127) (v := 0) X rfl dX7_readPart_127 ?_
              exact K dX7_readPart_128 (by first | exact Or.inl rfl | exact Or.inr rfl) (by first | exact ⟨by rw [EQ, E]; rfl, _, by rw [EQ], fun z => by rw [EQ, E] at z; cases z⟩ | exact ⟨by rw [EQ, e7]; rfl, _, by rw [EQ], fun _ => ⟨hkd.trans hl.symm, by rw [hl, (px_d hl e1).2.1, (px_d hl e1).2.2, e2, k2, k7]; exact pR_d rfl rfl⟩⟩)
            · skip
              obtain ⟨e7, k7, j7⟩ := kdg_ge (lo := 0) (hi := 7) (by decide) (Int32.not_lt.mp q120)
              refine r_iconst (pc := 123) (v := 1) X rfl dX7_readPart_123 ?_
              refine r_goto (pc := 124) X 128 (by decide) dX7_readPart_124 ?_
              exact K dX7_readPart_128 (by first | exact Or.inl rfl | exact Or.inr rfl) (by first | exact ⟨by rw [EQ, E]; rfl, _, by rw [EQ], fun z => by rw [EQ, E] at z; cases z⟩ | exact ⟨by rw [EQ, e7]; rfl, _, by rw [EQ], fun _ => ⟨hkd.trans hl.symm, by rw [hl, (px_d hl e1).2.1, (px_d hl e1).2.2, e2, k2, k7]; exact pR_d rfl rfl⟩⟩)
          · skip
            obtain ⟨e2, k2⟩ := kdg_lt (lo := 0) (hi := 3) (by decide) q98
            rw [e2]
            have EQ : jpx t len (p, false) = (p + 1, true) := by rw [(px_d hl e1).1, e2, jdg_w]
            have E : ((p + 1, true) : JX).2 = true := rfl
            refine r_bipush (pc := 101) (v := (-5)) X rfl dX7_readPart_101 ?_
            refine r_goto (pc := 103) X 113 (by decide) dX7_readPart_103 ?_
            refine pt_X7_61 (pc := 113) X (tW_qu hi)  rfl dX7_readPart_113 ?_
            refine bkV.eq ((congrArg (fun z => bku _ _ (.inr (4, z))) ptF_4).trans (tS_qu hi)) ?_
            refine r_aload_n (pc := 116) X rfl dX7_readPart_116 ?_
            refine gt_X7_61 (pc := 117) X (tW_qu hi) rfl dX7_readPart_117 ?_
            refine bk_top upd_s ?_
            refine r_if_lt (pc := 120) X 127 (by decide) dX7_readPart_120 (fun q120 => ?_) (fun q120 => absurd (by decide) q120)
            refine r_iconst (pc := 127) (v := 0) X rfl dX7_readPart_127 ?_
            exact K dX7_readPart_128 (by first | exact Or.inl rfl | exact Or.inr rfl) (by first | exact ⟨by rw [EQ, E]; rfl, _, by rw [EQ], fun z => by rw [EQ, E] at z; cases z⟩ | exact ⟨by rw [EQ, e7]; rfl, _, by rw [EQ], fun _ => ⟨hkd.trans hl.symm, by rw [hl, (px_d hl e1).2.1, (px_d hl e1).2.2, e2, k2, k7]; exact pR_d rfl rfl⟩⟩)
      · skip
        obtain ⟨q2, w2⟩ := jsg_ex q65
        obtain ⟨rfl, hl, e1, hkd⟩ := pl_hit (by decide) w2
        rw [w2]
        have hp1 : p + 1 ≤ len := by have := jsg_le (t := t) (c := 115) (x := (p, false)) (by decide) hp; rw [w2] at this; exact this
        refine r_aload_n (pc := 68) X rfl dX7_readPart_68 ?_
        refine r_aload_n (pc := 69) X rfl dX7_readPart_69 ?_
        refine ca_X7_51 (pc := 70) X (c_X7_readShip h60 hp1 hi _) tW_o rfl rfl rfl dX7_readPart_70 (fun r70 M70 hp70 => ?_)
        obtain ⟨rfl, f2, rfl, hf2⟩ := hp70
        exact K dX7_readPart_73 (by cases (!(jqx t len 115 (p + 1, false)).2) <;> first | exact Or.inl rfl | exact Or.inr rfl) (by obtain ⟨E1, E2, E3, E4⟩ := px_s hl e1; refine ⟨by rw [E1], f2, by rw [E1], fun z => ?_⟩; rw [E1] at z; obtain ⟨y0, y1, y2, y3⟩ := hf2 z; exact ⟨y0.trans (hkd.trans hl.symm), by rw [hl, E2, E3, E4]; exact pR_s y1 y2 y3⟩)
    · skip
      obtain ⟨q1, w1⟩ := jsg_ex q35
      obtain ⟨rfl, hl, e1, hkd⟩ := pl_hit (by decide) w1
      rw [w1]
      have hp1 : p + 1 ≤ len := by have := jsg_le (t := t) (c := 114) (x := (p, false)) (by decide) hp; rw [w1] at this; exact this
      refine r_aload_n (pc := 38) X rfl dX7_readPart_38 ?_
      refine r_aload_n (pc := 39) X rfl dX7_readPart_39 ?_
      refine ca_X7_44 (pc := 40) X (c_X7_readCell h60 hp1) tW_o rfl rfl rfl dX7_readPart_40 (fun r40 M40 hp40 => ?_)
      obtain ⟨rfl, rfl⟩ := hp40
      refine pt_X7_48 (pc := 43) X (tW_qu hi)  rfl dX7_readPart_43 ?_
      refine bkV.eq ((congrArg (fun z => bku _ _ (.inr (4, z))) ptF_2).trans (tS_qu hi)) ?_
      refine r_aload_n (pc := 46) X rfl dX7_readPart_46 ?_
      refine gt_X7_48 (pc := 47) X (tW_qu hi) rfl dX7_readPart_47 ?_
      refine bk_top upd_s ?_
      refine r_if_lt (pc := 50) X 57 (by decide) dX7_readPart_50 (fun q50 => ?_) (fun q50 => ?_)
      · skip
        have EQ := (px_r hl e1).1
        have E := kcl_neg.mp q50
        refine r_iconst (pc := 57) (v := 0) X rfl dX7_readPart_57 ?_
        exact K dX7_readPart_58 (by first | exact Or.inl rfl | exact Or.inr rfl) (by first | exact ⟨by rw [EQ, E]; rfl, _, by rw [EQ], fun z => by rw [EQ, E] at z; cases z⟩ | exact ⟨by rw [EQ, e2]; rfl, _, by rw [EQ], fun _ => ⟨hkd.trans hl.symm, by rw [hl, (px_r hl e1).2, k2]; exact pR_r rfl⟩⟩)
      · skip
        have EQ := (px_r hl e1).1
        obtain ⟨a2, e2, k2⟩ := kcl_ok q50
        refine r_iconst (pc := 53) (v := 1) X rfl dX7_readPart_53 ?_
        refine r_goto (pc := 54) X 58 (by decide) dX7_readPart_54 ?_
        exact K dX7_readPart_58 (by first | exact Or.inl rfl | exact Or.inr rfl) (by first | exact ⟨by rw [EQ, E]; rfl, _, by rw [EQ], fun z => by rw [EQ, E] at z; cases z⟩ | exact ⟨by rw [EQ, e2]; rfl, _, by rw [EQ], fun _ => ⟨hkd.trans hl.symm, by rw [hl, (px_r hl e1).2, k2]; exact pR_r rfl⟩⟩)
  refine r_aload_n (pc := 0) X rfl dX7_readPart_0 ?_
  refine r_aload_n (pc := 1) X rfl dX7_readPart_1 ?_
  refine gt_X7_28 (pc := 2) X tW_o rfl dX7_readPart_2 ?_
  refine r_aload_n (pc := 5) X rfl dX7_readPart_5 ?_
  refine gt_X7_15 (pc := 6) X tW_o rfl dX7_readPart_6 ?_
  refine r_icmpN_ge (pc := 9) X 24 (p) (len) rfl rfl (by omega) (by omega) (by decide) dX7_readPart_9 (fun q9 => ?_) (fun q9 => ?_)
  · skip
    refine r_bipush (pc := 24) (v := 32) X rfl dX7_readPart_24 ?_
    refine pt_X7_40 (pc := 26) X (tW_qu hi) (by first | exact (ht p (by omega)).1 | rfl) (by first | exact (ht p (by omega)).2 | rfl) rfl dX7_readPart_26 ?_
    refine bkV.eq ((congrArg (fun z => bku _ _ (.inr (4, z))) ptF_0).trans (tS_qu hi)) ?_
    first | exact bkV.eq (congrArg (fun z => tW G T t (nI len) pc (nI p) (pfu pf i (upd f 0 z)) M) (if_pos q9).symm) t29 | exact bkV.eq (congrArg (fun z => tW G T t (nI len) pc (nI p) (pfu pf i (upd f 0 z)) M) (if_neg (show ¬ p < len by omega)).symm) t29
  · skip
    refine r_aload_n (pc := 12) X rfl dX7_readPart_12 ?_
    refine gt_X7_9 (pc := 13) X tW_o rfl dX7_readPart_13 ?_
    refine r_aload_n (pc := 16) X rfl dX7_readPart_16 ?_
    refine gt_X7_28 (pc := 17) X tW_o rfl dX7_readPart_17 ?_
    refine r_cald (pc := 20) X tW_c (p) rfl (by omega) (by decide) dX7_readPart_20 ?_
    refine r_goto (pc := 21) X 26 (by decide) dX7_readPart_21 ?_
    refine pt_X7_40 (pc := 26) X (tW_qu hi) (by first | exact (ht p (by omega)).1 | rfl) (by first | exact (ht p (by omega)).2 | rfl) rfl dX7_readPart_26 ?_
    refine bkV.eq ((congrArg (fun z => bku _ _ (.inr (4, z))) ptF_0).trans (tS_qu hi)) ?_
    first | exact bkV.eq (congrArg (fun z => tW G T t (nI len) pc (nI p) (pfu pf i (upd f 0 z)) M) (if_pos q9).symm) t29 | exact bkV.eq (congrArg (fun z => tW G T t (nI len) pc (nI p) (pfu pf i (upd f 0 z)) M) (if_neg (show ¬ p < len by omega)).symm) t29

