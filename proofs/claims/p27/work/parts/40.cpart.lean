set_option maxHeartbeats 4000000 in
set_option maxRecDepth 100000 in
theorem c_X6_doPart {G : bkG} {Z : Nat → Prop} {M : bkM} {B b : Nat} {s go : Nat → Int32} {pa n : Nat} {l a e c nu ce ha wi : Int32} (hB : bB G B M) (hs : B + 12 ≤ b) (hk : cOK s n go) (hsp : pa < b ∨ b + 21 ≤ pa) (hpa : M pa = some (.inr (4, [.int l, .int nu, .int ce, .int ha, .int wi]))) (hp : pR l a e c nu ce ha wi) (hl : jlc l a) : bkCi G Z Z yX6_doPart cX6_doPart 3 (some .int) 5 0 0 [.ref b, .ref pa] (sW G B b s go M) (fun v M' => v = (jdo s l a e c).1 ∧ ∃ go' m, M' = (sW G B b (jdo s l a e c).2 go' M) ∧ cOK (jdo s l a e c).2 m go') := by
  refine bk_meti [some (.ref b), some (.ref pa), none] rfl pf_X6_doPart rfl rfl (fun E X K => ?_)
  refine r_iconst (pc := 0) (v := 0) X rfl dX6_doPart_0 ?_
  refine r_istore_n (pc := 1) X rfl rfl dX6_doPart_1 ?_
  refine r_aload_n (pc := 2) X rfl dX6_doPart_2 ?_
  refine gt_X6_169 (pc := 3) X ((sW_out hsp).trans hpa) rfl dX6_doPart_3 ?_
  refine r_bipush (pc := 6) (v := 114) X rfl dX6_doPart_6 ?_
  refine r_icmp_ne (pc := 8) X 35 (by decide) dX6_doPart_8 (fun q8 => ?_) (fun q8 => ?_)
  · skip
    refine r_aload_n (pc := 35) X rfl dX6_doPart_35 ?_
    refine gt_X6_169 (pc := 36) X ((sW_out hsp).trans hpa) rfl dX6_doPart_36 ?_
    refine r_bipush (pc := 39) (v := 115) X rfl dX6_doPart_39 ?_
    refine r_icmp_ne (pc := 41) X 85 (by decide) dX6_doPart_41 (fun q41 => ?_) (fun q41 => ?_)
    · skip
      refine r_aload_n (pc := 85) X rfl dX6_doPart_85 ?_
      refine gt_X6_169 (pc := 86) X ((sW_out hsp).trans hpa) rfl dX6_doPart_86 ?_
      refine r_bipush (pc := 89) (v := 100) X rfl dX6_doPart_89 ?_
      refine r_icmp_ne (pc := 91) X 123 (by decide) dX6_doPart_91 (fun q91 => ?_) (fun q91 => ?_)
      · skip
        refine r_aload_n (pc := 123) X rfl dX6_doPart_123 ?_
        refine gt_X6_169 (pc := 124) X ((sW_out hsp).trans hpa) rfl dX6_doPart_124 ?_
        refine r_bipush (pc := 127) (v := 104) X rfl dX6_doPart_127 ?_
        refine r_icmp_ne (pc := 129) X 154 (by decide) dX6_doPart_129 (fun q129 => ?_) (fun q129 => ?_)
        · skip
          exfalso
          rcases hl with z | z | z | z
          · exact q8 z
          · exact q41 z
          · exact q129 z
          · exact q91 z.1
        · skip
          have ea := hp.2.2.2 q129
          have hjb : jbar s l a e c = jbp s nu := by rw [q129, jba_h, ea]
          refine r_aload_n (pc := 132) X rfl dX6_doPart_132 ?_
          refine r_aload_n (pc := 133) X rfl dX6_doPart_133 ?_
          refine gt_X6_184 (pc := 134) X ((sW_out hsp).trans hpa) rfl dX6_doPart_134 ?_
          refine ca_X6_202 (pc := 137) X (c_X6_passError nu) sW_o rfl rfl rfl dX6_doPart_137 (fun r137 M137 hp137 => ?_)
          obtain ⟨rfl, rfl⟩ := hp137
          refine r_istore_n (pc := 140) X rfl rfl dX6_doPart_140 ?_
          refine r_iload_n (pc := 141) X rfl dX6_doPart_141 ?_
          refine r_if_ne (pc := 142) X 154 (by decide) dX6_doPart_142 (fun q142 => ?_) (fun q142 => ?_)
          · skip
            have hb : ¬ 0 ≤ jbp s nu := fun q => by rcases jbp_z s nu with zz | zz; exact q142 zz; exact absurd q (Int32.not_le.mpr zz)
            have ed : (jdo s l a e c) = (jbp s nu, s) := (jdo_b (by rw [hjb]; exact hb)).trans (by rw [hjb])
            refine r_iload_n (pc := 154) X rfl dX6_doPart_154 ?_
            exact K dX6_doPart_155 (by first | exact ⟨by rw [ed], go, n, by rw [ed], by rw [ed]; exact hk⟩ | exact ⟨by rw [ed]; exact q62, go2, n + 1, by rw [ed, ed2], by rw [ed, ed2]; exact hk.cm hn8 (by omega) (by omega) (by omega) hg2⟩ | exact ⟨by rw [ed]; exact q21, go, n, by rw [ed, ed2], by rw [ed, ed2]; exact hk.rock (by omega)⟩ | exact ⟨by rw [ed], go, n, by rw [ed], by rw [ed]; exact hk.dark hk4⟩ | exact ⟨by rw [ed]; exact q142, g2, n, by rw [ed, ed2], by rw [ed, ed2]; exact hk.hrs h1 hg2⟩)
          · skip
            have hb : 0 ≤ jbp s nu := by rw [q142]; decide
            have ed : (jdo s l a e c) = (0, jdo2 s l a e c) := jdo_n (by rw [hjb]; exact hb)
            refine r_aload_n (pc := 145) X rfl dX6_doPart_145 ?_
            refine r_aload_n (pc := 146) X rfl dX6_doPart_146 ?_
            obtain ⟨h1, hh0, hh1, x1⟩ := jbp_in hb
            rw [x1] at hpa
            have ed2 : jdo2 s l a e c = jhrs s n h1 := by rw [q129, jd2_h, hk.1.tn, ← ea, x1, tn_nI (by omega)]
            refine gt_X6_184 (pc := 147) X ((sW_out hsp).trans hpa) rfl dX6_doPart_147 ?_
            refine ca_X6_205 (pc := 150) X (c_X6_passHours hB hs hk.2.1 hk.1 hk.2.2 h1 (by omega)) sW_o rfl rfl rfl dX6_doPart_150 (fun r150 M150 hp150 => ?_)
            obtain ⟨rfl, g2, rfl, hg2⟩ := hp150
            refine r_pop (pc := 153) X rfl dX6_doPart_153 ?_
            refine r_iload_n (pc := 154) X rfl dX6_doPart_154 ?_
            exact K dX6_doPart_155 (by first | exact ⟨by rw [ed], go, n, by rw [ed], by rw [ed]; exact hk⟩ | exact ⟨by rw [ed]; exact q62, go2, n + 1, by rw [ed, ed2], by rw [ed, ed2]; exact hk.cm hn8 (by omega) (by omega) (by omega) hg2⟩ | exact ⟨by rw [ed]; exact q21, go, n, by rw [ed, ed2], by rw [ed, ed2]; exact hk.rock (by omega)⟩ | exact ⟨by rw [ed], go, n, by rw [ed], by rw [ed]; exact hk.dark hk4⟩ | exact ⟨by rw [ed]; exact q142, g2, n, by rw [ed, ed2], by rw [ed, ed2]; exact hk.hrs h1 hg2⟩)
      · skip
        obtain ⟨e1, e2⟩ := hp.2.2.1 q91
        obtain ⟨k, hk4, ek⟩ : ∃ k, k < 4 ∧ a = nI k := by
          rcases hl with z | z | z | z
          · exact absurd z q8
          · exact absurd z q41
          · rw [q91] at z; exact absurd z (by decide)
          · exact z.2
        rw [e1, ek, e2] at hpa
        have ed : jdo s l a e c = (0, upd s (100 + 5 * k + 3) (s (100 + 5 * k + 3) ^^^ ((1 : Int32) <<< (e &&& 31)))) := by rw [q91, jdo_n (by rw [jba_d]; decide), jd2_d, ek, tn_nI (by omega)]
        refine r_aload_n (pc := 94) X rfl dX6_doPart_94 ?_
        refine gt_X6_184 (pc := 95) X ((sW_out hsp).trans hpa) rfl dX6_doPart_95 ?_
        refine ca_X6_164 (pc := 98) X (c_X8_isLight (nI k)) rfl rfl rfl dX6_doPart_98 (fun r98 M98 hp98 => ?_)
        obtain ⟨rfl, rfl⟩ := hp98
        refine r_if_eq (pc := 101) X 123 (by decide) dX6_doPart_101 (fun q101 => ?_) (fun q101 => ?_)
        · skip
          exact absurd (bi_0.mp q101) (by rw [jin_3 hk4]; decide)
        · skip
          refine r_aload_n (pc := 104) X rfl dX6_doPart_104 ?_
          refine gt_X6_17 (pc := 105) X sW_o rfl dX6_doPart_105 ?_
          refine r_aload_n (pc := 108) X rfl dX6_doPart_108 ?_
          refine gt_X6_184 (pc := 109) X ((sW_out hsp).trans hpa) rfl dX6_doPart_109 ?_
          refine r_aald (pc := 112) X sW_l rfl rfl (k) rfl (by omega) (by decide) rfl dX6_doPart_112 ?_
          refine r_aload_n (pc := 113) X rfl dX6_doPart_113 ?_
          refine gt_X6_196 (pc := 114) X ((sW_out hsp).trans hpa) rfl dX6_doPart_114 ?_
          refine ca_X6_199 (pc := 117) X (c_X3_turnDark (sW_lt hk4) e) (sW_lt hk4) rfl rfl rfl dX6_doPart_117 (fun M117 hp117 => ?_)
          obtain rfl := hp117
          refine bkV.eq (sS_lt hk4 (fun m _ hm => upd_n (fun q => hm (by rw [q]; exact jow_l hk4 (by omega))))) ?_
          refine r_goto (pc := 120) X 154 (by decide) dX6_doPart_120 ?_
          refine r_iload_n (pc := 154) X rfl dX6_doPart_154 ?_
          exact K dX6_doPart_155 (by first | exact ⟨by rw [ed], go, n, by rw [ed], by rw [ed]; exact hk⟩ | exact ⟨by rw [ed]; exact q62, go2, n + 1, by rw [ed, ed2], by rw [ed, ed2]; exact hk.cm hn8 (by omega) (by omega) (by omega) hg2⟩ | exact ⟨by rw [ed]; exact q21, go, n, by rw [ed, ed2], by rw [ed, ed2]; exact hk.rock (by omega)⟩ | exact ⟨by rw [ed], go, n, by rw [ed], by rw [ed]; exact hk.dark hk4⟩ | exact ⟨by rw [ed]; exact q142, g2, n, by rw [ed, ed2], by rw [ed, ed2]; exact hk.hrs h1 hg2⟩)
    · skip
      obtain ⟨e1, e2, e3⟩ := hp.2.1 q41
      have hjb : jbar s l a e c = jbs s n nu ce ha := by rw [q41, jba_s, hk.1.tn, e1, e2, e3]
      refine r_aload_n (pc := 44) X rfl dX6_doPart_44 ?_
      refine r_aload_n (pc := 45) X rfl dX6_doPart_45 ?_
      refine gt_X6_184 (pc := 46) X ((sW_out hsp).trans hpa) rfl dX6_doPart_46 ?_
      refine r_aload_n (pc := 49) X rfl dX6_doPart_49 ?_
      refine gt_X6_175 (pc := 50) X ((sW_out hsp).trans hpa) rfl dX6_doPart_50 ?_
      refine r_aload_n (pc := 53) X rfl dX6_doPart_53 ?_
      refine gt_X6_187 (pc := 54) X ((sW_out hsp).trans hpa) rfl dX6_doPart_54 ?_
      refine ca_X6_190 (pc := 57) X (c_X6_shipError hk.1 hk.2.2 nu ce ha) sW_o rfl rfl rfl dX6_doPart_57 (fun r57 M57 hp57 => ?_)
      obtain ⟨rfl, rfl⟩ := hp57
      refine r_istore_n (pc := 60) X rfl rfl dX6_doPart_60 ?_
      refine r_iload_n (pc := 61) X rfl dX6_doPart_61 ?_
      refine r_if_ne (pc := 62) X 154 (by decide) dX6_doPart_62 (fun q62 => ?_) (fun q62 => ?_)
      · skip
        have hb : ¬ 0 ≤ jbs s n nu ce ha := fun q => by rcases jbs_z s n nu ce ha with zz | zz; exact q62 zz; exact absurd q (Int32.not_le.mpr zz)
        have ed : (jdo s l a e c) = (jbs s n nu ce ha, s) := (jdo_b (by rw [hjb]; exact hb)).trans (by rw [hjb])
        refine r_iload_n (pc := 154) X rfl dX6_doPart_154 ?_
        exact K dX6_doPart_155 (by first | exact ⟨by rw [ed], go, n, by rw [ed], by rw [ed]; exact hk⟩ | exact ⟨by rw [ed]; exact q62, go2, n + 1, by rw [ed, ed2], by rw [ed, ed2]; exact hk.cm hn8 (by omega) (by omega) (by omega) hg2⟩ | exact ⟨by rw [ed]; exact q21, go, n, by rw [ed, ed2], by rw [ed, ed2]; exact hk.rock (by omega)⟩ | exact ⟨by rw [ed], go, n, by rw [ed], by rw [ed]; exact hk.dark hk4⟩ | exact ⟨by rw [ed]; exact q142, g2, n, by rw [ed, ed2], by rw [ed, ed2]; exact hk.hrs h1 hg2⟩)
      · skip
        have hb : 0 ≤ jbs s n nu ce ha := by rw [q62]; decide
        have ed : (jdo s l a e c) = (0, jdo2 s l a e c) := jdo_n (by rw [hjb]; exact hb)
        refine r_aload_n (pc := 65) X rfl dX6_doPart_65 ?_
        refine r_aload_n (pc := 66) X rfl dX6_doPart_66 ?_
        have hj := jbs_in hb
        have hn8 := (jbs_wf hk.1 hb).1
        obtain ⟨c1, hc1, x1⟩ := jin_of (n := 99) rfl (by decide) hj.1
        obtain ⟨h1, hh1, x2⟩ := jin_of (n := 99) rfl (by decide) hj.2.1
        obtain ⟨w1, -, hw1, x3⟩ := jin_of1 (n := 99) rfl (by decide) hj.2.2.1
        rw [x1, x2, x3] at hpa
        have ed2 : jdo2 s l a e c = jcm s n (nI w1) (nI c1) (nI h1) := by rw [q41, jd2_s, hk.1.tn, ← e1, ← e2, ← e3, x1, x2, x3]
        refine gt_X6_184 (pc := 67) X ((sW_out hsp).trans hpa) rfl dX6_doPart_67 ?_
        refine r_aload_n (pc := 70) X rfl dX6_doPart_70 ?_
        refine gt_X6_175 (pc := 71) X ((sW_out hsp).trans hpa) rfl dX6_doPart_71 ?_
        refine r_aload_n (pc := 74) X rfl dX6_doPart_74 ?_
        refine gt_X6_187 (pc := 75) X ((sW_out hsp).trans hpa) rfl dX6_doPart_75 ?_
        refine ca_X6_193 (pc := 78) X (c_X6_addShip hk.1 hn8 hk.2.2 w1 c1 h1 (by omega)) sW_o rfl rfl rfl dX6_doPart_78 (fun r78 M78 hp78 => ?_)
        obtain ⟨rfl, go2, rfl, hg2⟩ := hp78
        refine r_pop (pc := 81) X rfl dX6_doPart_81 ?_
        refine r_goto (pc := 82) X 154 (by decide) dX6_doPart_82 ?_
        refine r_iload_n (pc := 154) X rfl dX6_doPart_154 ?_
        exact K dX6_doPart_155 (by first | exact ⟨by rw [ed], go, n, by rw [ed], by rw [ed]; exact hk⟩ | exact ⟨by rw [ed]; exact q62, go2, n + 1, by rw [ed, ed2], by rw [ed, ed2]; exact hk.cm hn8 (by omega) (by omega) (by omega) hg2⟩ | exact ⟨by rw [ed]; exact q21, go, n, by rw [ed, ed2], by rw [ed, ed2]; exact hk.rock (by omega)⟩ | exact ⟨by rw [ed], go, n, by rw [ed], by rw [ed]; exact hk.dark hk4⟩ | exact ⟨by rw [ed]; exact q142, g2, n, by rw [ed, ed2], by rw [ed, ed2]; exact hk.hrs h1 hg2⟩)
  · skip
    have ea := hp.1 q8
    have hjb : jbar s l a e c = jbr ce := by rw [ea, q8]; exact jba_r
    refine r_aload_n (pc := 11) X rfl dX6_doPart_11 ?_
    refine r_aload_n (pc := 12) X rfl dX6_doPart_12 ?_
    refine gt_X6_175 (pc := 13) X ((sW_out hsp).trans hpa) rfl dX6_doPart_13 ?_
    refine ca_X6_178 (pc := 16) X (c_X6_rockError ce) sW_o rfl rfl rfl dX6_doPart_16 (fun r16 M16 hp16 => ?_)
    obtain ⟨rfl, rfl⟩ := hp16
    refine r_istore_n (pc := 19) X rfl rfl dX6_doPart_19 ?_
    refine r_iload_n (pc := 20) X rfl dX6_doPart_20 ?_
    refine r_if_ne (pc := 21) X 154 (by decide) dX6_doPart_21 (fun q21 => ?_) (fun q21 => ?_)
    · skip
      have hb : ¬ 0 ≤ jbr ce := fun q => by rcases jbr_z ce with zz | zz; exact q21 zz; exact absurd q (Int32.not_le.mpr zz)
      have ed : (jdo s l a e c) = (jbr ce, s) := (jdo_b (by rw [hjb]; exact hb)).trans (by rw [hjb])
      refine r_iload_n (pc := 154) X rfl dX6_doPart_154 ?_
      exact K dX6_doPart_155 (by first | exact ⟨by rw [ed], go, n, by rw [ed], by rw [ed]; exact hk⟩ | exact ⟨by rw [ed]; exact q62, go2, n + 1, by rw [ed, ed2], by rw [ed, ed2]; exact hk.cm hn8 (by omega) (by omega) (by omega) hg2⟩ | exact ⟨by rw [ed]; exact q21, go, n, by rw [ed, ed2], by rw [ed, ed2]; exact hk.rock (by omega)⟩ | exact ⟨by rw [ed], go, n, by rw [ed], by rw [ed]; exact hk.dark hk4⟩ | exact ⟨by rw [ed]; exact q142, g2, n, by rw [ed, ed2], by rw [ed, ed2]; exact hk.hrs h1 hg2⟩)
    · skip
      have hb : 0 ≤ jbr ce := by rw [q21]; decide
      have ed : (jdo s l a e c) = (0, jdo2 s l a e c) := jdo_n (by rw [hjb]; exact hb)
      refine r_aload_n (pc := 24) X rfl dX6_doPart_24 ?_
      refine r_aload_n (pc := 25) X rfl dX6_doPart_25 ?_
      obtain ⟨cn, hcn, ecn⟩ := jbr_in hb
      rw [ecn] at hpa
      have ed2 : jdo2 s l a e c = upd s cn (1 - s cn) := by rw [q8, jd2_r, ← ea, ecn, tn_nI (by omega)]
      refine gt_X6_175 (pc := 26) X ((sW_out hsp).trans hpa) rfl dX6_doPart_26 ?_
      refine ca_X6_181 (pc := 29) X (c_X6_turnRock cn (by omega) (hk.1.2.2.1 cn (by omega))) sW_o rfl rfl rfl dX6_doPart_29 (fun M29 hp29 => ?_)
      obtain rfl := hp29
      refine r_goto (pc := 32) X 154 (by decide) dX6_doPart_32 ?_
      refine r_iload_n (pc := 154) X rfl dX6_doPart_154 ?_
      exact K dX6_doPart_155 (by first | exact ⟨by rw [ed], go, n, by rw [ed], by rw [ed]; exact hk⟩ | exact ⟨by rw [ed]; exact q62, go2, n + 1, by rw [ed, ed2], by rw [ed, ed2]; exact hk.cm hn8 (by omega) (by omega) (by omega) hg2⟩ | exact ⟨by rw [ed]; exact q21, go, n, by rw [ed, ed2], by rw [ed, ed2]; exact hk.rock (by omega)⟩ | exact ⟨by rw [ed], go, n, by rw [ed], by rw [ed]; exact hk.dark hk4⟩ | exact ⟨by rw [ed]; exact q142, g2, n, by rw [ed, ed2], by rw [ed, ed2]; exact hk.hrs h1 hg2⟩)

