set_option maxHeartbeats 4000000 in
set_option maxRecDepth 100000 in
theorem c_X6_doPart {G : bkG} {Z : Nat → Prop} {M : bkM} {B b : Nat} {s go : Nat → Int32} {pa n : Nat} {l a e c nu ce ha wi : Int32} (hB : bB G B M) (hs : B + 12 ≤ b) (hk : cOK s n go) (hsp : pa < b ∨ b + 22 ≤ pa) (hpa : M pa = some (.inr (4, [.int l, .int nu, .int ce, .int ha, .int wi]))) (hp : pR l a e c nu ce ha wi) (hl : jlc l a) : bkCi G Z Z yX6_doPart cX6_doPart 3 (some .int) 5 0 0 [.ref b, .ref pa] (sW G B b s go M) (fun v M' => v = (jdo s l a e c).1 ∧ ∃ go' m, M' = (sW G B b (jdo s l a e c).2 go' M) ∧ cOK (jdo s l a e c).2 m go') := by
  refine bk_meti [some (.ref b), some (.ref pa), none] rfl pf_X6_doPart rfl rfl (fun E X K => ?_)
  refine r_iconst (pc := 0) (v := 0) X rfl dX6_doPart_0 ?_
  refine r_istore_n (pc := 1) X rfl rfl dX6_doPart_1 ?_
  refine r_aload_n (pc := 2) X rfl dX6_doPart_2 ?_
  refine gt_X6_155 (pc := 3) X ((sW_out hsp).trans hpa) rfl dX6_doPart_3 ?_
  refine r_bipush (pc := 6) (v := 114) X rfl dX6_doPart_6 ?_
  refine r_icmp_ne (pc := 8) X 35 (by decide) dX6_doPart_8 (fun q8 => ?_) (fun q8 => ?_)
  · skip
    refine r_aload_n (pc := 35) X rfl dX6_doPart_35 ?_
    refine gt_X6_155 (pc := 36) X ((sW_out hsp).trans hpa) rfl dX6_doPart_36 ?_
    refine r_bipush (pc := 39) (v := 115) X rfl dX6_doPart_39 ?_
    refine r_icmp_ne (pc := 41) X 85 (by decide) dX6_doPart_41 (fun q41 => ?_) (fun q41 => ?_)
    · skip
      refine r_aload_n (pc := 85) X rfl dX6_doPart_85 ?_
      refine gt_X6_155 (pc := 86) X ((sW_out hsp).trans hpa) rfl dX6_doPart_86 ?_
      refine r_bipush (pc := 89) (v := 100) X rfl dX6_doPart_89 ?_
      refine r_icmp_ne (pc := 91) X 113 (by decide) dX6_doPart_91 (fun q91 => ?_) (fun q91 => ?_)
      · skip
        refine r_aload_n (pc := 113) X rfl dX6_doPart_113 ?_
        refine gt_X6_155 (pc := 114) X ((sW_out hsp).trans hpa) rfl dX6_doPart_114 ?_
        refine r_bipush (pc := 117) (v := 104) X rfl dX6_doPart_117 ?_
        refine r_icmp_ne (pc := 119) X 144 (by decide) dX6_doPart_119 (fun q119 => ?_) (fun q119 => ?_)
        · skip
          exfalso
          rcases hl with z | z | z | z
          · exact q8 z
          · exact q41 z
          · exact q119 z
          · exact q91 z.1
        · skip
          have ea := hp.2.2.2 q119
          have hjb : jbar s l a e c = jbp s nu := by rw [q119, jba_h, ea]
          refine r_aload_n (pc := 122) X rfl dX6_doPart_122 ?_
          refine r_aload_n (pc := 123) X rfl dX6_doPart_123 ?_
          refine gt_X6_168 (pc := 124) X ((sW_out hsp).trans hpa) rfl dX6_doPart_124 ?_
          refine ca_X6_186 (pc := 127) X (c_X6_passError nu) sW_o rfl rfl rfl dX6_doPart_127 (fun r127 M127 hp127 => ?_)
          obtain ⟨rfl, rfl⟩ := hp127
          refine r_istore_n (pc := 130) X rfl rfl dX6_doPart_130 ?_
          refine r_iload_n (pc := 131) X rfl dX6_doPart_131 ?_
          refine r_if_ne (pc := 132) X 144 (by decide) dX6_doPart_132 (fun q132 => ?_) (fun q132 => ?_)
          · skip
            have hb : ¬ 0 ≤ jbp s nu := fun q => by rcases jbp_z s nu with zz | zz; exact q132 zz; exact absurd q (Int32.not_le.mpr zz)
            have ed : (jdo s l a e c) = (jbp s nu, s) := (jdo_b (by rw [hjb]; exact hb)).trans (by rw [hjb])
            refine r_iload_n (pc := 144) X rfl dX6_doPart_144 ?_
            exact K dX6_doPart_145 (by first | exact ⟨by rw [ed], go, n, by rw [ed], by rw [ed]; exact hk⟩ | exact ⟨by rw [ed]; exact q62, go2, n + 1, by rw [ed, ed2], by rw [ed, ed2]; exact hk.cm hn8 (by omega) (by omega) (by omega) hg2⟩ | exact ⟨by rw [ed]; exact q21, go, n, by rw [ed, ed2], by rw [ed, ed2]; exact hk.rock (by omega)⟩ | exact ⟨by rw [ed], go, n, by rw [ed], by rw [ed]; exact hk.dark hk4⟩ | exact ⟨by rw [ed]; exact q132, go, n, by rw [ed, ed2], by rw [ed, ed2]; exact hk.hrs h1⟩)
          · skip
            have hb : 0 ≤ jbp s nu := by rw [q132]; decide
            have ed : (jdo s l a e c) = (0, jdo2 s l a e c) := jdo_n (by rw [hjb]; exact hb)
            refine r_aload_n (pc := 135) X rfl dX6_doPart_135 ?_
            refine r_aload_n (pc := 136) X rfl dX6_doPart_136 ?_
            obtain ⟨h1, hh0, hh1, x1⟩ := jbp_in hb
            rw [x1] at hpa
            have ed2 : jdo2 s l a e c = jhrs s n h1 := by rw [q119, jd2_h, hk.1.tn, ← ea, x1, tn_nI (by omega)]
            refine gt_X6_168 (pc := 137) X ((sW_out hsp).trans hpa) rfl dX6_doPart_137 ?_
            refine ca_X6_189 (pc := 140) X (c_X6_passHours hB hs hk.2.1 hk.1 hk.2.2 h1 (by omega)) sW_o rfl rfl rfl dX6_doPart_140 (fun r140 M140 hp140 => ?_)
            obtain ⟨rfl, rfl⟩ := hp140
            refine r_pop (pc := 143) X rfl dX6_doPart_143 ?_
            refine r_iload_n (pc := 144) X rfl dX6_doPart_144 ?_
            exact K dX6_doPart_145 (by first | exact ⟨by rw [ed], go, n, by rw [ed], by rw [ed]; exact hk⟩ | exact ⟨by rw [ed]; exact q62, go2, n + 1, by rw [ed, ed2], by rw [ed, ed2]; exact hk.cm hn8 (by omega) (by omega) (by omega) hg2⟩ | exact ⟨by rw [ed]; exact q21, go, n, by rw [ed, ed2], by rw [ed, ed2]; exact hk.rock (by omega)⟩ | exact ⟨by rw [ed], go, n, by rw [ed], by rw [ed]; exact hk.dark hk4⟩ | exact ⟨by rw [ed]; exact q132, go, n, by rw [ed, ed2], by rw [ed, ed2]; exact hk.hrs h1⟩)
      · skip
        obtain ⟨e1, e2⟩ := hp.2.2.1 q91
        obtain ⟨k, hk4, ek⟩ : ∃ k, k < 4 ∧ a = nI k := by
          rcases hl with z | z | z | z
          · exact absurd z q8
          · exact absurd z q41
          · rw [q91] at z; exact absurd z (by decide)
          · exact z.2
        rw [e1, ek, e2] at hpa
        have ed : jdo s l a e c = (0, upd s (100 + 5 * k + 3) (s (100 + 5 * k + 3) ^^^ ((1 : Int32) <<< (e &&& 31)))) := by rw [q91, jdo_n (by rw [jba_d]; decide), jd2_d, ek, tn_nI (by omega)]
        refine r_aload_n (pc := 94) X rfl dX6_doPart_94 ?_
        refine gt_X6_17 (pc := 95) X sW_o rfl dX6_doPart_95 ?_
        refine r_aload_n (pc := 98) X rfl dX6_doPart_98 ?_
        refine gt_X6_168 (pc := 99) X ((sW_out hsp).trans hpa) rfl dX6_doPart_99 ?_
        refine r_aald (pc := 102) X sW_l rfl rfl (k) rfl (by omega) (by decide) rfl dX6_doPart_102 ?_
        refine r_aload_n (pc := 103) X rfl dX6_doPart_103 ?_
        refine gt_X6_180 (pc := 104) X ((sW_out hsp).trans hpa) rfl dX6_doPart_104 ?_
        refine ca_X6_183 (pc := 107) X (c_X3_turnDark (sW_lt hk4) e) (sW_lt hk4) rfl rfl rfl dX6_doPart_107 (fun M107 hp107 => ?_)
        obtain rfl := hp107
        refine bkV.eq (sS_lt hk4 (fun m _ hm => upd_n (fun q => hm (by rw [q]; exact jow_l hk4 (by omega))))) ?_
        refine r_goto (pc := 110) X 144 (by decide) dX6_doPart_110 ?_
        refine r_iload_n (pc := 144) X rfl dX6_doPart_144 ?_
        exact K dX6_doPart_145 (by first | exact ⟨by rw [ed], go, n, by rw [ed], by rw [ed]; exact hk⟩ | exact ⟨by rw [ed]; exact q62, go2, n + 1, by rw [ed, ed2], by rw [ed, ed2]; exact hk.cm hn8 (by omega) (by omega) (by omega) hg2⟩ | exact ⟨by rw [ed]; exact q21, go, n, by rw [ed, ed2], by rw [ed, ed2]; exact hk.rock (by omega)⟩ | exact ⟨by rw [ed], go, n, by rw [ed], by rw [ed]; exact hk.dark hk4⟩ | exact ⟨by rw [ed]; exact q132, go, n, by rw [ed, ed2], by rw [ed, ed2]; exact hk.hrs h1⟩)
    · skip
      obtain ⟨e1, e2, e3⟩ := hp.2.1 q41
      have hjb : jbar s l a e c = jbs s n nu ce ha := by rw [q41, jba_s, hk.1.tn, e1, e2, e3]
      refine r_aload_n (pc := 44) X rfl dX6_doPart_44 ?_
      refine r_aload_n (pc := 45) X rfl dX6_doPart_45 ?_
      refine gt_X6_168 (pc := 46) X ((sW_out hsp).trans hpa) rfl dX6_doPart_46 ?_
      refine r_aload_n (pc := 49) X rfl dX6_doPart_49 ?_
      refine gt_X6_161 (pc := 50) X ((sW_out hsp).trans hpa) rfl dX6_doPart_50 ?_
      refine r_aload_n (pc := 53) X rfl dX6_doPart_53 ?_
      refine gt_X6_171 (pc := 54) X ((sW_out hsp).trans hpa) rfl dX6_doPart_54 ?_
      refine ca_X6_174 (pc := 57) X (c_X6_shipError hk.1 nu ce ha) sW_o rfl rfl rfl dX6_doPart_57 (fun r57 M57 hp57 => ?_)
      obtain ⟨rfl, rfl⟩ := hp57
      refine r_istore_n (pc := 60) X rfl rfl dX6_doPart_60 ?_
      refine r_iload_n (pc := 61) X rfl dX6_doPart_61 ?_
      refine r_if_ne (pc := 62) X 144 (by decide) dX6_doPart_62 (fun q62 => ?_) (fun q62 => ?_)
      · skip
        have hb : ¬ 0 ≤ jbs s n nu ce ha := fun q => by rcases jbs_z s n nu ce ha with zz | zz; exact q62 zz; exact absurd q (Int32.not_le.mpr zz)
        have ed : (jdo s l a e c) = (jbs s n nu ce ha, s) := (jdo_b (by rw [hjb]; exact hb)).trans (by rw [hjb])
        refine r_iload_n (pc := 144) X rfl dX6_doPart_144 ?_
        exact K dX6_doPart_145 (by first | exact ⟨by rw [ed], go, n, by rw [ed], by rw [ed]; exact hk⟩ | exact ⟨by rw [ed]; exact q62, go2, n + 1, by rw [ed, ed2], by rw [ed, ed2]; exact hk.cm hn8 (by omega) (by omega) (by omega) hg2⟩ | exact ⟨by rw [ed]; exact q21, go, n, by rw [ed, ed2], by rw [ed, ed2]; exact hk.rock (by omega)⟩ | exact ⟨by rw [ed], go, n, by rw [ed], by rw [ed]; exact hk.dark hk4⟩ | exact ⟨by rw [ed]; exact q132, go, n, by rw [ed, ed2], by rw [ed, ed2]; exact hk.hrs h1⟩)
      · skip
        have hb : 0 ≤ jbs s n nu ce ha := by rw [q62]; decide
        have ed : (jdo s l a e c) = (0, jdo2 s l a e c) := jdo_n (by rw [hjb]; exact hb)
        refine r_aload_n (pc := 65) X rfl dX6_doPart_65 ?_
        refine r_aload_n (pc := 66) X rfl dX6_doPart_66 ?_
        have hj := jbs_in hb
        have hn8 := (jbs_wf hk.1 hb).1
        obtain ⟨c1, hc1, x1⟩ := jin_of (n := 99) rfl (by decide) hj.1
        obtain ⟨h1, hh1, x2⟩ := jin_of (n := 99) rfl (by decide) hj.2.1
        obtain ⟨w1, -, hw1, x3⟩ := jin_of1 (n := 99) rfl (by decide) hj.2.2.1
        rw [x1, x2, x3] at hpa
        have ed2 : jdo2 s l a e c = jcm s n (nI w1) (nI c1) (nI h1) := by rw [q41, jd2_s, hk.1.tn, ← e1, ← e2, ← e3, x1, x2, x3]
        refine gt_X6_168 (pc := 67) X ((sW_out hsp).trans hpa) rfl dX6_doPart_67 ?_
        refine r_aload_n (pc := 70) X rfl dX6_doPart_70 ?_
        refine gt_X6_161 (pc := 71) X ((sW_out hsp).trans hpa) rfl dX6_doPart_71 ?_
        refine r_aload_n (pc := 74) X rfl dX6_doPart_74 ?_
        refine gt_X6_171 (pc := 75) X ((sW_out hsp).trans hpa) rfl dX6_doPart_75 ?_
        refine ca_X6_177 (pc := 78) X (c_X6_addShip hk.1 hn8 hk.2.2 w1 c1 h1 (by omega)) sW_o rfl rfl rfl dX6_doPart_78 (fun r78 M78 hp78 => ?_)
        obtain ⟨rfl, go2, rfl, hg2⟩ := hp78
        refine r_pop (pc := 81) X rfl dX6_doPart_81 ?_
        refine r_goto (pc := 82) X 144 (by decide) dX6_doPart_82 ?_
        refine r_iload_n (pc := 144) X rfl dX6_doPart_144 ?_
        exact K dX6_doPart_145 (by first | exact ⟨by rw [ed], go, n, by rw [ed], by rw [ed]; exact hk⟩ | exact ⟨by rw [ed]; exact q62, go2, n + 1, by rw [ed, ed2], by rw [ed, ed2]; exact hk.cm hn8 (by omega) (by omega) (by omega) hg2⟩ | exact ⟨by rw [ed]; exact q21, go, n, by rw [ed, ed2], by rw [ed, ed2]; exact hk.rock (by omega)⟩ | exact ⟨by rw [ed], go, n, by rw [ed], by rw [ed]; exact hk.dark hk4⟩ | exact ⟨by rw [ed]; exact q132, go, n, by rw [ed, ed2], by rw [ed, ed2]; exact hk.hrs h1⟩)
  · skip
    have ea := hp.1 q8
    have hjb : jbar s l a e c = jbr ce := by rw [ea, q8]; exact jba_r
    refine r_aload_n (pc := 11) X rfl dX6_doPart_11 ?_
    refine r_aload_n (pc := 12) X rfl dX6_doPart_12 ?_
    refine gt_X6_161 (pc := 13) X ((sW_out hsp).trans hpa) rfl dX6_doPart_13 ?_
    refine ca_X6_162 (pc := 16) X (c_X6_rockError ce) sW_o rfl rfl rfl dX6_doPart_16 (fun r16 M16 hp16 => ?_)
    obtain ⟨rfl, rfl⟩ := hp16
    refine r_istore_n (pc := 19) X rfl rfl dX6_doPart_19 ?_
    refine r_iload_n (pc := 20) X rfl dX6_doPart_20 ?_
    refine r_if_ne (pc := 21) X 144 (by decide) dX6_doPart_21 (fun q21 => ?_) (fun q21 => ?_)
    · skip
      have hb : ¬ 0 ≤ jbr ce := fun q => by rcases jbr_z ce with zz | zz; exact q21 zz; exact absurd q (Int32.not_le.mpr zz)
      have ed : (jdo s l a e c) = (jbr ce, s) := (jdo_b (by rw [hjb]; exact hb)).trans (by rw [hjb])
      refine r_iload_n (pc := 144) X rfl dX6_doPart_144 ?_
      exact K dX6_doPart_145 (by first | exact ⟨by rw [ed], go, n, by rw [ed], by rw [ed]; exact hk⟩ | exact ⟨by rw [ed]; exact q62, go2, n + 1, by rw [ed, ed2], by rw [ed, ed2]; exact hk.cm hn8 (by omega) (by omega) (by omega) hg2⟩ | exact ⟨by rw [ed]; exact q21, go, n, by rw [ed, ed2], by rw [ed, ed2]; exact hk.rock (by omega)⟩ | exact ⟨by rw [ed], go, n, by rw [ed], by rw [ed]; exact hk.dark hk4⟩ | exact ⟨by rw [ed]; exact q132, go, n, by rw [ed, ed2], by rw [ed, ed2]; exact hk.hrs h1⟩)
    · skip
      have hb : 0 ≤ jbr ce := by rw [q21]; decide
      have ed : (jdo s l a e c) = (0, jdo2 s l a e c) := jdo_n (by rw [hjb]; exact hb)
      refine r_aload_n (pc := 24) X rfl dX6_doPart_24 ?_
      refine r_aload_n (pc := 25) X rfl dX6_doPart_25 ?_
      obtain ⟨cn, hcn, ecn⟩ := jbr_in hb
      rw [ecn] at hpa
      have ed2 : jdo2 s l a e c = upd s cn (1 - s cn) := by rw [q8, jd2_r, ← ea, ecn, tn_nI (by omega)]
      refine gt_X6_161 (pc := 26) X ((sW_out hsp).trans hpa) rfl dX6_doPart_26 ?_
      refine ca_X6_165 (pc := 29) X (c_X6_turnRock cn (by omega) (hk.1.2.2.1 cn (by omega))) sW_o rfl rfl rfl dX6_doPart_29 (fun M29 hp29 => ?_)
      obtain rfl := hp29
      refine r_goto (pc := 32) X 144 (by decide) dX6_doPart_32 ?_
      refine r_iload_n (pc := 144) X rfl dX6_doPart_144 ?_
      exact K dX6_doPart_145 (by first | exact ⟨by rw [ed], go, n, by rw [ed], by rw [ed]; exact hk⟩ | exact ⟨by rw [ed]; exact q62, go2, n + 1, by rw [ed, ed2], by rw [ed, ed2]; exact hk.cm hn8 (by omega) (by omega) (by omega) hg2⟩ | exact ⟨by rw [ed]; exact q21, go, n, by rw [ed, ed2], by rw [ed, ed2]; exact hk.rock (by omega)⟩ | exact ⟨by rw [ed], go, n, by rw [ed], by rw [ed]; exact hk.dark hk4⟩ | exact ⟨by rw [ed]; exact q132, go, n, by rw [ed, ed2], by rw [ed, ed2]; exact hk.hrs h1⟩)

