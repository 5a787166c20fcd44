theorem jo_keep {s oo : Nat → Int32} {n j : Nat} (e3 : ∀ k, k < j → jsea s k = true → oo (jrk s n k) = nI k) (z : jsea s j = false) : ∀ k, k < j + 1 → jsea s k = true → oo (jrk s n k) = nI k := by
  intro k hk sk
  by_cases e : k = j
  · subst e; rw [z] at sk; cases sk
  · exact e3 k (by omega) sk
theorem jo_add {s oo : Nat → Int32} {n j : Nat} (hw : jwo s n) (hj : j < n) (e3 : ∀ k, k < j → jsea s k = true → oo (jrk s n k) = nI k) (z : jsea s j = true) : ∀ k, k < j + 1 → jsea s k = true → upd oo (jrk s n j) (nI j) (jrk s n k) = nI k := by
  intro k hk sk
  by_cases e : k = j
  · subst e; rw [upd_s]
  · rw [upd_n (fun q => e (jrk_inj hw (by omega) hj sk z q))]
    exact e3 k (by omega) sk
theorem jkp1_le {s : Nat → Int32} {l : Nat} {pays : Int32} (hp : jkP s l = pays) (h : jkB s l pays (100 + 5 * l + 4) ≤ 0) : upd (jkB s l pays) (100 + 5 * l + 4) (jkB s l pays (100 + 5 * l + 4) - 0) = jkp1 s l := jkp1_of pays 0 hp (if_pos h)
theorem jkp1_gt {s : Nat → Int32} {l : Nat} {pays : Int32} (hp : jkP s l = pays) (h : ¬ jkB s l pays (100 + 5 * l + 4) ≤ 0) : upd (jkB s l pays) (100 + 5 * l + 4) (jkB s l pays (100 + 5 * l + 4) - 1) = jkp1 s l := jkp1_of pays 1 hp (if_neg h)
set_option maxHeartbeats 4000000 in
set_option maxRecDepth 100000 in
theorem c_X9_hour {G : bkG} {Z : Nat → Prop} {M : bkM} {r : Nat} {s a p q t o f : Nat → Int32} {n : Nat} (hw : jwf s n) : bkCv G Z Z yX9_hour cX9_hour 5 6 0 0 [.ref r] (mW G M r s a p q t o f) (fun M' => ∃ o', M' = (mW G M r (jhour s n) a p q t o' f)) := by
  refine bk_metv [some (.ref r), none, none, none, none] rfl pf_X9_hour rfl rfl (fun E X hn K => ?_)
  have hn8 := hw.1
  refine r_iconst (pc := 0) (v := 0) X rfl dX9_hour_0 ?_
  refine r_istore_n (pc := 1) X rfl rfl dX9_hour_1 ?_
  refine r_iconst (pc := 2) (v := 0) X rfl dX9_hour_2 ?_
  refine r_istore_n (pc := 3) X rfl rfl dX9_hour_3 ?_
  have lp4 : ∀ (d j : Nat) (x : Int32) (y : Int32) (oo : Nat → Int32), j ≤ n → n < j + d → (x = nI (jct (jsea s) j)) → (y = nI j) → (∀ k, k < j → jsea s k = true → oo (jrk s n k) = nI k) → bkV E G Z 0 0 (mW G M r s a p q t oo f) 4 [some (.ref r), some (.int x), some (.int y), none, none] [] := by
    intro d
    induction d with
    | zero => intro j x y oo; intros; exfalso; omega
    | succ d ih =>
      intro j x y oo hj hd e1 e2 e3
      subst e1
      subst e2
      refine r_iload_n (pc := 4) X rfl dX9_hour_4 ?_
      refine r_aload_n (pc := 5) X rfl dX9_hour_5 ?_
      refine gt_X9_7 (pc := 6) X mW_0 rfl dX9_hour_6 ?_
      refine r_sipush (pc := 9) (v := 180) X rfl dX9_hour_9 ?_
      refine r_iald (pc := 12) X mW_1 (180) rfl (by omega) (by decide) dX9_hour_12 ?_
      refine r_icmpN_ge (pc := 13) X 49 (j) (n) rfl hw.2.1 (by omega) (by omega) (by decide) dX9_hour_13 (fun q13 => ?_) (fun q13 => ?_)
      · skip
        have hjn : n = j := by omega
        subst hjn
        have hmn := jct_le (jsea s) n
        refine r_iconst (pc := 49) (v := 0) X rfl dX9_hour_49 ?_
        refine r_istore_n (pc := 50) X rfl rfl dX9_hour_50 ?_
        have lp51 : ∀ (d j : Nat) (y : Int32), j ≤ jct (jsea s) n → jct (jsea s) n < j + d → (y = nI j) → bkV E G Z 0 0 (mW G M r (((jord s n).take j).foldl (fun s k => jgoes s n k) s) a p q t oo f) 51 [some (.ref r), some (.int (nI (jct (jsea s) n))), some (.int y), none, none] [] := by
          intro d
          induction d with
          | zero => intro j y; intros; exfalso; omega
          | succ d ih =>
            intro j y hj hd e1
            subst e1
            refine r_iload_n (pc := 51) X rfl dX9_hour_51 ?_
            refine r_iload_n (pc := 52) X rfl dX9_hour_52 ?_
            refine r_icmpN_ge (pc := 53) X 72 (j) (jct (jsea s) n) rfl rfl (by omega) (by omega) (by decide) dX9_hour_53 (fun q53 => ?_) (fun q53 => ?_)
            · skip
              have eall : (jord s n).take j = jord s n := List.take_of_length_le (by rw [jord_len]; omega)
              rw [eall]
              show bkV E G Z 0 0 (mW G M r (jgoA s n) a p q t oo f) 72 _ _
              refine r_iconst (pc := 72) (v := 0) X rfl dX9_hour_72 ?_
              refine r_istore_n (pc := 73) X rfl rfl dX9_hour_73 ?_
              have lp74 : ∀ (d j : Nat) (y : Int32) (S : Nat → Int32), j ≤ 4 → 4 < j + d → (y = nI j) → (S = (jkp (jgoA s n) j)) → bkV E G Z 0 0 (mW G M r S a p q t oo f) 74 [some (.ref r), some (.int (nI (jct (jsea s) n))), some (.int y), none, none] [] := by
                intro d
                induction d with
                | zero => intro j y S; intros; exfalso; omega
                | succ d ih =>
                  intro j y S hj hd e1 e2
                  subst e1
                  refine r_iload_n (pc := 74) X rfl dX9_hour_74 ?_
                  refine r_iconst (pc := 75) (v := 4) X rfl dX9_hour_75 ?_
                  refine r_icmpN_ge (pc := 76) X 210 (j) (4) rfl rfl (by omega) (by omega) (by decide) dX9_hour_76 (fun q76 => ?_) (fun q76 => ?_)
                  · skip
                    refine r_aload_n (pc := 210) X rfl dX9_hour_210 ?_
                    refine gt_X9_7 (pc := 211) X mW_0 rfl dX9_hour_211 ?_
                    refine r_sipush (pc := 214) (v := 181) X rfl dX9_hour_214 ?_
                    refine r_dup2 (pc := 217) X rfl rfl dX9_hour_217 ?_
                    refine r_iald (pc := 218) X mW_1 (181) rfl (by omega) (by decide) dX9_hour_218 ?_
                    refine r_iconst (pc := 219) (v := 1) X rfl dX9_hour_219 ?_
                    refine r_iadd (pc := 220) X dX9_hour_220 ?_
                    refine r_iast (pc := 221) X mW_1 (181) rfl (by omega) (by decide) dX9_hour_221 ?_
                    refine bkV.eq mS_1 ?_
                    exact K dX9_hour_222 ⟨oo, by rw [e2, show j = 4 by omega]; rfl⟩
                  · skip
                    refine r_aload_n (pc := 79) X rfl dX9_hour_79 ?_
                    refine gt_X9_7 (pc := 80) X mW_0 rfl dX9_hour_80 ?_
                    refine r_iload_n (pc := 83) X rfl dX9_hour_83 ?_
                    refine r_iconst (pc := 84) (v := 0) X rfl dX9_hour_84 ?_
                    refine ca_X9_33 (pc := 85) X (c_X9_ofK j 0) rfl rfl rfl dX9_hour_85 (fun r85 M85 hp85 => ?_)
                    obtain ⟨rfl, rfl⟩ := hp85
                    refine r_iald (pc := 88) X mW_1 (120 + 5 * j + 0) rfl (by omega) (by decide) dX9_hour_88 ?_
                    refine r_aload_n (pc := 89) X rfl dX9_hour_89 ?_
                    refine gt_X9_7 (pc := 90) X mW_0 rfl dX9_hour_90 ?_
                    refine r_sipush (pc := 93) (v := 182) X rfl dX9_hour_93 ?_
                    refine r_iald (pc := 96) X mW_1 (182) rfl (by omega) (by decide) dX9_hour_96 ?_
                    refine r_iadd (pc := 97) X dX9_hour_97 ?_
                    refine r_istore_n (pc := 98) X rfl rfl dX9_hour_98 ?_
                    refine r_iload_n (pc := 99) X rfl dX9_hour_99 ?_
                    refine r_aload_n (pc := 100) X rfl dX9_hour_100 ?_
                    refine gt_X9_7 (pc := 101) X mW_0 rfl dX9_hour_101 ?_
                    refine r_iload_n (pc := 104) X rfl dX9_hour_104 ?_
                    refine r_iconst (pc := 105) (v := 1) X rfl dX9_hour_105 ?_
                    refine ca_X9_33 (pc := 106) X (c_X9_ofK j 1) rfl rfl rfl dX9_hour_106 (fun r106 M106 hp106 => ?_)
                    obtain ⟨rfl, rfl⟩ := hp106
                    refine r_iald (pc := 109) X mW_1 (120 + 5 * j + 1) rfl (by omega) (by decide) dX9_hour_109 ?_
                    refine r_icmp_ge (pc := 110) X 117 (by decide) dX9_hour_110 (fun q110 => ?_) (fun q110 => ?_)
                    · skip
                      have hp : jkP S j = S (120 + 5 * j + 1) := if_pos q110
                      refine r_aload_n (pc := 117) X rfl dX9_hour_117 ?_
                      refine gt_X9_7 (pc := 118) X mW_0 rfl dX9_hour_118 ?_
                      refine r_iload_n (pc := 121) X rfl dX9_hour_121 ?_
                      refine r_iconst (pc := 122) (v := 1) X rfl dX9_hour_122 ?_
                      refine ca_X9_33 (pc := 123) X (c_X9_ofK j 1) rfl rfl rfl dX9_hour_123 (fun r123 M123 hp123 => ?_)
                      obtain ⟨rfl, rfl⟩ := hp123
                      refine r_iald (pc := 126) X mW_1 (120 + 5 * j + 1) rfl (by omega) (by decide) dX9_hour_126 ?_
                      refine r_istore (pc := 127) X rfl rfl dX9_hour_127 ?_
                      refine r_aload_n (pc := 129) X rfl dX9_hour_129 ?_
                      refine gt_X9_7 (pc := 130) X mW_0 rfl dX9_hour_130 ?_
                      refine r_iload_n (pc := 133) X rfl dX9_hour_133 ?_
                      refine r_iconst (pc := 134) (v := 0) X rfl dX9_hour_134 ?_
                      refine ca_X9_33 (pc := 135) X (c_X9_ofK j 0) rfl rfl rfl dX9_hour_135 (fun r135 M135 hp135 => ?_)
                      obtain ⟨rfl, rfl⟩ := hp135
                      refine r_iload_n (pc := 138) X rfl dX9_hour_138 ?_
                      refine r_iload (pc := 139) X rfl dX9_hour_139 ?_
                      refine r_isub (pc := 141) X dX9_hour_141 ?_
                      refine r_iast (pc := 142) X mW_1 (120 + 5 * j + 0) rfl (by omega) (by decide) dX9_hour_142 ?_
                      refine bkV.eq mS_1 ?_
                      refine r_aload_n (pc := 143) X rfl dX9_hour_143 ?_
                      refine gt_X9_7 (pc := 144) X mW_0 rfl dX9_hour_144 ?_
                      refine r_iload_n (pc := 147) X rfl dX9_hour_147 ?_
                      refine r_iconst (pc := 148) (v := 1) X rfl dX9_hour_148 ?_
                      refine ca_X9_33 (pc := 149) X (c_X9_ofK j 1) rfl rfl rfl dX9_hour_149 (fun r149 M149 hp149 => ?_)
                      obtain ⟨rfl, rfl⟩ := hp149
                      refine r_dup2 (pc := 152) X rfl rfl dX9_hour_152 ?_
                      refine r_iald (pc := 153) X mW_1 (120 + 5 * j + 1) rfl (by omega) (by decide) dX9_hour_153 ?_
                      refine r_iload (pc := 154) X rfl dX9_hour_154 ?_
                      refine r_isub (pc := 156) X dX9_hour_156 ?_
                      refine r_iast (pc := 157) X mW_1 (120 + 5 * j + 1) rfl (by omega) (by decide) dX9_hour_157 ?_
                      refine bkV.eq mS_1 ?_
                      refine r_aload_n (pc := 158) X rfl dX9_hour_158 ?_
                      refine gt_X9_7 (pc := 159) X mW_0 rfl dX9_hour_159 ?_
                      refine r_iload_n (pc := 162) X rfl dX9_hour_162 ?_
                      refine r_iconst (pc := 163) (v := 4) X rfl dX9_hour_163 ?_
                      refine ca_X9_33 (pc := 164) X (c_X9_ofK j 4) rfl rfl rfl dX9_hour_164 (fun r164 M164 hp164 => ?_)
                      obtain ⟨rfl, rfl⟩ := hp164
                      refine r_dup2 (pc := 167) X rfl rfl dX9_hour_167 ?_
                      refine r_iald (pc := 168) X mW_1 (120 + 5 * j + 4) rfl (by omega) (by decide) dX9_hour_168 ?_
                      refine r_iload (pc := 169) X rfl dX9_hour_169 ?_
                      refine r_iadd (pc := 171) X dX9_hour_171 ?_
                      refine r_iast (pc := 172) X mW_1 (120 + 5 * j + 4) rfl (by omega) (by decide) dX9_hour_172 ?_
                      refine bkV.eq mS_1 ?_
                      refine r_aload_n (pc := 173) X rfl dX9_hour_173 ?_
                      refine gt_X9_7 (pc := 174) X mW_0 rfl dX9_hour_174 ?_
                      refine r_iload_n (pc := 177) X rfl dX9_hour_177 ?_
                      refine r_iconst (pc := 178) (v := 4) X rfl dX9_hour_178 ?_
                      refine ca_X9_29 (pc := 179) X (c_X9_ofL j 4) rfl rfl rfl dX9_hour_179 (fun r179 M179 hp179 => ?_)
                      obtain ⟨rfl, rfl⟩ := hp179
                      refine r_dup2 (pc := 182) X rfl rfl dX9_hour_182 ?_
                      refine r_iald (pc := 183) X mW_1 (100 + 5 * j + 4) rfl (by omega) (by decide) dX9_hour_183 ?_
                      refine r_aload_n (pc := 184) X rfl dX9_hour_184 ?_
                      refine gt_X9_7 (pc := 185) X mW_0 rfl dX9_hour_185 ?_
                      refine r_iload_n (pc := 188) X rfl dX9_hour_188 ?_
                      refine r_iconst (pc := 189) (v := 4) X rfl dX9_hour_189 ?_
                      refine ca_X9_29 (pc := 190) X (c_X9_ofL j 4) rfl rfl rfl dX9_hour_190 (fun r190 M190 hp190 => ?_)
                      obtain ⟨rfl, rfl⟩ := hp190
                      refine r_iald (pc := 193) X mW_1 (100 + 5 * j + 4) rfl (by omega) (by decide) dX9_hour_193 ?_
                      refine r_if_le (pc := 194) X 201 (by decide) dX9_hour_194 (fun q194 => ?_) (fun q194 => ?_)
                      · skip
                        refine r_iconst (pc := 201) (v := 0) X rfl dX9_hour_201 ?_
                        refine r_isub (pc := 202) X dX9_hour_202 ?_
                        refine r_iast (pc := 203) X mW_1 (100 + 5 * j + 4) rfl (by omega) (by decide) dX9_hour_203 ?_
                        refine bkV.eq mS_1 ?_
                        refine r_iinc (pc := 204) X rfl rfl rfl dX9_hour_204 ?_
                        refine r_goto (pc := 207) X 74 (by decide) dX9_hour_207 ?_
                        first | refine bkV.eq (congrArg (fun z => mW G M r z a p q t oo f) (jkp1_le hp q194)) ?_ | refine bkV.eq (congrArg (fun z => mW G M r z a p q t oo f) (jkp1_gt hp q194)) ?_
                        exact bkV.drop 3 (bkV.drop 4 (ih (j + 1) _ _ (by omega) (by omega) (nI_1 j) (by rw [e2]; rfl)))
                      · skip
                        refine r_iconst (pc := 197) (v := 1) X rfl dX9_hour_197 ?_
                        refine r_goto (pc := 198) X 202 (by decide) dX9_hour_198 ?_
                        refine r_isub (pc := 202) X dX9_hour_202 ?_
                        refine r_iast (pc := 203) X mW_1 (100 + 5 * j + 4) rfl (by omega) (by decide) dX9_hour_203 ?_
                        refine bkV.eq mS_1 ?_
                        refine r_iinc (pc := 204) X rfl rfl rfl dX9_hour_204 ?_
                        refine r_goto (pc := 207) X 74 (by decide) dX9_hour_207 ?_
                        first | refine bkV.eq (congrArg (fun z => mW G M r z a p q t oo f) (jkp1_le hp q194)) ?_ | refine bkV.eq (congrArg (fun z => mW G M r z a p q t oo f) (jkp1_gt hp q194)) ?_
                        exact bkV.drop 3 (bkV.drop 4 (ih (j + 1) _ _ (by omega) (by omega) (nI_1 j) (by rw [e2]; rfl)))
                    · skip
                      have hp : jkP S j = S (120 + 5 * j + 0) + S 182 := if_neg q110
                      refine r_iload_n (pc := 113) X rfl dX9_hour_113 ?_
                      refine r_goto (pc := 114) X 127 (by decide) dX9_hour_114 ?_
                      refine r_istore (pc := 127) X rfl rfl dX9_hour_127 ?_
                      refine r_aload_n (pc := 129) X rfl dX9_hour_129 ?_
                      refine gt_X9_7 (pc := 130) X mW_0 rfl dX9_hour_130 ?_
                      refine r_iload_n (pc := 133) X rfl dX9_hour_133 ?_
                      refine r_iconst (pc := 134) (v := 0) X rfl dX9_hour_134 ?_
                      refine ca_X9_33 (pc := 135) X (c_X9_ofK j 0) rfl rfl rfl dX9_hour_135 (fun r135 M135 hp135 => ?_)
                      obtain ⟨rfl, rfl⟩ := hp135
                      refine r_iload_n (pc := 138) X rfl dX9_hour_138 ?_
                      refine r_iload (pc := 139) X rfl dX9_hour_139 ?_
                      refine r_isub (pc := 141) X dX9_hour_141 ?_
                      refine r_iast (pc := 142) X mW_1 (120 + 5 * j + 0) rfl (by omega) (by decide) dX9_hour_142 ?_
                      refine bkV.eq mS_1 ?_
                      refine r_aload_n (pc := 143) X rfl dX9_hour_143 ?_
                      refine gt_X9_7 (pc := 144) X mW_0 rfl dX9_hour_144 ?_
                      refine r_iload_n (pc := 147) X rfl dX9_hour_147 ?_
                      refine r_iconst (pc := 148) (v := 1) X rfl dX9_hour_148 ?_
                      refine ca_X9_33 (pc := 149) X (c_X9_ofK j 1) rfl rfl rfl dX9_hour_149 (fun r149 M149 hp149 => ?_)
                      obtain ⟨rfl, rfl⟩ := hp149
                      refine r_dup2 (pc := 152) X rfl rfl dX9_hour_152 ?_
                      refine r_iald (pc := 153) X mW_1 (120 + 5 * j + 1) rfl (by omega) (by decide) dX9_hour_153 ?_
                      refine r_iload (pc := 154) X rfl dX9_hour_154 ?_
                      refine r_isub (pc := 156) X dX9_hour_156 ?_
                      refine r_iast (pc := 157) X mW_1 (120 + 5 * j + 1) rfl (by omega) (by decide) dX9_hour_157 ?_
                      refine bkV.eq mS_1 ?_
                      refine r_aload_n (pc := 158) X rfl dX9_hour_158 ?_
                      refine gt_X9_7 (pc := 159) X mW_0 rfl dX9_hour_159 ?_
                      refine r_iload_n (pc := 162) X rfl dX9_hour_162 ?_
                      refine r_iconst (pc := 163) (v := 4) X rfl dX9_hour_163 ?_
                      refine ca_X9_33 (pc := 164) X (c_X9_ofK j 4) rfl rfl rfl dX9_hour_164 (fun r164 M164 hp164 => ?_)
                      obtain ⟨rfl, rfl⟩ := hp164
                      refine r_dup2 (pc := 167) X rfl rfl dX9_hour_167 ?_
                      refine r_iald (pc := 168) X mW_1 (120 + 5 * j + 4) rfl (by omega) (by decide) dX9_hour_168 ?_
                      refine r_iload (pc := 169) X rfl dX9_hour_169 ?_
                      refine r_iadd (pc := 171) X dX9_hour_171 ?_
                      refine r_iast (pc := 172) X mW_1 (120 + 5 * j + 4) rfl (by omega) (by decide) dX9_hour_172 ?_
                      refine bkV.eq mS_1 ?_
                      refine r_aload_n (pc := 173) X rfl dX9_hour_173 ?_
                      refine gt_X9_7 (pc := 174) X mW_0 rfl dX9_hour_174 ?_
                      refine r_iload_n (pc := 177) X rfl dX9_hour_177 ?_
                      refine r_iconst (pc := 178) (v := 4) X rfl dX9_hour_178 ?_
                      refine ca_X9_29 (pc := 179) X (c_X9_ofL j 4) rfl rfl rfl dX9_hour_179 (fun r179 M179 hp179 => ?_)
                      obtain ⟨rfl, rfl⟩ := hp179
                      refine r_dup2 (pc := 182) X rfl rfl dX9_hour_182 ?_
                      refine r_iald (pc := 183) X mW_1 (100 + 5 * j + 4) rfl (by omega) (by decide) dX9_hour_183 ?_
                      refine r_aload_n (pc := 184) X rfl dX9_hour_184 ?_
                      refine gt_X9_7 (pc := 185) X mW_0 rfl dX9_hour_185 ?_
                      refine r_iload_n (pc := 188) X rfl dX9_hour_188 ?_
                      refine r_iconst (pc := 189) (v := 4) X rfl dX9_hour_189 ?_
                      refine ca_X9_29 (pc := 190) X (c_X9_ofL j 4) rfl rfl rfl dX9_hour_190 (fun r190 M190 hp190 => ?_)
                      obtain ⟨rfl, rfl⟩ := hp190
                      refine r_iald (pc := 193) X mW_1 (100 + 5 * j + 4) rfl (by omega) (by decide) dX9_hour_193 ?_
                      refine r_if_le (pc := 194) X 201 (by decide) dX9_hour_194 (fun q194 => ?_) (fun q194 => ?_)
                      · skip
                        refine r_iconst (pc := 201) (v := 0) X rfl dX9_hour_201 ?_
                        refine r_isub (pc := 202) X dX9_hour_202 ?_
                        refine r_iast (pc := 203) X mW_1 (100 + 5 * j + 4) rfl (by omega) (by decide) dX9_hour_203 ?_
                        refine bkV.eq mS_1 ?_
                        refine r_iinc (pc := 204) X rfl rfl rfl dX9_hour_204 ?_
                        refine r_goto (pc := 207) X 74 (by decide) dX9_hour_207 ?_
                        first | refine bkV.eq (congrArg (fun z => mW G M r z a p q t oo f) (jkp1_le hp q194)) ?_ | refine bkV.eq (congrArg (fun z => mW G M r z a p q t oo f) (jkp1_gt hp q194)) ?_
                        exact bkV.drop 3 (bkV.drop 4 (ih (j + 1) _ _ (by omega) (by omega) (nI_1 j) (by rw [e2]; rfl)))
                      · skip
                        refine r_iconst (pc := 197) (v := 1) X rfl dX9_hour_197 ?_
                        refine r_goto (pc := 198) X 202 (by decide) dX9_hour_198 ?_
                        refine r_isub (pc := 202) X dX9_hour_202 ?_
                        refine r_iast (pc := 203) X mW_1 (100 + 5 * j + 4) rfl (by omega) (by decide) dX9_hour_203 ?_
                        refine bkV.eq mS_1 ?_
                        refine r_iinc (pc := 204) X rfl rfl rfl dX9_hour_204 ?_
                        refine r_goto (pc := 207) X 74 (by decide) dX9_hour_207 ?_
                        first | refine bkV.eq (congrArg (fun z => mW G M r z a p q t oo f) (jkp1_le hp q194)) ?_ | refine bkV.eq (congrArg (fun z => mW G M r z a p q t oo f) (jkp1_gt hp q194)) ?_
                        exact bkV.drop 3 (bkV.drop 4 (ih (j + 1) _ _ (by omega) (by omega) (nI_1 j) (by rw [e2]; rfl)))
              exact lp74 (4 + 1) 0 _ _ (by omega) (by omega) rfl rfl
            · skip
              have hjl : j < (jord s n).length := by rw [jord_len]; exact q53
              have hmm := jord_mem.mp (List.getElem_mem hjl)
              have eoj : oo j = nI ((jord s n)[j]) := by
                have := e3 _ hmm.1 hmm.2
                rw [jrk_at hw.wo hjl] at this
                exact this
              refine r_aload_n (pc := 56) X rfl dX9_hour_56 ?_
              refine r_aload_n (pc := 57) X rfl dX9_hour_57 ?_
              refine gt_X9_26 (pc := 58) X mW_0 rfl dX9_hour_58 ?_
              refine r_iload_n (pc := 61) X rfl dX9_hour_61 ?_
              refine r_iald (pc := 62) X mW_6 (j) rfl (by omega) (by decide) dX9_hour_62 ?_
              refine bk_top eoj ?_
              refine ca_X9_125 (pc := 63) X (c_X9_goes (hw.goL ((jord s n).take j) (fun k hk => by have h1 := (jord_mem.mp (List.mem_of_mem_take hk)).1; have h2 := hw.1; omega)) ((jord s n)[j]) (by omega)) mW_0 rfl rfl rfl dX9_hour_63 (fun M63 hp63 => ?_)
              obtain rfl := hp63
              refine r_iinc (pc := 66) X rfl rfl rfl dX9_hour_66 ?_
              refine r_goto (pc := 69) X 51 (by decide) dX9_hour_69 ?_
              rw [← jfold_take s (jord s n) j hjl]
              exact ih (j + 1) _ (by omega) (by omega) (nI_1 j)
        exact lp51 (jct (jsea s) n + 1) 0 _ (by omega) (by omega) rfl
      · skip
        refine r_aload_n (pc := 16) X rfl dX9_hour_16 ?_
        refine gt_X9_7 (pc := 17) X mW_0 rfl dX9_hour_17 ?_
        refine r_iload_n (pc := 20) X rfl dX9_hour_20 ?_
        refine r_iconst (pc := 21) (v := 3) X rfl dX9_hour_21 ?_
        refine ca_X9_100 (pc := 22) X (c_X9_ofS j 3) rfl rfl rfl dX9_hour_22 (fun r22 M22 hp22 => ?_)
        obtain ⟨rfl, rfl⟩ := hp22
        refine r_iald (pc := 25) X mW_1 (140 + 5 * j + 3) rfl (by omega) (by decide) dX9_hour_25 ?_
        refine r_if_ne (pc := 26) X 43 (by decide) dX9_hour_26 (fun q26 => ?_) (fun q26 => ?_)
        · skip
          have z : jsea s j = false := by simp [jsea, q26]
          refine r_iinc (pc := 43) X rfl rfl rfl dX9_hour_43 ?_
          refine r_goto (pc := 46) X 4 (by decide) dX9_hour_46 ?_
          first | exact ih (j + 1) _ _ _ (by omega) (by omega) (jct_t z) (nI_1 j) (jo_add hw.wo q13 e3 z) | exact ih (j + 1) _ _ _ (by omega) (by omega) (jct_f0 z) (nI_1 j) (jo_keep e3 z)
        · skip
          have z : jsea s j = true := by simp [jsea, q26]
          refine r_aload_n (pc := 29) X rfl dX9_hour_29 ?_
          refine gt_X9_26 (pc := 30) X mW_0 rfl dX9_hour_30 ?_
          refine r_aload_n (pc := 33) X rfl dX9_hour_33 ?_
          refine r_iload_n (pc := 34) X rfl dX9_hour_34 ?_
          refine ca_X9_122 (pc := 35) X (c_X9_rank hw.1 hw.2.1 j (by omega)) mW_0 rfl rfl rfl dX9_hour_35 (fun r35 M35 hp35 => ?_)
          obtain ⟨rfl, rfl⟩ := hp35
          refine r_iload_n (pc := 38) X rfl dX9_hour_38 ?_
          refine r_iast (pc := 39) X mW_6 (jrk s n j) rfl (by have h1 := jrk_lt hw.wo q13 (by simp [jsea, q26]); have h2 := jct_le (jsea s) n; omega) (by decide) dX9_hour_39 ?_
          refine bkV.eq mS_6 ?_
          refine r_iinc (pc := 40) X rfl rfl rfl dX9_hour_40 ?_
          refine r_iinc (pc := 43) X rfl rfl rfl dX9_hour_43 ?_
          refine r_goto (pc := 46) X 4 (by decide) dX9_hour_46 ?_
          first | exact ih (j + 1) _ _ _ (by omega) (by omega) (jct_t z) (nI_1 j) (jo_add hw.wo q13 e3 z) | exact ih (j + 1) _ _ _ (by omega) (by omega) (jct_f0 z) (nI_1 j) (jo_keep e3 z)
  exact lp4 (n + 1) 0 _ _ o (by omega) (by omega) rfl rfl (fun k hk => absurd hk (Nat.not_lt_zero k))

