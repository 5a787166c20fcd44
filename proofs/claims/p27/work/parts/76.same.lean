set_option maxHeartbeats 4000000 in
set_option maxRecDepth 100000 in
theorem c_L_cell {G : bkG} {Z : Nat → Prop} {M : bkM} (k : Nat) (hk : k < 1000) (hL : G.2.2.2.2.1 < 1000) : bkCi G Z Z yL_cell cL_cell 2 (some .int) 0 0 0 [.ref (G.2.2.2.1 3), .int (nI k)] M (fun v M' => ∃ c, c < 2 ^ 31 ∧ v = nI c ∧ M' = M) := by
  refine bk_meti [some (.ref (G.2.2.2.1 3)), some (.int (nI k))] rfl pf_L_cell rfl rfl (fun E X K => ?_)
  refine r_iload_n (pc := 0) X rfl dL_cell_0 ?_
  refine r_aload_n (pc := 1) X rfl dL_cell_1 ?_
  refine r_slenG (pc := 2) X dL_cell_2 ?_
  refine r_icmpN_ge (pc := 3) X 12 (k) (G.2.2.2.2.1) rfl rfl (by omega) (by omega) (by decide) dL_cell_3 (fun q3 => ?_) (fun q3 => ?_)
  · skip
    refine r_ldc (pc := 12) X co_L_7 dL_cell_12 ?_
    refine r_iload_n (pc := 14) X rfl dL_cell_14 ?_
    refine r_bipush (pc := 15) (v := 59) X rfl dL_cell_15 ?_
    refine r_iadd (pc := 17) X dL_cell_17 ?_
    refine r_imul (pc := 18) X dL_cell_18 ?_
    refine r_bipush (pc := 19) (v := 97) X rfl dL_cell_19 ?_
    refine r_iadd (pc := 21) X dL_cell_21 ?_
    refine r_ldc (pc := 22) X co_L_8 dL_cell_22 ?_
    refine r_iand (pc := 24) X dL_cell_24 ?_
    exact K dL_cell_25 (by obtain ⟨c, hc, e⟩ := pk_andE _ (m := 2147483647) 31 (by decide); exact ⟨c, hc, e, rfl⟩)
  · skip
    refine r_aload_n (pc := 6) X rfl dL_cell_6 ?_
    refine r_iload_n (pc := 7) X rfl dL_cell_7 ?_
    refine r_sldG (pc := 8) X (k) rfl (by omega) (by omega) dL_cell_8 ?_
    refine r_goto (pc := 9) X 22 (by decide) dL_cell_9 ?_
    refine r_ldc (pc := 22) X co_L_8 dL_cell_22 ?_
    refine r_iand (pc := 24) X dL_cell_24 ?_
    exact K dL_cell_25 (by obtain ⟨c, hc, e⟩ := pk_andE _ (m := 2147483647) 31 (by decide); exact ⟨c, hc, e, rfl⟩)

theorem jcount_w {s : Nat → Int32} {n : Nat} {np l1 l2 w : Int32} (h : w ≠ 12) : jcount s n np l1 w = jcount s n np l2 w := by
  unfold jcount
  rw [if_neg h, if_neg h]
set_option maxHeartbeats 4000000 in
set_option maxRecDepth 100000 in
theorem c_L_same {G : bkG} {Z : Nat → Prop} {M : bkM} {x : Nat} {S O : Nat → Nat → Int32} {od : Nat → Nat} {sz kp : Int32} {t : Nat → Int32} {ln pc pl : Int32} {pf : Nat → Nat → Int32} {r : Nat} {s : Nat → Int32} {S' O' : Nat → Nat → Int32} {od' : Nat → Nat} {t' : Nat → Int32} {ln' pc' pl' : Int32} {pf' : Nat → Nat → Int32} {n : Nat} (hr : x + 185 ≤ r) (h0 : S 0 = s) (h1 : S' 0 = s) (hk : cOK s n (O 0)) (hk' : cOK s n (O' 0)) : bkCi G Z Z yL_same cL_same 5 (some .boolean) 6 0 0 [.ref x, .ref r] (xW G x S O od sz kp t ln pc pl pf (xW G r S' O' od' sz kp t' ln' pc' pl' pf' M)) (fun v M' => v = 1 ∧ M' = (xW G x S O od sz kp t ln pc pl pf (xW G r S' O' od' sz kp t' ln' pc' pl' pf' M))) := by
  refine bk_metz [some (.ref x), some (.ref r), none, none, none] rfl pf_L_same rfl rfl (fun E X K => ?_)
  refine r_iconst (pc := 0) (v := 1) X rfl dL_same_0 ?_
  refine r_istore_n (pc := 1) X rfl rfl dL_same_1 ?_
  refine r_iconst (pc := 2) (v := 0) X rfl dL_same_2 ?_
  refine r_istore_n (pc := 3) X rfl rfl dL_same_3 ?_
  have lp4 : ∀ (d j : Nat) (y : Int32), j ≤ 14 → 14 < j + d → (y = nI j) → bkV E G Z 0 0 (xW G x S O od sz kp t ln pc pl pf (xW G r S' O' od' sz kp t' ln' pc' pl' pf' M)) 4 [some (.ref x), some (.ref r), some (.int 1), some (.int y), none] [] := by
    intro d
    induction d with
    | zero => intro j y; intros; exfalso; omega
    | succ d ih =>
      intro j y hj hd e1
      subst e1
      refine r_iload_n (pc := 4) X rfl dL_same_4 ?_
      refine r_bipush (pc := 5) (v := 14) X rfl dL_same_5 ?_
      refine r_icmpN_ge (pc := 7) X 45 (j) (14) rfl rfl (by omega) (by omega) (by decide) dL_same_7 (fun q7 => ?_) (fun q7 => ?_)
      · skip
        refine r_iconst (pc := 45) (v := 0) X rfl dL_same_45 ?_
        refine r_istore_n (pc := 46) X rfl rfl dL_same_46 ?_
        have lp47 : ∀ (d j : Nat) (y : Int32), j ≤ 8 → 8 < j + d → (y = nI j) → bkV E G Z 0 0 (xW G x S O od sz kp t ln pc pl pf (xW G r S' O' od' sz kp t' ln' pc' pl' pf' M)) 47 [some (.ref x), some (.ref r), some (.int 1), some (.int y), none] [] := by
          intro d
          induction d with
          | zero => intro j y; intros; exfalso; omega
          | succ d ih =>
            intro j y hj hd e1
            subst e1
            refine r_iload_n (pc := 47) X rfl dL_same_47 ?_
            refine r_bipush (pc := 48) (v := 8) X rfl dL_same_48 ?_
            refine r_icmpN_ge (pc := 50) X 129 (j) (8) rfl rfl (by omega) (by omega) (by decide) dL_same_50 (fun q50 => ?_) (fun q50 => ?_)
            · skip
              refine r_iconst (pc := 129) (v := 0) X rfl dL_same_129 ?_
              refine r_istore_n (pc := 130) X rfl rfl dL_same_130 ?_
              have lp131 : ∀ (d j : Nat) (y : Int32), j ≤ 4 → 4 < j + d → (y = nI j) → bkV E G Z 0 0 (xW G x S O od sz kp t ln pc pl pf (xW G r S' O' od' sz kp t' ln' pc' pl' pf' M)) 131 [some (.ref x), some (.ref r), some (.int 1), some (.int y), none] [] := by
                intro d
                induction d with
                | zero => intro j y; intros; exfalso; omega
                | succ d ih =>
                  intro j y hj hd e1
                  subst e1
                  refine r_iload_n (pc := 131) X rfl dL_same_131 ?_
                  refine r_iconst (pc := 132) (v := 4) X rfl dL_same_132 ?_
                  refine r_icmpN_ge (pc := 133) X 205 (j) (4) rfl rfl (by omega) (by omega) (by decide) dL_same_133 (fun q133 => ?_) (fun q133 => ?_)
                  · skip
                    refine r_iconst (pc := 205) (v := 0) X rfl dL_same_205 ?_
                    refine r_istore_n (pc := 206) X rfl rfl dL_same_206 ?_
                    have lp207 : ∀ (d j : Nat) (y : Int32), j ≤ 100 → 100 < j + d → (y = nI j) → bkV E G Z 0 0 (xW G x S O od sz kp t ln pc pl pf (xW G r S' O' od' sz kp t' ln' pc' pl' pf' M)) 207 [some (.ref x), some (.ref r), some (.int 1), some (.int y), none] [] := by
                      intro d
                      induction d with
                      | zero => intro j y; intros; exfalso; omega
                      | succ d ih =>
                        intro j y hj hd e1
                        subst e1
                        refine r_iload_n (pc := 207) X rfl dL_same_207 ?_
                        refine r_bipush (pc := 208) (v := 100) X rfl dL_same_208 ?_
                        refine r_icmpN_ge (pc := 210) X 259 (j) (100) rfl rfl (by omega) (by omega) (by decide) dL_same_210 (fun q210 => ?_) (fun q210 => ?_)
                        · skip
                          refine r_iload_n (pc := 259) X rfl dL_same_259 ?_
                          exact K dL_same_260 (by first | exact Or.inl rfl | exact Or.inr rfl) ⟨rfl, rfl⟩
                        · skip
                          refine r_iload_n (pc := 213) X rfl dL_same_213 ?_
                          refine r_if_eq (pc := 214) X 259 (by decide) dL_same_214 (fun q214 => ?_) (fun q214 => ?_)
                          · skip
                            exact absurd q214 (by decide)
                          · skip
                            refine r_aload_n (pc := 217) X rfl dL_same_217 ?_
                            refine r_iload_n (pc := 218) X rfl dL_same_218 ?_
                            refine r_iconst (pc := 219) (v := 0) X rfl dL_same_219 ?_
                            refine ca_L_55 (pc := 220) X (c_X8_cellOf (S := S) (n := n) (by rw [h0]; exact hk) _ _) xW_o rfl rfl rfl dL_same_220 (fun r220 M220 hp220 => ?_)
                            obtain ⟨rfl, rfl⟩ := hp220
                            rw [h0]
                            refine r_aload_n (pc := 223) X rfl dL_same_223 ?_
                            refine r_iload_n (pc := 224) X rfl dL_same_224 ?_
                            refine r_iconst (pc := 225) (v := 0) X rfl dL_same_225 ?_
                            refine bkV.eq (xx_comm hr).symm ?_
                            refine ca_L_55 (pc := 226) X (c_X8_cellOf (S := S') (n := n) (by rw [h1]; exact hk') _ _) xW_o rfl rfl rfl dL_same_226 (fun r226 M226 hp226 => ?_)
                            obtain ⟨rfl, rfl⟩ := hp226
                            rw [h1]
                            refine bkV.eq (xx_comm hr) ?_
                            refine r_icmp_ne (pc := 229) X 251 (by decide) dL_same_229 (fun q229 => ?_) (fun q229 => ?_)
                            · skip
                              exact absurd rfl q229
                            · skip
                              refine r_aload_n (pc := 232) X rfl dL_same_232 ?_
                              refine r_iload_n (pc := 233) X rfl dL_same_233 ?_
                              refine r_iconst (pc := 234) (v := 2) X rfl dL_same_234 ?_
                              refine ca_L_55 (pc := 235) X (c_X8_cellOf (S := S) (n := n) (by rw [h0]; exact hk) _ _) xW_o rfl rfl rfl dL_same_235 (fun r235 M235 hp235 => ?_)
                              obtain ⟨rfl, rfl⟩ := hp235
                              rw [h0]
                              refine r_aload_n (pc := 238) X rfl dL_same_238 ?_
                              refine r_iload_n (pc := 239) X rfl dL_same_239 ?_
                              refine r_iconst (pc := 240) (v := 2) X rfl dL_same_240 ?_
                              refine bkV.eq (xx_comm hr).symm ?_
                              refine ca_L_55 (pc := 241) X (c_X8_cellOf (S := S') (n := n) (by rw [h1]; exact hk') _ _) xW_o rfl rfl rfl dL_same_241 (fun r241 M241 hp241 => ?_)
                              obtain ⟨rfl, rfl⟩ := hp241
                              rw [h1]
                              refine bkV.eq (xx_comm hr) ?_
                              refine r_icmp_ne (pc := 244) X 251 (by decide) dL_same_244 (fun q244 => ?_) (fun q244 => ?_)
                              · skip
                                exact absurd rfl q244
                              · skip
                                refine r_iconst (pc := 247) (v := 1) X rfl dL_same_247 ?_
                                refine r_goto (pc := 248) X 252 (by decide) dL_same_248 ?_
                                refine r_istore_n (pc := 252) X rfl rfl dL_same_252 ?_
                                refine r_iinc (pc := 253) X rfl rfl rfl dL_same_253 ?_
                                refine r_goto (pc := 256) X 207 (by decide) dL_same_256 ?_
                                exact ih (j + 1) _ (by omega) (by omega) (nI_1 j)
                    exact lp207 (100 + 1) 0 _ (by omega) (by omega) rfl
                  · skip
                    refine r_iload_n (pc := 136) X rfl dL_same_136 ?_
                    refine r_if_eq (pc := 137) X 205 (by decide) dL_same_137 (fun q137 => ?_) (fun q137 => ?_)
                    · skip
                      exact absurd q137 (by decide)
                    · skip
                      refine r_iconst (pc := 140) (v := 0) X rfl dL_same_140 ?_
                      refine r_istore (pc := 141) X rfl rfl dL_same_141 ?_
                      have lp143 : ∀ (di i : Nat) (yi : Int32), i ≤ 5 → 5 < i + di → (yi = nI i) → bkV E G Z 0 0 (xW G x S O od sz kp t ln pc pl pf (xW G r S' O' od' sz kp t' ln' pc' pl' pf' M)) 143 [some (.ref x), some (.ref r), some (.int 1), some (.int (nI j)), some (.int yi)] [] := by
                        intro di
                        induction di with
                        | zero => intro i yi; intros; exfalso; omega
                        | succ di ihi =>
                          intro i yi hji hdi ei1
                          subst ei1
                          refine r_iload (pc := 143) X rfl dL_same_143 ?_
                          refine r_iconst (pc := 145) (v := 5) X rfl dL_same_145 ?_
                          refine r_icmpN_ge (pc := 146) X 199 (i) (5) rfl rfl (by omega) (by omega) (by decide) dL_same_146 (fun q146 => ?_) (fun q146 => ?_)
                          · skip
                            refine r_iinc (pc := 199) X rfl rfl rfl dL_same_199 ?_
                            refine r_goto (pc := 202) X 131 (by decide) dL_same_202 ?_
                            exact bkV.drop 4 (ih (j + 1) _ (by omega) (by omega) (nI_1 j))
                          · skip
                            refine r_iload_n (pc := 149) X rfl dL_same_149 ?_
                            refine r_if_eq (pc := 150) X 199 (by decide) dL_same_150 (fun q150 => ?_) (fun q150 => ?_)
                            · skip
                              exact absurd q150 (by decide)
                            · skip
                              refine r_aload_n (pc := 153) X rfl dL_same_153 ?_
                              refine r_iload_n (pc := 154) X rfl dL_same_154 ?_
                              refine r_iload (pc := 155) X rfl dL_same_155 ?_
                              refine ca_L_71 (pc := 157) X (c_X8_lightOf (S := S) (n := n) (by rw [h0]; exact hk) _ _) xW_o rfl rfl rfl dL_same_157 (fun r157 M157 hp157 => ?_)
                              obtain ⟨rfl, rfl⟩ := hp157
                              rw [h0]
                              refine r_aload_n (pc := 160) X rfl dL_same_160 ?_
                              refine r_iload_n (pc := 161) X rfl dL_same_161 ?_
                              refine r_iload (pc := 162) X rfl dL_same_162 ?_
                              refine bkV.eq (xx_comm hr).symm ?_
                              refine ca_L_71 (pc := 164) X (c_X8_lightOf (S := S') (n := n) (by rw [h1]; exact hk') _ _) xW_o rfl rfl rfl dL_same_164 (fun r164 M164 hp164 => ?_)
                              obtain ⟨rfl, rfl⟩ := hp164
                              rw [h1]
                              refine bkV.eq (xx_comm hr) ?_
                              refine r_icmp_ne (pc := 167) X 191 (by decide) dL_same_167 (fun q167 => ?_) (fun q167 => ?_)
                              · skip
                                exact absurd rfl q167
                              · skip
                                refine r_aload_n (pc := 170) X rfl dL_same_170 ?_
                                refine r_iload_n (pc := 171) X rfl dL_same_171 ?_
                                refine r_iload (pc := 172) X rfl dL_same_172 ?_
                                refine ca_L_74 (pc := 174) X (c_X8_keeperOf (S := S) (n := n) (by rw [h0]; exact hk) _ _) xW_o rfl rfl rfl dL_same_174 (fun r174 M174 hp174 => ?_)
                                obtain ⟨rfl, rfl⟩ := hp174
                                rw [h0]
                                refine r_aload_n (pc := 177) X rfl dL_same_177 ?_
                                refine r_iload_n (pc := 178) X rfl dL_same_178 ?_
                                refine r_iload (pc := 179) X rfl dL_same_179 ?_
                                refine bkV.eq (xx_comm hr).symm ?_
                                refine ca_L_74 (pc := 181) X (c_X8_keeperOf (S := S') (n := n) (by rw [h1]; exact hk') _ _) xW_o rfl rfl rfl dL_same_181 (fun r181 M181 hp181 => ?_)
                                obtain ⟨rfl, rfl⟩ := hp181
                                rw [h1]
                                refine bkV.eq (xx_comm hr) ?_
                                refine r_icmp_ne (pc := 184) X 191 (by decide) dL_same_184 (fun q184 => ?_) (fun q184 => ?_)
                                · skip
                                  exact absurd rfl q184
                                · skip
                                  refine r_iconst (pc := 187) (v := 1) X rfl dL_same_187 ?_
                                  refine r_goto (pc := 188) X 192 (by decide) dL_same_188 ?_
                                  refine r_istore_n (pc := 192) X rfl rfl dL_same_192 ?_
                                  refine r_iinc (pc := 193) X rfl rfl rfl dL_same_193 ?_
                                  refine r_goto (pc := 196) X 143 (by decide) dL_same_196 ?_
                                  exact ihi (i + 1) _ (by omega) (by omega) (nI_1 i)
                      exact lp143 (5 + 1) 0 _ (by omega) (by omega) rfl
              exact lp131 (4 + 1) 0 _ (by omega) (by omega) rfl
            · skip
              refine r_iload_n (pc := 53) X rfl dL_same_53 ?_
              refine r_if_eq (pc := 54) X 129 (by decide) dL_same_54 (fun q54 => ?_) (fun q54 => ?_)
              · skip
                exact absurd q54 (by decide)
              · skip
                refine r_aload_n (pc := 57) X rfl dL_same_57 ?_
                refine r_iload_n (pc := 58) X rfl dL_same_58 ?_
                refine r_iconst (pc := 59) (v := 0) X rfl dL_same_59 ?_
                refine ca_L_58 (pc := 60) X (c_X8_shipOf (S := S) (n := n) (by rw [h0]; exact hk) _ _) xW_o rfl rfl rfl dL_same_60 (fun r60 M60 hp60 => ?_)
                obtain ⟨rfl, rfl⟩ := hp60
                rw [h0]
                refine r_aload_n (pc := 63) X rfl dL_same_63 ?_
                refine r_iload_n (pc := 64) X rfl dL_same_64 ?_
                refine r_iconst (pc := 65) (v := 0) X rfl dL_same_65 ?_
                refine bkV.eq (xx_comm hr).symm ?_
                refine ca_L_58 (pc := 66) X (c_X8_shipOf (S := S') (n := n) (by rw [h1]; exact hk') _ _) xW_o rfl rfl rfl dL_same_66 (fun r66 M66 hp66 => ?_)
                obtain ⟨rfl, rfl⟩ := hp66
                rw [h1]
                refine bkV.eq (xx_comm hr) ?_
                refine r_icmp_ne (pc := 69) X 121 (by decide) dL_same_69 (fun q69 => ?_) (fun q69 => ?_)
                · skip
                  exact absurd rfl q69
                · skip
                  refine r_aload_n (pc := 72) X rfl dL_same_72 ?_
                  refine r_iload_n (pc := 73) X rfl dL_same_73 ?_
                  refine r_iconst (pc := 74) (v := 1) X rfl dL_same_74 ?_
                  refine ca_L_58 (pc := 75) X (c_X8_shipOf (S := S) (n := n) (by rw [h0]; exact hk) _ _) xW_o rfl rfl rfl dL_same_75 (fun r75 M75 hp75 => ?_)
                  obtain ⟨rfl, rfl⟩ := hp75
                  rw [h0]
                  refine r_aload_n (pc := 78) X rfl dL_same_78 ?_
                  refine r_iload_n (pc := 79) X rfl dL_same_79 ?_
                  refine r_iconst (pc := 80) (v := 1) X rfl dL_same_80 ?_
                  refine bkV.eq (xx_comm hr).symm ?_
                  refine ca_L_58 (pc := 81) X (c_X8_shipOf (S := S') (n := n) (by rw [h1]; exact hk') _ _) xW_o rfl rfl rfl dL_same_81 (fun r81 M81 hp81 => ?_)
                  obtain ⟨rfl, rfl⟩ := hp81
                  rw [h1]
                  refine bkV.eq (xx_comm hr) ?_
                  refine r_icmp_ne (pc := 84) X 121 (by decide) dL_same_84 (fun q84 => ?_) (fun q84 => ?_)
                  · skip
                    exact absurd rfl q84
                  · skip
                    refine r_aload_n (pc := 87) X rfl dL_same_87 ?_
                    refine r_iload_n (pc := 88) X rfl dL_same_88 ?_
                    refine r_iconst (pc := 89) (v := 3) X rfl dL_same_89 ?_
                    refine ca_L_58 (pc := 90) X (c_X8_shipOf (S := S) (n := n) (by rw [h0]; exact hk) _ _) xW_o rfl rfl rfl dL_same_90 (fun r90 M90 hp90 => ?_)
                    obtain ⟨rfl, rfl⟩ := hp90
                    rw [h0]
                    refine r_aload_n (pc := 93) X rfl dL_same_93 ?_
                    refine r_iload_n (pc := 94) X rfl dL_same_94 ?_
                    refine r_iconst (pc := 95) (v := 3) X rfl dL_same_95 ?_
                    refine bkV.eq (xx_comm hr).symm ?_
                    refine ca_L_58 (pc := 96) X (c_X8_shipOf (S := S') (n := n) (by rw [h1]; exact hk') _ _) xW_o rfl rfl rfl dL_same_96 (fun r96 M96 hp96 => ?_)
                    obtain ⟨rfl, rfl⟩ := hp96
                    rw [h1]
                    refine bkV.eq (xx_comm hr) ?_
                    refine r_icmp_ne (pc := 99) X 121 (by decide) dL_same_99 (fun q99 => ?_) (fun q99 => ?_)
                    · skip
                      exact absurd rfl q99
                    · skip
                      refine r_aload_n (pc := 102) X rfl dL_same_102 ?_
                      refine r_iload_n (pc := 103) X rfl dL_same_103 ?_
                      refine r_iconst (pc := 104) (v := 4) X rfl dL_same_104 ?_
                      refine ca_L_58 (pc := 105) X (c_X8_shipOf (S := S) (n := n) (by rw [h0]; exact hk) _ _) xW_o rfl rfl rfl dL_same_105 (fun r105 M105 hp105 => ?_)
                      obtain ⟨rfl, rfl⟩ := hp105
                      rw [h0]
                      refine r_aload_n (pc := 108) X rfl dL_same_108 ?_
                      refine r_iload_n (pc := 109) X rfl dL_same_109 ?_
                      refine r_iconst (pc := 110) (v := 4) X rfl dL_same_110 ?_
                      refine bkV.eq (xx_comm hr).symm ?_
                      refine ca_L_58 (pc := 111) X (c_X8_shipOf (S := S') (n := n) (by rw [h1]; exact hk') _ _) xW_o rfl rfl rfl dL_same_111 (fun r111 M111 hp111 => ?_)
                      obtain ⟨rfl, rfl⟩ := hp111
                      rw [h1]
                      refine bkV.eq (xx_comm hr) ?_
                      refine r_icmp_ne (pc := 114) X 121 (by decide) dL_same_114 (fun q114 => ?_) (fun q114 => ?_)
                      · skip
                        exact absurd rfl q114
                      · skip
                        refine r_iconst (pc := 117) (v := 1) X rfl dL_same_117 ?_
                        refine r_goto (pc := 118) X 122 (by decide) dL_same_118 ?_
                        refine r_istore_n (pc := 122) X rfl rfl dL_same_122 ?_
                        refine r_iinc (pc := 123) X rfl rfl rfl dL_same_123 ?_
                        refine r_goto (pc := 126) X 47 (by decide) dL_same_126 ?_
                        exact ih (j + 1) _ (by omega) (by omega) (nI_1 j)
        exact lp47 (8 + 1) 0 _ (by omega) (by omega) rfl
      · skip
        refine r_iload_n (pc := 10) X rfl dL_same_10 ?_
        refine r_if_eq (pc := 11) X 45 (by decide) dL_same_11 (fun q11 => ?_) (fun q11 => ?_)
        · skip
          exact absurd q11 (by decide)
        · skip
          refine bkV.join 38 (stT := [.int 1]) ?_ (fun j38 => ?_)
          · skip
            refine r_istore_n (pc := 38) X rfl rfl dL_same_38 ?_
            refine r_iinc (pc := 39) X rfl rfl rfl dL_same_39 ?_
            refine r_goto (pc := 42) X 4 (by decide) dL_same_42 ?_
            exact ih (j + 1) _ (by omega) (by omega) (nI_1 j)
          refine r_iload_n (pc := 14) X rfl dL_same_14 ?_
          refine r_bipush (pc := 15) (v := 12) X rfl dL_same_15 ?_
          refine r_icmpN_eq (pc := 17) X 33 (j) (12) rfl rfl (by omega) (by omega) (by decide) dL_same_17 (fun q17 => ?_) (fun q17 => ?_)
          · skip
            refine r_iconst (pc := 33) (v := 1) X rfl dL_same_33 ?_
            refine r_goto (pc := 34) X 38 (by decide) dL_same_34 ?_
            exact j38
          · skip
            refine r_aload_n (pc := 20) X rfl dL_same_20 ?_
            refine r_iload_n (pc := 21) X rfl dL_same_21 ?_
            refine ca_L_80 (pc := 22) X (c_X8_count (S := S) (n := n) (by rw [h0]; exact hk) _) xW_o rfl rfl rfl dL_same_22 (fun r22 M22 hp22 => ?_)
            obtain ⟨rfl, rfl⟩ := hp22
            rw [h0]
            refine r_aload_n (pc := 25) X rfl dL_same_25 ?_
            refine r_iload_n (pc := 26) X rfl dL_same_26 ?_
            refine bkV.eq (xx_comm hr).symm ?_
            refine ca_L_80 (pc := 27) X (c_X8_count (S := S') (n := n) (by rw [h1]; exact hk') _) xW_o rfl rfl rfl dL_same_27 (fun r27 M27 hp27 => ?_)
            obtain ⟨rfl, rfl⟩ := hp27
            rw [h1]
            refine bkV.eq (xx_comm hr) ?_
            refine r_icmp_ne (pc := 30) X 37 (by decide) dL_same_30 (fun q30 => ?_) (fun q30 => ?_)
            · skip
              exact absurd (jcount_w (fun e => q17 ((nI_eq (a := j) (b := 12) (by omega) (by omega)).mp e))) q30
            · skip
              refine r_iconst (pc := 33) (v := 1) X rfl dL_same_33 ?_
              refine r_goto (pc := 34) X 38 (by decide) dL_same_34 ?_
              exact j38
  exact lp4 (14 + 1) 0 _ (by omega) (by omega) rfl

