set_option maxHeartbeats 4000000 in
set_option maxRecDepth 100000 in
theorem hg_1 {E : bkEnv} {G : bkG} {Z : Nat → Prop} {M : bkM} {x a : Nat} {S O : Nat → Nat → Int32} {od : Nat → Nat} {np : Nat} {kp : Int32} {t : Nat → Int32} {ln pc pl : Int32} {pf : Nat → Nat → Int32} {n h : Nat} {s1 g1 : Nat → Int32} (X : bkX E G RL cL_hangs 20 (some .boolean) (bkR 7 1 4)) (hk : cOK (S 0) n (O 0)) (hI : jI (S 0) n h) (hh : h ≤ 50000) (ha : x + 185 ≤ a) (KK : ∀ f : Nat → Int32, (∀ l, l < 4 → f l = nI (jct (fun c => jlb (S 0) l c) 100)) → bkV E G Z 1 4 (xW G x (pfu S 1 s1) (pfu O 1 g1) od (nI np) kp t ln pc pl pf (bku M a (aI G 4 f))) 294 [some (.ref x), some (.int (jsm (S 0) 100)), some (.int (nI (jct (fun c => decide (S 0 c = 1) && decide (¬ nI (jlz (S 0) c) ≤ 0)) 100))), some (.int (nI (jct (fun c => decide (¬ nI (jlz (S 0) c) ≤ 0)) 100))), some (.int (nI (jct (fun c => decide (¬ jsin (S 0) n (nI c) = -5)) 100))), some (.ref a), some (.int 1), some (.int (nI 100)), none, none, none, none, none, none, none, none, none, none, none, none] []) : bkV E G Z 1 4 (xW G x (pfu S 1 s1) (pfu O 1 g1) od (nI np) kp t ln pc pl pf (bku M a (aI G 4 (fun _ => 0)))) 20 [some (.ref x), some (.int (jsm (S 0) 0)), some (.int (nI (jct (fun c => decide (S 0 c = 1) && decide (¬ nI (jlz (S 0) c) ≤ 0)) 0))), some (.int (nI (jct (fun c => decide (¬ nI (jlz (S 0) c) ≤ 0)) 0))), some (.int (nI (jct (fun c => decide (¬ jsin (S 0) n (nI c) = -5)) 0))), some (.ref a), some (.int 1), some (.int 0), none, none, none, none, none, none, none, none, none, none, none, none] [] := by
  have lp20 : ∀ (d j : Nat) (f : Nat → Int32) (y : Int32), j ≤ 100 → 100 < j + d → (∀ l, l < 4 → f l = nI (jct (fun c => jlb (S 0) l c) j)) → y = nI j → bkV E G Z 1 4 (xW G x (pfu S 1 s1) (pfu O 1 g1) od (nI np) kp t ln pc pl pf (bku M a (aI G 4 f))) 20 [some (.ref x), some (.int (jsm (S 0) j)), some (.int (nI (jct (fun c => decide (S 0 c = 1) && decide (¬ nI (jlz (S 0) c) ≤ 0)) j))), some (.int (nI (jct (fun c => decide (¬ nI (jlz (S 0) c) ≤ 0)) j))), some (.int (nI (jct (fun c => decide (¬ jsin (S 0) n (nI c) = -5)) j))), some (.ref a), some (.int 1), some (.int y), none, none, none, none, none, none, none, none, none, none, none, none] [] := by
    intro d
    induction d with
    | zero => intros; exfalso; omega
    | succ d ih =>
      intro j f y hj hd hf ey
      subst ey
      refine r_iload (pc := 20) X rfl dL_hangs_20 ?_
      refine r_bipush (pc := 22) (v := 100) X rfl dL_hangs_22 ?_
      refine r_icmpN_ge (pc := 24) X 294 (j) (100) rfl rfl (by omega) (by omega) (by decide) dL_hangs_24 (fun q24 => ?_) (fun q24 => ?_)
      · skip
        obtain rfl : j = 100 := by omega
        exact KK f hf
      · skip
        refine r_iload (pc := 27) X rfl dL_hangs_27 ?_
        refine r_if_eq (pc := 29) X 294 (by decide) dL_hangs_29 (fun q29 => ?_) (fun q29 => ?_)
        · skip
          exact absurd q29 (by decide)
        · skip
          have h01 := hk.1.2.2.1 j q24
          have h16 := jlz_16 (S 0) j
          have hnr := jnr_lt j
          have hlit := hc_lit hk.2.1 q24
          refine r_aload_n (pc := 32) X rfl dL_hangs_32 ?_
          refine r_iload (pc := 33) X rfl dL_hangs_33 ?_
          refine r_iconst (pc := 35) (v := 2) X rfl dL_hangs_35 ?_
          refine ca_L_55 (pc := 36) X (ct_cellOf hk (nI j) 2) xW_o rfl rfl rfl dL_hangs_36 (fun r36 M36 hp36 => ?_)
          obtain ⟨rfl, rfl⟩ := hp36
          refine bk_top (hc_2 q24) ?_
          refine r_istore (pc := 39) X rfl rfl dL_hangs_39 ?_
          refine r_aload_n (pc := 41) X rfl dL_hangs_41 ?_
          refine r_iload (pc := 42) X rfl dL_hangs_42 ?_
          refine r_iconst (pc := 44) (v := 0) X rfl dL_hangs_44 ?_
          refine ca_L_55 (pc := 45) X (ct_cellOf hk (nI j) 0) xW_o rfl rfl rfl dL_hangs_45 (fun r45 M45 hp45 => ?_)
          obtain ⟨rfl, rfl⟩ := hp45
          refine bk_top (hc_0 q24) ?_
          refine r_istore (pc := 48) X rfl rfl dL_hangs_48 ?_
          refine r_aload_n (pc := 50) X rfl dL_hangs_50 ?_
          refine r_iload (pc := 51) X rfl dL_hangs_51 ?_
          refine r_iconst (pc := 53) (v := 1) X rfl dL_hangs_53 ?_
          refine ca_L_55 (pc := 54) X (ct_cellOf hk (nI j) 1) xW_o rfl rfl rfl dL_hangs_54 (fun r54 M54 hp54 => ?_)
          obtain ⟨rfl, rfl⟩ := hp54
          refine bk_top (hc_1 q24) ?_
          refine r_istore (pc := 57) X rfl rfl dL_hangs_57 ?_
          refine r_iload (pc := 59) X rfl dL_hangs_59 ?_
          refine r_if_lt (pc := 61) X 201 (by decide) dL_hangs_61 (fun q61 => ?_) (fun q61 => ?_)
          · skip
            exact absurd q61 (nI_pos (by omega))
          · skip
            refine r_iload (pc := 64) X rfl dL_hangs_64 ?_
            refine r_bipush (pc := 66) (v := 16) X rfl dL_hangs_66 ?_
            refine r_icmpN_ge (pc := 68) X 201 (jlz (S 0) j) (16) rfl rfl (by omega) (by omega) (by decide) dL_hangs_68 (fun q68 => ?_) (fun q68 => ?_)
            · skip
              exact absurd q68 (by omega)
            · skip
              refine bkV.join 82 (stT := []) ?_ (fun j82 => ?_)
              · skip
                refine bkV.join 111 (stT := []) ?_ (fun j111 => ?_)
                · skip
                  refine r_aload_n (pc := 111) X rfl dL_hangs_111 ?_
                  refine r_iload (pc := 112) X rfl dL_hangs_112 ?_
                  refine r_iconst (pc := 114) (v := 3) X rfl dL_hangs_114 ?_
                  refine ca_L_55 (pc := 115) X (ct_cellOf hk (nI j) 3) xW_o rfl rfl rfl dL_hangs_115 (fun r115 M115 hp115 => ?_)
                  obtain ⟨rfl, rfl⟩ := hp115
                  refine bk_top (hc_3 q24) ?_
                  refine r_if_lt (pc := 118) X 201 (by decide) dL_hangs_118 (fun q118 => ?_) (fun q118 => ?_)
                  · skip
                    exact absurd q118 (nI_pos (by omega))
                  · skip
                    refine r_aload_n (pc := 121) X rfl dL_hangs_121 ?_
                    refine r_iload (pc := 122) X rfl dL_hangs_122 ?_
                    refine r_iconst (pc := 124) (v := 3) X rfl dL_hangs_124 ?_
                    refine ca_L_55 (pc := 125) X (ct_cellOf hk (nI j) 3) xW_o rfl rfl rfl dL_hangs_125 (fun r125 M125 hp125 => ?_)
                    obtain ⟨rfl, rfl⟩ := hp125
                    refine bk_top (hc_3 q24) ?_
                    refine r_iconst (pc := 128) (v := 4) X rfl dL_hangs_128 ?_
                    refine r_icmpN_ge (pc := 129) X 201 (jnr j) (4) rfl rfl (by omega) (by omega) (by decide) dL_hangs_129 (fun q129 => ?_) (fun q129 => ?_)
                    · skip
                      exact absurd q129 (by omega)
                    · skip
                      refine bkV.join 159 (stT := []) ?_ (fun j159 => ?_)
                      · skip
                        refine r_aload_n (pc := 159) X rfl dL_hangs_159 ?_
                        refine r_iload (pc := 160) X rfl dL_hangs_160 ?_
                        refine ca_L_64 (pc := 162) X (ct_share hk (nI j)) xW_o rfl rfl rfl dL_hangs_162 (fun r162 M162 hp162 => ?_)
                        obtain ⟨rfl, rfl⟩ := hp162
                        refine r_fconst0 (pc := 165) X dL_hangs_165 ?_
                        refine r_fcmp (pc := 166) X dL_hangs_166 ?_
                        refine r_if_lt (pc := 167) X 201 (by decide) dL_hangs_167 (fun q167 => ?_) (fun q167 => ?_)
                        · skip
                          exact absurd q167 (hc_s0 q24)
                        · skip
                          refine r_aload_n (pc := 170) X rfl dL_hangs_170 ?_
                          refine r_iload (pc := 171) X rfl dL_hangs_171 ?_
                          refine ca_L_64 (pc := 173) X (ct_share hk (nI j)) xW_o rfl rfl rfl dL_hangs_173 (fun r173 M173 hp173 => ?_)
                          obtain ⟨rfl, rfl⟩ := hp173
                          refine r_fconst1 (pc := 176) X dL_hangs_176 ?_
                          refine r_fcmp (pc := 177) X dL_hangs_177 ?_
                          refine r_if_gt (pc := 178) X 201 (by decide) dL_hangs_178 (fun q178 => ?_) (fun q178 => ?_)
                          · skip
                            exact absurd q178 (hc_s1 q24)
                          · skip
                            refine bkV.join 197 (stT := []) ?_ (fun j197 => ?_)
                            · skip
                              refine r_iconst (pc := 197) (v := 1) X rfl dL_hangs_197 ?_
                              refine r_goto (pc := 198) X 202 (by decide) dL_hangs_198 ?_
                              refine r_istore (pc := 202) X rfl rfl dL_hangs_202 ?_
                              refine r_iload_n (pc := 204) X rfl dL_hangs_204 ?_
                              refine r_iload (pc := 205) X rfl dL_hangs_205 ?_
                              refine r_iadd (pc := 207) X dL_hangs_207 ?_
                              refine bk_top (rfl : jsm (S 0) j + S 0 j = jsm (S 0) (j + 1)) ?_
                              refine r_istore_n (pc := 208) X rfl rfl dL_hangs_208 ?_
                              refine r_iload_n (pc := 209) X rfl dL_hangs_209 ?_
                              refine bkV.join 220 (stT := [.int (bi (decide (¬ nI (jlz (S 0) j) ≤ 0))), .int (nI (jct (fun c => decide (¬ nI (jlz (S 0) c) ≤ 0)) j))]) ?_ (fun j220 => ?_)
                              · skip
                                refine r_iadd (pc := 220) X dL_hangs_220 ?_
                                refine bk_top (jct_bi (fun c => decide (¬ nI (jlz (S 0) c) ≤ 0)) j) ?_
                                refine r_istore_n (pc := 221) X rfl rfl dL_hangs_221 ?_
                                refine r_iload_n (pc := 222) X rfl dL_hangs_222 ?_
                                refine bkV.join 239 (stT := [.int (bi (decide (S 0 j = 1) && decide (¬ nI (jlz (S 0) j) ≤ 0))), .int (nI (jct (fun c => decide (S 0 c = 1) && decide (¬ nI (jlz (S 0) c) ≤ 0)) j))]) ?_ (fun j239 => ?_)
                                · skip
                                  refine r_iadd (pc := 239) X dL_hangs_239 ?_
                                  refine bk_top (jct_bi (fun c => decide (S 0 c = 1) && decide (¬ nI (jlz (S 0) c) ≤ 0)) j) ?_
                                  refine r_istore_n (pc := 240) X rfl rfl dL_hangs_240 ?_
                                  refine r_iload (pc := 241) X rfl dL_hangs_241 ?_
                                  refine bkV.join 255 (stT := [.int (bi (decide (¬ jsin (S 0) n (nI j) = -5))), .int (nI (jct (fun c => decide (¬ jsin (S 0) n (nI c) = -5)) j))]) ?_ (fun j255 => ?_)
                                  · skip
                                    refine r_iadd (pc := 255) X dL_hangs_255 ?_
                                    refine bk_top (jct_bi (fun c => decide (¬ jsin (S 0) n (nI c) = -5)) j) ?_
                                    refine r_istore (pc := 256) X rfl rfl dL_hangs_256 ?_
                                    refine r_iconst (pc := 258) (v := 0) X rfl dL_hangs_258 ?_
                                    refine r_istore (pc := 259) X rfl rfl dL_hangs_259 ?_
                                    have lp261 : ∀ (e i : Nat) (f : Nat → Int32) (y2 : Int32), i ≤ 4 → 4 < i + e → (∀ l, l < 4 → f l = nI (jct (fun c => jlb (S 0) l c) (if l < i then j + 1 else j))) → y2 = nI i → bkV E G Z 1 4 (xW G x (pfu S 1 s1) (pfu O 1 g1) od (nI np) kp t ln pc pl pf (bku M a (aI G 4 f))) 261 [some (.ref x), some (.int (jsm (S 0) (j + 1))), some (.int (nI (jct (fun c => decide (S 0 c = 1) && decide (¬ nI (jlz (S 0) c) ≤ 0)) (j + 1)))), some (.int (nI (jct (fun c => decide (¬ nI (jlz (S 0) c) ≤ 0)) (j + 1)))), some (.int (nI (jct (fun c => decide (¬ jsin (S 0) n (nI c) = -5)) (j + 1)))), some (.ref a), some (.int 1), some (.int (nI j)), some (.int (nI (jlz (S 0) j))), some (.int (S 0 j)), some (.int (jsin (S 0) n (nI j))), some (.int y2), none, none, none, none, none, none, none, none] [] := by
                                      intro e
                                      induction e with
                                      | zero => intros; exfalso; omega
                                      | succ e ih2 =>
                                        intro i f y2 hi he hf2 ey2
                                        subst ey2
                                        refine r_iload (pc := 261) X rfl dL_hangs_261 ?_
                                        refine r_iconst (pc := 263) (v := 4) X rfl dL_hangs_263 ?_
                                        refine r_icmpN_ge (pc := 264) X 288 (i) (4) rfl rfl (by omega) (by omega) (by decide) dL_hangs_264 (fun q264 => ?_) (fun q264 => ?_)
                                        · skip
                                          obtain rfl : i = 4 := by omega
                                          refine r_iinc (pc := 288) X rfl rfl rfl dL_hangs_288 ?_
                                          refine r_goto (pc := 291) X 20 (by decide) dL_hangs_291 ?_
                                          refine bkV.drop 8 (bkV.drop 9 (bkV.drop 10 (bkV.drop 11 (ih (j + 1) f _ (by omega) (by omega) (fun l hl => ?_) (nI_1 j)))))
                                          rw [hf2 l hl, if_pos (by omega)]
                                        · skip
                                          refine r_aload (pc := 267) X rfl dL_hangs_267 ?_
                                          refine r_iload (pc := 269) X rfl dL_hangs_269 ?_
                                          refine r_dup2 (pc := 271) X rfl rfl dL_hangs_271 ?_
                                          refine r_iald (pc := 272) X (xT_arr ha) (i) rfl (by omega) (by decide) dL_hangs_272 ?_
                                          refine r_iload (pc := 273) X rfl dL_hangs_273 ?_
                                          refine r_iload (pc := 275) X rfl dL_hangs_275 ?_
                                          refine r_ishr (pc := 277) X dL_hangs_277 ?_
                                          refine r_iconst (pc := 278) (v := 1) X rfl dL_hangs_278 ?_
                                          refine r_iand (pc := 279) X dL_hangs_279 ?_
                                          refine bk_top (hc_bit (by omega)) ?_
                                          refine r_iadd (pc := 280) X dL_hangs_280 ?_
                                          refine bk_top ((by rw [hf2 i (by omega), if_neg (by omega)]; exact jct_bi (fun c => jlb (S 0) i c) j) : f i + bi (jlb (S 0) i j) = nI (jct (fun c => jlb (S 0) i c) (j + 1))) ?_
                                          refine r_iast (pc := 281) X (xT_arr ha) (i) rfl (by omega) (by decide) dL_hangs_281 ?_
                                          refine bkV.eq (xT_st ha) ?_
                                          refine r_iinc (pc := 282) X rfl rfl rfl dL_hangs_282 ?_
                                          refine r_goto (pc := 285) X 261 (by decide) dL_hangs_285 ?_
                                          refine ih2 (i + 1) _ _ (by omega) (by omega) (fun l hl => ?_) (nI_1 i)
                                          by_cases el : l = i
                                          · subst el; rw [upd_s, if_pos (by omega)]
                                          · rw [upd_n el, hf2 l hl]
                                            by_cases q : l < i
                                            · rw [if_pos q, if_pos (by omega)]
                                            · rw [if_neg q, if_neg (by omega)]
                                    exact lp261 5 0 f 0 (by omega) (by omega) (fun l hl => by rw [if_neg (by omega)]; exact hf l hl) rfl
                                  refine r_iload (pc := 243) X rfl dL_hangs_243 ?_
                                  refine r_bipush (pc := 245) (v := (-5)) X rfl dL_hangs_245 ?_
                                  refine r_icmp_ne (pc := 247) X 254 (by decide) dL_hangs_247 (fun q247 => ?_) (fun q247 => ?_)
                                  · skip
                                    refine r_iconst (pc := 254) (v := 1) X rfl dL_hangs_254 ?_
                                    first | exact bkV.st (by rw [decide_eq_true q247]; rfl) j255 | exact bkV.st (by rw [decide_eq_false (fun z => z q247)]; rfl) j255
                                  · skip
                                    refine r_iconst (pc := 250) (v := 0) X rfl dL_hangs_250 ?_
                                    refine r_goto (pc := 251) X 255 (by decide) dL_hangs_251 ?_
                                    first | exact bkV.st (by rw [decide_eq_true q247]; rfl) j255 | exact bkV.st (by rw [decide_eq_false (fun z => z q247)]; rfl) j255
                                refine r_iload (pc := 223) X rfl dL_hangs_223 ?_
                                refine r_iconst (pc := 225) (v := 1) X rfl dL_hangs_225 ?_
                                refine r_icmp_ne (pc := 226) X 238 (by decide) dL_hangs_226 (fun q226 => ?_) (fun q226 => ?_)
                                · skip
                                  refine r_iconst (pc := 238) (v := 0) X rfl dL_hangs_238 ?_
                                  first | exact bkV.st (by rw [decide_eq_false q226]; rfl) j239 | exact bkV.st (by rw [decide_eq_true q226, decide_eq_false (fun z => z q231)]; rfl) j239 | exact bkV.st (by rw [decide_eq_true q226, decide_eq_true q231]; rfl) j239
                                · skip
                                  refine r_iload (pc := 229) X rfl dL_hangs_229 ?_
                                  refine r_if_le (pc := 231) X 238 (by decide) dL_hangs_231 (fun q231 => ?_) (fun q231 => ?_)
                                  · skip
                                    refine r_iconst (pc := 238) (v := 0) X rfl dL_hangs_238 ?_
                                    first | exact bkV.st (by rw [decide_eq_false q226]; rfl) j239 | exact bkV.st (by rw [decide_eq_true q226, decide_eq_false (fun z => z q231)]; rfl) j239 | exact bkV.st (by rw [decide_eq_true q226, decide_eq_true q231]; rfl) j239
                                  · skip
                                    refine r_iconst (pc := 234) (v := 1) X rfl dL_hangs_234 ?_
                                    refine r_goto (pc := 235) X 239 (by decide) dL_hangs_235 ?_
                                    first | exact bkV.st (by rw [decide_eq_false q226]; rfl) j239 | exact bkV.st (by rw [decide_eq_true q226, decide_eq_false (fun z => z q231)]; rfl) j239 | exact bkV.st (by rw [decide_eq_true q226, decide_eq_true q231]; rfl) j239
                              refine r_iload (pc := 210) X rfl dL_hangs_210 ?_
                              refine r_if_le (pc := 212) X 219 (by decide) dL_hangs_212 (fun q212 => ?_) (fun q212 => ?_)
                              · skip
                                refine r_iconst (pc := 219) (v := 0) X rfl dL_hangs_219 ?_
                                first | exact bkV.st (by rw [decide_eq_false (fun z => z q212)]; rfl) j220 | exact bkV.st (by rw [decide_eq_true q212]; rfl) j220
                              · skip
                                refine r_iconst (pc := 215) (v := 1) X rfl dL_hangs_215 ?_
                                refine r_goto (pc := 216) X 220 (by decide) dL_hangs_216 ?_
                                first | exact bkV.st (by rw [decide_eq_false (fun z => z q212)]; rfl) j220 | exact bkV.st (by rw [decide_eq_true q212]; rfl) j220
                            refine r_iload (pc := 181) X rfl dL_hangs_181 ?_
                            refine r_if_eq (pc := 183) X 197 (by decide) dL_hangs_183 (fun q183 => ?_) (fun q183 => ?_)
                            · skip
                              exact j197
                            · skip
                              refine r_aload_n (pc := 186) X rfl dL_hangs_186 ?_
                              refine r_iload (pc := 187) X rfl dL_hangs_187 ?_
                              refine ca_L_64 (pc := 189) X (ct_share hk (nI j)) xW_o rfl rfl rfl dL_hangs_189 (fun r189 M189 hp189 => ?_)
                              obtain ⟨rfl, rfl⟩ := hp189
                              refine r_fconst0 (pc := 192) X dL_hangs_192 ?_
                              refine r_fcmp (pc := 193) X dL_hangs_193 ?_
                              refine r_if_le (pc := 194) X 201 (by decide) dL_hangs_194 (fun q194 => ?_) (fun q194 => ?_)
                              · skip
                                exact absurd q194 (hc_s2 hk.2.1 q24 q183)
                              · skip
                                exact j197
                      refine r_aload_n (pc := 132) X rfl dL_hangs_132 ?_
                      refine r_iload (pc := 133) X rfl dL_hangs_133 ?_
                      refine ca_L_61 (pc := 135) X (ct_litIn hk (nI j)) xW_o rfl rfl rfl dL_hangs_135 (fun r135 M135 hp135 => ?_)
                      obtain ⟨rfl, rfl⟩ := hp135
                      refine r_if_ne (pc := 138) X 145 (by decide) dL_hangs_138 (fun q138 => ?_) (fun q138 => ?_)
                      · skip
                        refine r_iconst (pc := 145) (v := 0) X rfl dL_hangs_145 ?_
                        refine r_iload (pc := 146) X rfl dL_hangs_146 ?_
                        refine r_if_le (pc := 148) X 155 (by decide) dL_hangs_148 (fun q148 => ?_) (fun q148 => ?_)
                        · skip
                          refine r_iconst (pc := 155) (v := 0) X rfl dL_hangs_155 ?_
                          refine r_icmp_ne (pc := 156) X 201 (by decide) dL_hangs_156 (fun q156 => ?_) (fun q156 => ?_)
                          · skip
                            first | exact absurd rfl q156 | exact absurd q148 (hlit.mp q138) | exact absurd (hlit.mpr q148) q138
                          · skip
                            exact j159
                        · skip
                          refine r_iconst (pc := 151) (v := 1) X rfl dL_hangs_151 ?_
                          refine r_goto (pc := 152) X 156 (by decide) dL_hangs_152 ?_
                          refine r_icmp_ne (pc := 156) X 201 (by decide) dL_hangs_156 (fun q156 => ?_) (fun q156 => ?_)
                          · skip
                            first | exact absurd rfl q156 | exact absurd q148 (hlit.mp q138) | exact absurd (hlit.mpr q148) q138
                          · skip
                            exact j159
                      · skip
                        refine r_iconst (pc := 141) (v := 1) X rfl dL_hangs_141 ?_
                        refine r_goto (pc := 142) X 146 (by decide) dL_hangs_142 ?_
                        refine r_iload (pc := 146) X rfl dL_hangs_146 ?_
                        refine r_if_le (pc := 148) X 155 (by decide) dL_hangs_148 (fun q148 => ?_) (fun q148 => ?_)
                        · skip
                          refine r_iconst (pc := 155) (v := 0) X rfl dL_hangs_155 ?_
                          refine r_icmp_ne (pc := 156) X 201 (by decide) dL_hangs_156 (fun q156 => ?_) (fun q156 => ?_)
                          · skip
                            first | exact absurd rfl q156 | exact absurd q148 (hlit.mp q138) | exact absurd (hlit.mpr q148) q138
                          · skip
                            exact j159
                        · skip
                          refine r_iconst (pc := 151) (v := 1) X rfl dL_hangs_151 ?_
                          refine r_goto (pc := 152) X 156 (by decide) dL_hangs_152 ?_
                          refine r_icmp_ne (pc := 156) X 201 (by decide) dL_hangs_156 (fun q156 => ?_) (fun q156 => ?_)
                          · skip
                            first | exact absurd rfl q156 | exact absurd q148 (hlit.mp q138) | exact absurd (hlit.mpr q148) q138
                          · skip
                            exact j159
                refine r_iload (pc := 82) X rfl dL_hangs_82 ?_
                refine r_bipush (pc := 84) (v := (-5)) X rfl dL_hangs_84 ?_
                refine r_icmp_eq (pc := 86) X 111 (by decide) dL_hangs_86 (fun q86 => ?_) (fun q86 => ?_)
                · skip
                  exact j111
                · skip
                  obtain ⟨k9, hk9, e9, e91, e92⟩ := jsin_is q86
                  refine r_aload_n (pc := 89) X rfl dL_hangs_89 ?_
                  refine r_iload (pc := 90) X rfl dL_hangs_90 ?_
                  refine r_iconst (pc := 92) (v := 1) X rfl dL_hangs_92 ?_
                  refine ca_L_58 (pc := 93) X (ct_shipOf hk _ 1) xW_o rfl rfl rfl dL_hangs_93 (fun r93 M93 hp93 => ?_)
                  obtain ⟨rfl, rfl⟩ := hp93
                  refine bk_top (show jshipOf (S 0) n (jsin (S 0) n (nI j)) 1 = nI j from by rw [e9]; exact (hs_1 (w := 1) hk.1 hk9 (by omega)).trans e92) ?_
                  refine r_iload (pc := 96) X rfl dL_hangs_96 ?_
                  refine r_icmp_ne (pc := 98) X 201 (by decide) dL_hangs_98 (fun q98 => ?_) (fun q98 => ?_)
                  · skip
                    exact absurd rfl q98
                  · skip
                    refine r_aload_n (pc := 101) X rfl dL_hangs_101 ?_
                    refine r_iload (pc := 102) X rfl dL_hangs_102 ?_
                    refine r_iconst (pc := 104) (v := 3) X rfl dL_hangs_104 ?_
                    refine ca_L_58 (pc := 105) X (ct_shipOf hk _ 3) xW_o rfl rfl rfl dL_hangs_105 (fun r105 M105 hp105 => ?_)
                    obtain ⟨rfl, rfl⟩ := hp105
                    refine bk_top (show jshipOf (S 0) n (jsin (S 0) n (nI j)) 3 = 0 from by rw [e9]; exact (hs_1 (w := 3) hk.1 hk9 (by omega)).trans e91) ?_
                    refine r_if_ne (pc := 108) X 201 (by decide) dL_hangs_108 (fun q108 => ?_) (fun q108 => ?_)
                    · skip
                      exact absurd rfl q108
                    · skip
                      exact j111
              refine r_iload (pc := 71) X rfl dL_hangs_71 ?_
              refine r_if_eq (pc := 73) X 82 (by decide) dL_hangs_73 (fun q73 => ?_) (fun q73 => ?_)
              · skip
                exact j82
              · skip
                refine r_iload (pc := 76) X rfl dL_hangs_76 ?_
                refine r_iconst (pc := 78) (v := 1) X rfl dL_hangs_78 ?_
                refine r_icmp_ne (pc := 79) X 201 (by decide) dL_hangs_79 (fun q79 => ?_) (fun q79 => ?_)
                · skip
                  exact absurd (h01.resolve_left q73) q79
                · skip
                  exact j82
  exact lp20 101 0 _ 0 (by omega) (by omega) (fun l hl => rfl) rfl

