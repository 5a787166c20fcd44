set_option maxHeartbeats 800000 in
set_option maxRecDepth 100000 in
theorem lc_rock {E : bkEnv} {G : bkG} {x r b i Ls : Nat} {xs : Nat → Int32} {M : bkM} (X : bkX E G RL cL_law 8 ret room_1) (hXs : va_X b Ls xs (eS E) (eS E).heap) (hbl : b < (eS E).heap.size) (hbA : ¬ bkA G b) (hL : Ls ≤ 2560) (hr : x + 185 ≤ r) (hi : i + 5 ≤ Ls) (hB : LB E G x r b i M) {S O : Nat → Nat → Int32} {od : Nat → Nat} {np : Nat} {kp : Int32} {t : Nat → Int32} {len : Nat} {pc pl : Int32} {pf : Nat → Nat → Int32} {s a p q o f : Nat → Int32} (hI : LI S O od np kp t len s p q f) (hs : S 0 = s) : bkV E G (fun z => z = r + 7) 192 3411 (xW G x S O od (nI np) kp t (nI len) pc pl pf (mW G M r s a p q t o f)) 144 [some (.ref b), some (.ref x), some (.ref r), some (.int (nI i)), none, none, none, none] [] := by
  subst hs
  obtain ⟨h1, ⟨n, hk⟩, ⟨hnp, h0, hf3⟩, ⟨h7, h60, ht⟩, h5, h6⟩ := id hI
  refine r_aload_n (pc := 144) X rfl dL_law_144 ?_
  refine r_aload_n (pc := 145) X rfl dL_law_145 ?_
  refine r_iload_n (pc := 146) X rfl dL_law_146 ?_
  refine r_iconst (pc := 147) (v := 1) X rfl dL_law_147 ?_
  refine r_iadd (pc := 148) X dL_law_148 ?_
  refine r_sld (pc := 149) X hXs hbl hbA (i + 1) (nI_add i 1) (by omega) (by omega) dL_law_149 ?_
  refine ca_L_13 (pc := 150) X (c_X8_rock hnp h0 hk (xs (i + 1))) xW_o rfl rfl rfl dL_law_150 (fun r150 M150 hp150 => ?_)
  obtain ⟨rfl, go, rfl, hgo⟩ := hp150
  refine bkV.eq (xA_comm hr).symm ?_
  refine r_aload_n (pc := 153) X rfl dL_law_153 ?_
  refine r_aload_n (pc := 154) X rfl dL_law_154 ?_
  refine r_iload_n (pc := 155) X rfl dL_law_155 ?_
  refine r_iconst (pc := 156) (v := 1) X rfl dL_law_156 ?_
  refine r_iadd (pc := 157) X dL_law_157 ?_
  refine r_sld (pc := 158) X hXs hbl hbA (i + 1) (nI_add i 1) (by omega) (by omega) dL_law_158 ?_
  refine ca_L_17 (pc := 159) X (c_X9_rock hnp hf3 (xs (i + 1))) mW_0 rfl rfl rfl dL_law_159 (fun r159 M159 hp159 => ?_)
  obtain ⟨rfl, o2, rfl⟩ := hp159
  refine bkV.eq (xAct_comm hr) ?_
  refine r_icmp_eq (pc := 162) X 798 (by decide) dL_law_162 (fun q162 => ?_) (fun q162 => ?_)
  · skip
    exact law_act hB hI rfl hgo
  · skip
    exact absurd rfl q162

set_option maxHeartbeats 800000 in
set_option maxRecDepth 100000 in
theorem lc_light {E : bkEnv} {G : bkG} {x r b i Ls : Nat} {xs : Nat → Int32} {M : bkM} (X : bkX E G RL cL_law 8 ret room_1) (hXs : va_X b Ls xs (eS E) (eS E).heap) (hbl : b < (eS E).heap.size) (hbA : ¬ bkA G b) (hL : Ls ≤ 2560) (hr : x + 185 ≤ r) (hi : i + 5 ≤ Ls) (hB : LB E G x r b i M) {S O : Nat → Nat → Int32} {od : Nat → Nat} {np : Nat} {kp : Int32} {t : Nat → Int32} {len : Nat} {pc pl : Int32} {pf : Nat → Nat → Int32} {s a p q o f : Nat → Int32} (hI : LI S O od np kp t len s p q f) (hs : S 0 = s) : bkV E G (fun z => z = r + 7) 192 3411 (xW G x S O od (nI np) kp t (nI len) pc pl pf (mW G M r s a p q t o f)) 167 [some (.ref b), some (.ref x), some (.ref r), some (.int (nI i)), none, none, none, none] [] := by
  subst hs
  obtain ⟨h1, ⟨n, hk⟩, ⟨hnp, h0, hf3⟩, ⟨h7, h60, ht⟩, h5, h6⟩ := id hI
  refine r_aload_n (pc := 167) X rfl dL_law_167 ?_
  refine r_aload_n (pc := 168) X rfl dL_law_168 ?_
  refine r_iload_n (pc := 169) X rfl dL_law_169 ?_
  refine r_iconst (pc := 170) (v := 1) X rfl dL_law_170 ?_
  refine r_iadd (pc := 171) X dL_law_171 ?_
  refine r_sld (pc := 172) X hXs hbl hbA (i + 1) (nI_add i 1) (by omega) (by omega) dL_law_172 ?_
  refine r_aload_n (pc := 173) X rfl dL_law_173 ?_
  refine r_iload_n (pc := 174) X rfl dL_law_174 ?_
  refine r_iconst (pc := 175) (v := 2) X rfl dL_law_175 ?_
  refine r_iadd (pc := 176) X dL_law_176 ?_
  refine r_sld (pc := 177) X hXs hbl hbA (i + 2) (nI_add i 2) (by omega) (by omega) dL_law_177 ?_
  refine r_aload_n (pc := 178) X rfl dL_law_178 ?_
  refine r_iload_n (pc := 179) X rfl dL_law_179 ?_
  refine r_iconst (pc := 180) (v := 3) X rfl dL_law_180 ?_
  refine r_iadd (pc := 181) X dL_law_181 ?_
  refine r_sld (pc := 182) X hXs hbl hbA (i + 3) (nI_add i 3) (by omega) (by omega) dL_law_182 ?_
  refine ca_L_18 (pc := 183) X (c_X8_light hnp h0 hk (xs (i + 1)) (xs (i + 2)) (xs (i + 3))) xW_o rfl rfl rfl dL_law_183 (fun r183 M183 hp183 => ?_)
  obtain ⟨rfl, go, rfl, hgo⟩ := hp183
  refine bkV.eq (xA_comm hr).symm ?_
  refine r_aload_n (pc := 186) X rfl dL_law_186 ?_
  refine r_aload_n (pc := 187) X rfl dL_law_187 ?_
  refine r_iload_n (pc := 188) X rfl dL_law_188 ?_
  refine r_iconst (pc := 189) (v := 1) X rfl dL_law_189 ?_
  refine r_iadd (pc := 190) X dL_law_190 ?_
  refine r_sld (pc := 191) X hXs hbl hbA (i + 1) (nI_add i 1) (by omega) (by omega) dL_law_191 ?_
  refine r_aload_n (pc := 192) X rfl dL_law_192 ?_
  refine r_iload_n (pc := 193) X rfl dL_law_193 ?_
  refine r_iconst (pc := 194) (v := 2) X rfl dL_law_194 ?_
  refine r_iadd (pc := 195) X dL_law_195 ?_
  refine r_sld (pc := 196) X hXs hbl hbA (i + 2) (nI_add i 2) (by omega) (by omega) dL_law_196 ?_
  refine r_aload_n (pc := 197) X rfl dL_law_197 ?_
  refine r_iload_n (pc := 198) X rfl dL_law_198 ?_
  refine r_iconst (pc := 199) (v := 3) X rfl dL_law_199 ?_
  refine r_iadd (pc := 200) X dL_law_200 ?_
  refine r_sld (pc := 201) X hXs hbl hbA (i + 3) (nI_add i 3) (by omega) (by omega) dL_law_201 ?_
  refine ca_L_22 (pc := 202) X (c_X9_light hnp hf3 (xs (i + 1)) (xs (i + 2)) (xs (i + 3))) mW_0 rfl rfl rfl dL_law_202 (fun r202 M202 hp202 => ?_)
  obtain ⟨rfl, o2, rfl⟩ := hp202
  refine bkV.eq (xAct_comm hr) ?_
  refine r_icmp_eq (pc := 205) X 798 (by decide) dL_law_205 (fun q205 => ?_) (fun q205 => ?_)
  · skip
    exact law_act hB hI rfl hgo
  · skip
    exact absurd rfl q205

set_option maxHeartbeats 800000 in
set_option maxRecDepth 100000 in
theorem lc_ship {E : bkEnv} {G : bkG} {x r b i Ls : Nat} {xs : Nat → Int32} {M : bkM} (X : bkX E G RL cL_law 8 ret room_1) (hXs : va_X b Ls xs (eS E) (eS E).heap) (hbl : b < (eS E).heap.size) (hbA : ¬ bkA G b) (hL : Ls ≤ 2560) (hr : x + 185 ≤ r) (hi : i + 5 ≤ Ls) (hB : LB E G x r b i M) {S O : Nat → Nat → Int32} {od : Nat → Nat} {np : Nat} {kp : Int32} {t : Nat → Int32} {len : Nat} {pc pl : Int32} {pf : Nat → Nat → Int32} {s a p q o f : Nat → Int32} (hI : LI S O od np kp t len s p q f) (hs : S 0 = s) : bkV E G (fun z => z = r + 7) 192 3411 (xW G x S O od (nI np) kp t (nI len) pc pl pf (mW G M r s a p q t o f)) 210 [some (.ref b), some (.ref x), some (.ref r), some (.int (nI i)), none, none, none, none] [] := by
  subst hs
  obtain ⟨h1, ⟨n, hk⟩, ⟨hnp, h0, hf3⟩, ⟨h7, h60, ht⟩, h5, h6⟩ := id hI
  refine r_aload_n (pc := 210) X rfl dL_law_210 ?_
  refine r_aload_n (pc := 211) X rfl dL_law_211 ?_
  refine r_iload_n (pc := 212) X rfl dL_law_212 ?_
  refine r_iconst (pc := 213) (v := 1) X rfl dL_law_213 ?_
  refine r_iadd (pc := 214) X dL_law_214 ?_
  refine r_sld (pc := 215) X hXs hbl hbA (i + 1) (nI_add i 1) (by omega) (by omega) dL_law_215 ?_
  refine r_aload_n (pc := 216) X rfl dL_law_216 ?_
  refine r_iload_n (pc := 217) X rfl dL_law_217 ?_
  refine r_iconst (pc := 218) (v := 2) X rfl dL_law_218 ?_
  refine r_iadd (pc := 219) X dL_law_219 ?_
  refine r_sld (pc := 220) X hXs hbl hbA (i + 2) (nI_add i 2) (by omega) (by omega) dL_law_220 ?_
  refine r_aload_n (pc := 221) X rfl dL_law_221 ?_
  refine r_iload_n (pc := 222) X rfl dL_law_222 ?_
  refine r_iconst (pc := 223) (v := 3) X rfl dL_law_223 ?_
  refine r_iadd (pc := 224) X dL_law_224 ?_
  refine r_sld (pc := 225) X hXs hbl hbA (i + 3) (nI_add i 3) (by omega) (by omega) dL_law_225 ?_
  refine ca_L_23 (pc := 226) X (c_X8_ship hnp h0 hk (xs (i + 1)) (xs (i + 2)) (xs (i + 3))) xW_o rfl rfl rfl dL_law_226 (fun r226 M226 hp226 => ?_)
  obtain ⟨rfl, go, rfl, hgo⟩ := hp226
  refine bkV.eq (xA_comm hr).symm ?_
  refine r_aload_n (pc := 229) X rfl dL_law_229 ?_
  refine r_aload_n (pc := 230) X rfl dL_law_230 ?_
  refine r_iload_n (pc := 231) X rfl dL_law_231 ?_
  refine r_iconst (pc := 232) (v := 1) X rfl dL_law_232 ?_
  refine r_iadd (pc := 233) X dL_law_233 ?_
  refine r_sld (pc := 234) X hXs hbl hbA (i + 1) (nI_add i 1) (by omega) (by omega) dL_law_234 ?_
  refine r_aload_n (pc := 235) X rfl dL_law_235 ?_
  refine r_iload_n (pc := 236) X rfl dL_law_236 ?_
  refine r_iconst (pc := 237) (v := 2) X rfl dL_law_237 ?_
  refine r_iadd (pc := 238) X dL_law_238 ?_
  refine r_sld (pc := 239) X hXs hbl hbA (i + 2) (nI_add i 2) (by omega) (by omega) dL_law_239 ?_
  refine r_aload_n (pc := 240) X rfl dL_law_240 ?_
  refine r_iload_n (pc := 241) X rfl dL_law_241 ?_
  refine r_iconst (pc := 242) (v := 3) X rfl dL_law_242 ?_
  refine r_iadd (pc := 243) X dL_law_243 ?_
  refine r_sld (pc := 244) X hXs hbl hbA (i + 3) (nI_add i 3) (by omega) (by omega) dL_law_244 ?_
  refine ca_L_26 (pc := 245) X (c_X9_ship hnp hf3 hk.1 (xs (i + 1)) (xs (i + 2)) (xs (i + 3))) mW_0 rfl rfl rfl dL_law_245 (fun r245 M245 hp245 => ?_)
  obtain ⟨rfl, o2, rfl⟩ := hp245
  refine bkV.eq (xAct_comm hr) ?_
  refine r_icmp_eq (pc := 248) X 798 (by decide) dL_law_248 (fun q248 => ?_) (fun q248 => ?_)
  · skip
    exact law_act hB hI rfl hgo
  · skip
    exact absurd rfl q248

set_option maxHeartbeats 800000 in
set_option maxRecDepth 100000 in
theorem lc_doAll {E : bkEnv} {G : bkG} {x r b i Ls : Nat} {xs : Nat → Int32} {M : bkM} (X : bkX E G RL cL_law 8 ret room_1) (hXs : va_X b Ls xs (eS E) (eS E).heap) (hbl : b < (eS E).heap.size) (hbA : ¬ bkA G b) (hL : Ls ≤ 2560) (hr : x + 185 ≤ r) (hi : i + 5 ≤ Ls) (hB : LB E G x r b i M) {S O : Nat → Nat → Int32} {od : Nat → Nat} {np : Nat} {kp : Int32} {t : Nat → Int32} {len : Nat} {pc pl : Int32} {pf : Nat → Nat → Int32} {s a p q o f : Nat → Int32} (hI : LI S O od np kp t len s p q f) (hs : S 0 = s) : bkV E G (fun z => z = r + 7) 192 3411 (xW G x S O od (nI np) kp t (nI len) pc pl pf (mW G M r s a p q t o f)) 253 [some (.ref b), some (.ref x), some (.ref r), some (.int (nI i)), none, none, none, none] [] := by
  subst hs
  obtain ⟨h1, ⟨n, hk⟩, ⟨hnp, h0, hf3⟩, ⟨h7, h60, ht⟩, h5, h6⟩ := id hI
  refine r_aload_n (pc := 253) X rfl dL_law_253 ?_
  refine ca_L_27 (pc := 254) X (c_X8_doAll h60 ht hnp h0 hk) xW_o rfl rfl rfl dL_law_254 (fun r254 M254 hp254 => ?_)
  obtain ⟨rfl, s1, g1, pc2, pl2, pf2, go, rfl, hgo⟩ := hp254
  refine bkV.eq (xA_comm hr).symm ?_
  refine r_aload_n (pc := 257) X rfl dL_law_257 ?_
  refine ca_L_31 (pc := 258) X (c_X9_doAll h7 h60 hnp hf3 hk.1) mW_0 rfl rfl rfl dL_law_258 (fun r258 M258 hp258 => ?_)
  obtain ⟨rfl, a2, o2, x2, l2, u2, v2, w2, rfl⟩ := hp258
  refine bkV.eq (xAct_comm hr) ?_
  refine r_icmp_eq (pc := 261) X 798 (by decide) dL_law_261 (fun q261 => ?_) (fun q261 => ?_)
  · skip
    exact law_act hB hI.trial.ff rfl hgo
  · skip
    exact absurd rfl q261

set_option maxHeartbeats 800000 in
set_option maxRecDepth 100000 in
theorem lc_card {E : bkEnv} {G : bkG} {x r b i Ls : Nat} {xs : Nat → Int32} {M : bkM} (X : bkX E G RL cL_law 8 ret room_1) (hXs : va_X b Ls xs (eS E) (eS E).heap) (hbl : b < (eS E).heap.size) (hbA : ¬ bkA G b) (hL : Ls ≤ 2560) (hr : x + 185 ≤ r) (hi : i + 5 ≤ Ls) (hB : LB E G x r b i M) {S O : Nat → Nat → Int32} {od : Nat → Nat} {np : Nat} {kp : Int32} {t : Nat → Int32} {len : Nat} {pc pl : Int32} {pf : Nat → Nat → Int32} {s a p q o f : Nat → Int32} (hI : LI S O od np kp t len s p q f) (hs : S 0 = s) : bkV E G (fun z => z = r + 7) 192 3411 (xW G x S O od (nI np) kp t (nI len) pc pl pf (mW G M r s a p q t o f)) 266 [some (.ref b), some (.ref x), some (.ref r), some (.int (nI i)), none, none, none, none] [] := by
  subst hs
  obtain ⟨h1, ⟨n, hk⟩, ⟨hnp, h0, hf3⟩, ⟨h7, h60, ht⟩, h5, h6⟩ := id hI
  refine r_aload_n (pc := 266) X rfl dL_law_266 ?_
  refine r_aload_n (pc := 267) X rfl dL_law_267 ?_
  refine r_iload_n (pc := 268) X rfl dL_law_268 ?_
  refine r_iconst (pc := 269) (v := 1) X rfl dL_law_269 ?_
  refine r_iadd (pc := 270) X dL_law_270 ?_
  refine r_sld (pc := 271) X hXs hbl hbA (i + 1) (nI_add i 1) (by omega) (by omega) dL_law_271 ?_
  refine r_aload_n (pc := 272) X rfl dL_law_272 ?_
  refine r_iload_n (pc := 273) X rfl dL_law_273 ?_
  refine r_iconst (pc := 274) (v := 2) X rfl dL_law_274 ?_
  refine r_iadd (pc := 275) X dL_law_275 ?_
  refine r_sld (pc := 276) X hXs hbl hbA (i + 2) (nI_add i 2) (by omega) (by omega) dL_law_276 ?_
  refine ca_L_32 (pc := 277) X (c_X8_card hnp h0 hk (xs (i + 1)) (xs (i + 2))) xW_o rfl rfl rfl dL_law_277 (fun r277 M277 hp277 => ?_)
  obtain ⟨rfl, go, rfl, hgo⟩ := hp277
  refine bkV.eq (xA_comm hr).symm ?_
  refine r_aload_n (pc := 280) X rfl dL_law_280 ?_
  refine r_aload_n (pc := 281) X rfl dL_law_281 ?_
  refine r_iload_n (pc := 282) X rfl dL_law_282 ?_
  refine r_iconst (pc := 283) (v := 1) X rfl dL_law_283 ?_
  refine r_iadd (pc := 284) X dL_law_284 ?_
  refine r_sld (pc := 285) X hXs hbl hbA (i + 1) (nI_add i 1) (by omega) (by omega) dL_law_285 ?_
  refine r_aload_n (pc := 286) X rfl dL_law_286 ?_
  refine r_iload_n (pc := 287) X rfl dL_law_287 ?_
  refine r_iconst (pc := 288) (v := 2) X rfl dL_law_288 ?_
  refine r_iadd (pc := 289) X dL_law_289 ?_
  refine r_sld (pc := 290) X hXs hbl hbA (i + 2) (nI_add i 2) (by omega) (by omega) dL_law_290 ?_
  refine ca_L_36 (pc := 291) X (c_X9_card hnp hf3 (xs (i + 1)) (xs (i + 2))) mW_0 rfl rfl rfl dL_law_291 (fun r291 M291 hp291 => ?_)
  obtain ⟨rfl, o2, rfl⟩ := hp291
  refine bkV.eq (xAct_comm hr) ?_
  refine r_icmp_eq (pc := 294) X 798 (by decide) dL_law_294 (fun q294 => ?_) (fun q294 => ?_)
  · skip
    exact law_act hB hI rfl hgo
  · skip
    exact absurd rfl q294

set_option maxHeartbeats 800000 in
set_option maxRecDepth 100000 in
theorem lc_pass {E : bkEnv} {G : bkG} {x r b i Ls : Nat} {xs : Nat → Int32} {M : bkM} (X : bkX E G RL cL_law 8 ret room_1) (hXs : va_X b Ls xs (eS E) (eS E).heap) (hbl : b < (eS E).heap.size) (hbA : ¬ bkA G b) (hL : Ls ≤ 2560) (hr : x + 185 ≤ r) (hi : i + 5 ≤ Ls) (hB : LB E G x r b i M) {S O : Nat → Nat → Int32} {od : Nat → Nat} {np : Nat} {kp : Int32} {t : Nat → Int32} {len : Nat} {pc pl : Int32} {pf : Nat → Nat → Int32} {s a p q o f : Nat → Int32} (hI : LI S O od np kp t len s p q f) (hs : S 0 = s) : bkV E G (fun z => z = r + 7) 192 3411 (xW G x S O od (nI np) kp t (nI len) pc pl pf (mW G M r s a p q t o f)) 299 [some (.ref b), some (.ref x), some (.ref r), some (.int (nI i)), none, none, none, none] [] := by
  subst hs
  obtain ⟨h1, ⟨n, hk⟩, ⟨hnp, h0, hf3⟩, ⟨h7, h60, ht⟩, h5, h6⟩ := id hI
  refine r_aload_n (pc := 299) X rfl dL_law_299 ?_
  refine r_aload_n (pc := 300) X rfl dL_law_300 ?_
  refine r_iload_n (pc := 301) X rfl dL_law_301 ?_
  refine r_iconst (pc := 302) (v := 1) X rfl dL_law_302 ?_
  refine r_iadd (pc := 303) X dL_law_303 ?_
  refine r_sld (pc := 304) X hXs hbl hbA (i + 1) (nI_add i 1) (by omega) (by omega) dL_law_304 ?_
  refine ca_L_37 (pc := 305) X (c_X8_pass hnp h0 hk (xs (i + 1))) xW_o rfl rfl rfl dL_law_305 (fun r305 M305 hp305 => ?_)
  obtain ⟨rfl, go, rfl, hgo⟩ := hp305
  refine bkV.eq (xA_comm hr).symm ?_
  refine r_aload_n (pc := 308) X rfl dL_law_308 ?_
  refine r_aload_n (pc := 309) X rfl dL_law_309 ?_
  refine r_iload_n (pc := 310) X rfl dL_law_310 ?_
  refine r_iconst (pc := 311) (v := 1) X rfl dL_law_311 ?_
  refine r_iadd (pc := 312) X dL_law_312 ?_
  refine r_sld (pc := 313) X hXs hbl hbA (i + 1) (nI_add i 1) (by omega) (by omega) dL_law_313 ?_
  refine ca_L_40 (pc := 314) X (c_X9_pass hnp hf3 hk.1 (xs (i + 1))) mW_0 rfl rfl rfl dL_law_314 (fun r314 M314 hp314 => ?_)
  obtain ⟨rfl, o2, rfl⟩ := hp314
  refine bkV.eq (xAct_comm hr) ?_
  refine r_icmp_eq (pc := 317) X 798 (by decide) dL_law_317 (fun q317 => ?_) (fun q317 => ?_)
  · skip
    exact law_act hB hI rfl hgo
  · skip
    exact absurd rfl q317

set_option maxHeartbeats 800000 in
set_option maxRecDepth 100000 in
theorem lc_wage {E : bkEnv} {G : bkG} {x r b i Ls : Nat} {xs : Nat → Int32} {M : bkM} (X : bkX E G RL cL_law 8 ret room_1) (hXs : va_X b Ls xs (eS E) (eS E).heap) (hbl : b < (eS E).heap.size) (hbA : ¬ bkA G b) (hL : Ls ≤ 2560) (hr : x + 185 ≤ r) (hi : i + 5 ≤ Ls) (hB : LB E G x r b i M) {S O : Nat → Nat → Int32} {od : Nat → Nat} {np : Nat} {kp : Int32} {t : Nat → Int32} {len : Nat} {pc pl : Int32} {pf : Nat → Nat → Int32} {s a p q o f : Nat → Int32} (hI : LI S O od np kp t len s p q f) (hs : S 0 = s) : bkV E G (fun z => z = r + 7) 192 3411 (xW G x S O od (nI np) kp t (nI len) pc pl pf (mW G M r s a p q t o f)) 322 [some (.ref b), some (.ref x), some (.ref r), some (.int (nI i)), none, none, none, none] [] := by
  subst hs
  obtain ⟨h1, ⟨n, hk⟩, ⟨hnp, h0, hf3⟩, ⟨h7, h60, ht⟩, h5, h6⟩ := id hI
  refine r_aload_n (pc := 322) X rfl dL_law_322 ?_
  refine r_aload_n (pc := 323) X rfl dL_law_323 ?_
  refine r_iload_n (pc := 324) X rfl dL_law_324 ?_
  refine r_iconst (pc := 325) (v := 1) X rfl dL_law_325 ?_
  refine r_iadd (pc := 326) X dL_law_326 ?_
  refine r_sld (pc := 327) X hXs hbl hbA (i + 1) (nI_add i 1) (by omega) (by omega) dL_law_327 ?_
  refine ca_L_41 (pc := 328) X (c_X8_wage hnp h0 hk (xs (i + 1))) xW_o rfl rfl rfl dL_law_328 (fun r328 M328 hp328 => ?_)
  obtain ⟨rfl, go, rfl, hgo⟩ := hp328
  refine bkV.eq (xA_comm hr).symm ?_
  refine r_aload_n (pc := 331) X rfl dL_law_331 ?_
  refine r_aload_n (pc := 332) X rfl dL_law_332 ?_
  refine r_iload_n (pc := 333) X rfl dL_law_333 ?_
  refine r_iconst (pc := 334) (v := 1) X rfl dL_law_334 ?_
  refine r_iadd (pc := 335) X dL_law_335 ?_
  refine r_sld (pc := 336) X hXs hbl hbA (i + 1) (nI_add i 1) (by omega) (by omega) dL_law_336 ?_
  refine ca_L_44 (pc := 337) X (c_X9_wage hnp hf3 (xs (i + 1))) mW_0 rfl rfl rfl dL_law_337 (fun r337 M337 hp337 => ?_)
  obtain ⟨rfl, o2, rfl⟩ := hp337
  refine bkV.eq (xAct_comm hr) ?_
  refine r_icmp_eq (pc := 340) X 798 (by decide) dL_law_340 (fun q340 => ?_) (fun q340 => ?_)
  · skip
    exact law_act hB hI rfl hgo
  · skip
    exact absurd rfl q340

set_option maxHeartbeats 800000 in
set_option maxRecDepth 100000 in
theorem lc_type {E : bkEnv} {G : bkG} {x r b i Ls : Nat} {xs : Nat → Int32} {M : bkM} (X : bkX E G RL cL_law 8 ret room_1) (hXs : va_X b Ls xs (eS E) (eS E).heap) (hbl : b < (eS E).heap.size) (hbA : ¬ bkA G b) (hL : Ls ≤ 2560) (hr : x + 185 ≤ r) (hi : i + 5 ≤ Ls) (hB : LB E G x r b i M) {S O : Nat → Nat → Int32} {od : Nat → Nat} {np : Nat} {kp : Int32} {t : Nat → Int32} {len : Nat} {pc pl : Int32} {pf : Nat → Nat → Int32} {s a p q o f : Nat → Int32} (hI : LI S O od np kp t len s p q f) (hs : S 0 = s) : bkV E G (fun z => z = r + 7) 192 3411 (xW G x S O od (nI np) kp t (nI len) pc pl pf (mW G M r s a p q t o f)) 345 [some (.ref b), some (.ref x), some (.ref r), some (.int (nI i)), none, none, none, none] [] := by
  subst hs
  obtain ⟨h1, ⟨n, hk⟩, ⟨hnp, h0, hf3⟩, ⟨h7, h60, ht⟩, h5, h6⟩ := id hI
  by_cases hz : len = 60
  · skip
    refine r_aload_n (pc := 345) X rfl dL_law_345 ?_
    refine r_aload_n (pc := 346) X rfl dL_law_346 ?_
    refine r_iload_n (pc := 347) X rfl dL_law_347 ?_
    refine r_iconst (pc := 348) (v := 1) X rfl dL_law_348 ?_
    refine r_iadd (pc := 349) X dL_law_349 ?_
    refine r_sld (pc := 350) X hXs hbl hbA (i + 1) (nI_add i 1) (by omega) (by omega) dL_law_350 ?_
    refine r_i2c (pc := 351) X dL_law_351 ?_
    refine ca_L_45 (pc := 352) X (c_X8_type h60 _) xW_o rfl rfl rfl dL_law_352 (fun r352 M352 hp352 => ?_)
    obtain ⟨rfl, em⟩ := hp352
    first | rw [if_pos hz] at em | rw [if_neg hz] at em
    subst em
    refine bkV.eq (mx_comm hr).symm ?_
    refine r_aload_n (pc := 355) X rfl dL_law_355 ?_
    refine r_aload_n (pc := 356) X rfl dL_law_356 ?_
    refine r_iload_n (pc := 357) X rfl dL_law_357 ?_
    refine r_iconst (pc := 358) (v := 1) X rfl dL_law_358 ?_
    refine r_iadd (pc := 359) X dL_law_359 ?_
    refine r_sld (pc := 360) X hXs hbl hbA (i + 1) (nI_add i 1) (by omega) (by omega) dL_law_360 ?_
    refine r_i2c (pc := 361) X dL_law_361 ?_
    refine ca_L_49 (pc := 362) X (c_X9_type h60 h7 _) mW_0 rfl rfl rfl dL_law_362 (fun r362 M362 hp362 => ?_)
    obtain ⟨rfl, em⟩ := hp362
    first | rw [if_pos hz] at em | rw [if_neg hz] at em
    subst em
    refine bkV.eq (mx_comm hr) ?_
    refine r_icmp_eq (pc := 365) X 798 (by decide) dL_law_365 (fun q365 => ?_) (fun q365 => ?_)
    · skip
      first | exact hB _ _ _ _ _ _ _ _ _ _ _ _ _ _ _ _ (hI.type hz _) | exact hB _ _ _ _ _ _ _ _ _ _ _ _ _ _ _ _ hI
    · skip
      exact absurd rfl q365
  · skip
    refine r_aload_n (pc := 345) X rfl dL_law_345 ?_
    refine r_aload_n (pc := 346) X rfl dL_law_346 ?_
    refine r_iload_n (pc := 347) X rfl dL_law_347 ?_
    refine r_iconst (pc := 348) (v := 1) X rfl dL_law_348 ?_
    refine r_iadd (pc := 349) X dL_law_349 ?_
    refine r_sld (pc := 350) X hXs hbl hbA (i + 1) (nI_add i 1) (by omega) (by omega) dL_law_350 ?_
    refine r_i2c (pc := 351) X dL_law_351 ?_
    refine ca_L_45 (pc := 352) X (c_X8_type h60 _) xW_o rfl rfl rfl dL_law_352 (fun r352 M352 hp352 => ?_)
    obtain ⟨rfl, em⟩ := hp352
    first | rw [if_pos hz] at em | rw [if_neg hz] at em
    subst em
    refine bkV.eq (mx_comm hr).symm ?_
    refine r_aload_n (pc := 355) X rfl dL_law_355 ?_
    refine r_aload_n (pc := 356) X rfl dL_law_356 ?_
    refine r_iload_n (pc := 357) X rfl dL_law_357 ?_
    refine r_iconst (pc := 358) (v := 1) X rfl dL_law_358 ?_
    refine r_iadd (pc := 359) X dL_law_359 ?_
    refine r_sld (pc := 360) X hXs hbl hbA (i + 1) (nI_add i 1) (by omega) (by omega) dL_law_360 ?_
    refine r_i2c (pc := 361) X dL_law_361 ?_
    refine ca_L_49 (pc := 362) X (c_X9_type h60 h7 _) mW_0 rfl rfl rfl dL_law_362 (fun r362 M362 hp362 => ?_)
    obtain ⟨rfl, em⟩ := hp362
    first | rw [if_pos hz] at em | rw [if_neg hz] at em
    subst em
    refine bkV.eq (mx_comm hr) ?_
    refine r_icmp_eq (pc := 365) X 798 (by decide) dL_law_365 (fun q365 => ?_) (fun q365 => ?_)
    · skip
      first | exact hB _ _ _ _ _ _ _ _ _ _ _ _ _ _ _ _ (hI.type hz _) | exact hB _ _ _ _ _ _ _ _ _ _ _ _ _ _ _ _ hI
    · skip
      exact absurd rfl q365

set_option maxHeartbeats 800000 in
set_option maxRecDepth 100000 in
theorem lc_clearText {E : bkEnv} {G : bkG} {x r b i Ls : Nat} {xs : Nat → Int32} {M : bkM} (X : bkX E G RL cL_law 8 ret room_1) (hXs : va_X b Ls xs (eS E) (eS E).heap) (hbl : b < (eS E).heap.size) (hbA : ¬ bkA G b) (hL : Ls ≤ 2560) (hr : x + 185 ≤ r) (hi : i + 5 ≤ Ls) (hB : LB E G x r b i M) {S O : Nat → Nat → Int32} {od : Nat → Nat} {np : Nat} {kp : Int32} {t : Nat → Int32} {len : Nat} {pc pl : Int32} {pf : Nat → Nat → Int32} {s a p q o f : Nat → Int32} (hI : LI S O od np kp t len s p q f) (hs : S 0 = s) : bkV E G (fun z => z = r + 7) 192 3411 (xW G x S O od (nI np) kp t (nI len) pc pl pf (mW G M r s a p q t o f)) 370 [some (.ref b), some (.ref x), some (.ref r), some (.int (nI i)), none, none, none, none] [] := by
  subst hs
  obtain ⟨h1, ⟨n, hk⟩, ⟨hnp, h0, hf3⟩, ⟨h7, h60, ht⟩, h5, h6⟩ := id hI
  refine r_aload_n (pc := 370) X rfl dL_law_370 ?_
  refine ca_L_50 (pc := 371) X (c_X8_clearText) xW_o rfl rfl rfl dL_law_371 (fun r371 M371 hp371 => ?_)
  obtain ⟨rfl, rfl⟩ := hp371
  refine bkV.eq (mx_comm hr).symm ?_
  refine r_aload_n (pc := 374) X rfl dL_law_374 ?_
  refine ca_L_53 (pc := 375) X (c_X9_clearText) mW_0 rfl rfl rfl dL_law_375 (fun r375 M375 hp375 => ?_)
  obtain ⟨rfl, rfl⟩ := hp375
  refine bkV.eq (mx_comm hr) ?_
  refine r_icmp_eq (pc := 378) X 798 (by decide) dL_law_378 (fun q378 => ?_) (fun q378 => ?_)
  · skip
    exact hB _ _ _ _ _ _ _ _ _ _ _ _ _ _ _ _ hI.clear
  · skip
    exact absurd h7.symm q378

set_option maxHeartbeats 800000 in
set_option maxRecDepth 100000 in
theorem lc_fault {E : bkEnv} {G : bkG} {x r b i Ls : Nat} {xs : Nat → Int32} {M : bkM} (X : bkX E G RL cL_law 8 ret room_1) (hXs : va_X b Ls xs (eS E) (eS E).heap) (hbl : b < (eS E).heap.size) (hbA : ¬ bkA G b) (hL : Ls ≤ 2560) (hr : x + 185 ≤ r) (hi : i + 5 ≤ Ls) (hB : LB E G x r b i M) {S O : Nat → Nat → Int32} {od : Nat → Nat} {np : Nat} {kp : Int32} {t : Nat → Int32} {len : Nat} {pc pl : Int32} {pf : Nat → Nat → Int32} {s a p q o f : Nat → Int32} (hI : LI S O od np kp t len s p q f) (hs : S 0 = s) : bkV E G (fun z => z = r + 7) 192 3411 (xW G x S O od (nI np) kp t (nI len) pc pl pf (mW G M r s a p q t o f)) 383 [some (.ref b), some (.ref x), some (.ref r), some (.int (nI i)), none, none, none, none] [] := by
  subst hs
  obtain ⟨h1, ⟨n, hk⟩, ⟨hnp, h0, hf3⟩, ⟨h7, h60, ht⟩, h5, h6⟩ := id hI
  refine r_aload_n (pc := 383) X rfl dL_law_383 ?_
  refine ca_L_54 (pc := 384) X (c_X8_fault h60 ht) xW_o rfl rfl rfl dL_law_384 (fun r384 M384 hp384 => ?_)
  obtain ⟨rfl, pc2, pl2, pf2, rfl⟩ := hp384
  refine bkV.eq (mx_comm hr).symm ?_
  refine r_aload_n (pc := 387) X rfl dL_law_387 ?_
  refine ca_L_57 (pc := 388) X (c_X9_fault h7 h60) mW_0 rfl rfl rfl dL_law_388 (fun r388 M388 hp388 => ?_)
  obtain ⟨rfl, l2, u2, v2, w2, rfl⟩ := hp388
  refine bkV.eq (mx_comm hr) ?_
  refine r_icmp_eq (pc := 391) X 798 (by decide) dL_law_391 (fun q391 => ?_) (fun q391 => ?_)
  · skip
    exact hB _ _ _ _ _ _ _ _ _ _ _ _ _ _ _ _ hI.ff
  · skip
    exact absurd rfl q391

set_option maxHeartbeats 800000 in
set_option maxRecDepth 100000 in
theorem lc_undo {E : bkEnv} {G : bkG} {x r b i Ls : Nat} {xs : Nat → Int32} {M : bkM} (X : bkX E G RL cL_law 8 ret room_1) (hXs : va_X b Ls xs (eS E) (eS E).heap) (hbl : b < (eS E).heap.size) (hbA : ¬ bkA G b) (hL : Ls ≤ 2560) (hr : x + 185 ≤ r) (hi : i + 5 ≤ Ls) (hB : LB E G x r b i M) {S O : Nat → Nat → Int32} {od : Nat → Nat} {np : Nat} {kp : Int32} {t : Nat → Int32} {len : Nat} {pc pl : Int32} {pf : Nat → Nat → Int32} {s a p q o f : Nat → Int32} (hI : LI S O od np kp t len s p q f) (hs : S 0 = s) : bkV E G (fun z => z = r + 7) 192 3411 (xW G x S O od (nI np) kp t (nI len) pc pl pf (mW G M r s a p q t o f)) 396 [some (.ref b), some (.ref x), some (.ref r), some (.int (nI i)), none, none, none, none] [] := by
  subst hs
  obtain ⟨h1, ⟨n, hk⟩, ⟨hnp, h0, hf3⟩, ⟨h7, h60, ht⟩, h5, h6⟩ := id hI
  by_cases hz : np = 0
  · skip
    refine r_aload_n (pc := 396) X rfl dL_law_396 ?_
    refine ca_L_58 (pc := 397) X (c_X8_undo hnp h0) xW_o rfl rfl rfl dL_law_397 (fun r397 M397 hp397 => ?_)
    obtain ⟨rfl, em⟩ := hp397
    first | rw [if_pos hz] at em | rw [if_neg hz] at em
    subst em
    refine bkV.eq (mx_comm hr).symm ?_
    refine r_aload_n (pc := 400) X rfl dL_law_400 ?_
    refine ca_L_61 (pc := 401) X (c_X9_undo hnp hf3) mW_0 rfl rfl rfl dL_law_401 (fun r401 M401 hp401 => ?_)
    obtain ⟨rfl, em⟩ := hp401
    first | rw [if_pos hz] at em | rw [if_neg hz] at em
    subst em
    refine bkV.eq (mx_comm hr) ?_
    refine r_icmp_eq (pc := 404) X 798 (by decide) dL_law_404 (fun q404 => ?_) (fun q404 => ?_)
    · skip
      first | exact hB _ _ _ _ _ _ _ _ _ _ _ _ _ _ _ _ hI | (obtain ⟨n1, rfl⟩ : ∃ n1, np = n1 + 1 := ⟨np - 1, by omega⟩; simp only [Nat.add_sub_cancel]; exact hB _ _ _ _ _ _ _ _ _ _ _ _ _ _ _ _ hI.undo)
    · skip
      exact absurd rfl q404
  · skip
    refine r_aload_n (pc := 396) X rfl dL_law_396 ?_
    refine ca_L_58 (pc := 397) X (c_X8_undo hnp h0) xW_o rfl rfl rfl dL_law_397 (fun r397 M397 hp397 => ?_)
    obtain ⟨rfl, em⟩ := hp397
    first | rw [if_pos hz] at em | rw [if_neg hz] at em
    subst em
    refine bkV.eq (mx_comm hr).symm ?_
    refine r_aload_n (pc := 400) X rfl dL_law_400 ?_
    refine ca_L_61 (pc := 401) X (c_X9_undo hnp hf3) mW_0 rfl rfl rfl dL_law_401 (fun r401 M401 hp401 => ?_)
    obtain ⟨rfl, em⟩ := hp401
    first | rw [if_pos hz] at em | rw [if_neg hz] at em
    subst em
    refine bkV.eq (mx_comm hr) ?_
    refine r_icmp_eq (pc := 404) X 798 (by decide) dL_law_404 (fun q404 => ?_) (fun q404 => ?_)
    · skip
      first | exact hB _ _ _ _ _ _ _ _ _ _ _ _ _ _ _ _ hI | (obtain ⟨n1, rfl⟩ : ∃ n1, np = n1 + 1 := ⟨np - 1, by omega⟩; simp only [Nat.add_sub_cancel]; exact hB _ _ _ _ _ _ _ _ _ _ _ _ _ _ _ _ hI.undo)
    · skip
      exact absurd rfl q404

set_option maxHeartbeats 800000 in
set_option maxRecDepth 100000 in
theorem lc_keep {E : bkEnv} {G : bkG} {x r b i Ls : Nat} {xs : Nat → Int32} {M : bkM} (X : bkX E G RL cL_law 8 ret room_1) (hXs : va_X b Ls xs (eS E) (eS E).heap) (hbl : b < (eS E).heap.size) (hbA : ¬ bkA G b) (hL : Ls ≤ 2560) (hr : x + 185 ≤ r) (hi : i + 5 ≤ Ls) (hB : LB E G x r b i M) {S O : Nat → Nat → Int32} {od : Nat → Nat} {np : Nat} {kp : Int32} {t : Nat → Int32} {len : Nat} {pc pl : Int32} {pf : Nat → Nat → Int32} {s a p q o f : Nat → Int32} (hI : LI S O od np kp t len s p q f) (hs : S 0 = s) : bkV E G (fun z => z = r + 7) 192 3411 (xW G x S O od (nI np) kp t (nI len) pc pl pf (mW G M r s a p q t o f)) 409 [some (.ref b), some (.ref x), some (.ref r), some (.int (nI i)), none, none, none, none] [] := by
  subst hs
  obtain ⟨h1, ⟨n, hk⟩, ⟨hnp, h0, hf3⟩, ⟨h7, h60, ht⟩, h5, h6⟩ := id hI
  refine r_aload_n (pc := 409) X rfl dL_law_409 ?_
  refine ca_L_62 (pc := 410) X (c_X8_keep) xW_o rfl rfl rfl dL_law_410 (fun r410 M410 hp410 => ?_)
  obtain ⟨rfl, rfl⟩ := hp410
  refine bkV.eq (mx_comm hr).symm ?_
  refine r_aload_n (pc := 413) X rfl dL_law_413 ?_
  refine ca_L_65 (pc := 414) X (c_X9_keep) mW_0 rfl rfl rfl dL_law_414 (fun r414 M414 hp414 => ?_)
  obtain ⟨rfl, rfl⟩ := hp414
  refine bkV.eq (mx_comm hr) ?_
  refine r_icmp_eq (pc := 417) X 798 (by decide) dL_law_417 (fun q417 => ?_) (fun q417 => ?_)
  · skip
    exact hB _ _ _ _ _ _ _ _ _ _ _ _ _ _ _ _ (hI.keep rfl)
  · skip
    exact absurd rfl q417

set_option maxHeartbeats 800000 in
set_option maxRecDepth 100000 in
theorem lc_restore {E : bkEnv} {G : bkG} {x r b i Ls : Nat} {xs : Nat → Int32} {M : bkM} (X : bkX E G RL cL_law 8 ret room_1) (hXs : va_X b Ls xs (eS E) (eS E).heap) (hbl : b < (eS E).heap.size) (hbA : ¬ bkA G b) (hL : Ls ≤ 2560) (hr : x + 185 ≤ r) (hi : i + 5 ≤ Ls) (hB : LB E G x r b i M) {S O : Nat → Nat → Int32} {od : Nat → Nat} {np : Nat} {kp : Int32} {t : Nat → Int32} {len : Nat} {pc pl : Int32} {pf : Nat → Nat → Int32} {s a p q o f : Nat → Int32} (hI : LI S O od np kp t len s p q f) (hs : S 0 = s) : bkV E G (fun z => z = r + 7) 192 3411 (xW G x S O od (nI np) kp t (nI len) pc pl pf (mW G M r s a p q t o f)) 422 [some (.ref b), some (.ref x), some (.ref r), some (.int (nI i)), none, none, none, none] [] := by
  subst hs
  obtain ⟨h1, ⟨n, hk⟩, ⟨hnp, h0, hf3⟩, ⟨h7, h60, ht⟩, h5, h6⟩ := id hI
  have e1 : (jRest (S 2) kp).1 = (jRest q (f 5)).1 := by
    rw [h6.1]
    unfold jRest
    split
    · rfl
    · rename_i hz
      exact ((h6.2 hz).1 181 (by omega)).symm
  refine r_aload_n (pc := 422) X rfl dL_law_422 ?_
  refine ca_L_66 (pc := 423) X (c_X8_restore hnp h0 (fun z => (h6.2 z).2)) xW_o rfl rfl rfl dL_law_423 (fun r423 M423 hp423 => ?_)
  obtain ⟨rfl, go, rfl, hgo⟩ := hp423
  refine bkV.eq (xA_comm hr).symm ?_
  refine r_aload_n (pc := 426) X rfl dL_law_426 ?_
  refine ca_L_69 (pc := 427) X (c_X9_restore hnp hf3) mW_0 rfl rfl rfl dL_law_427 (fun r427 M427 hp427 => ?_)
  obtain ⟨rfl, o2, rfl⟩ := hp427
  refine bkV.eq (xAct_comm hr) ?_
  refine r_icmp_eq (pc := 430) X 798 (by decide) dL_law_430 (fun q430 => ?_) (fun q430 => ?_)
  · skip
    by_cases hz : kp = 0
    · have e2 : jRest (S 2) kp = (-5, none) := if_pos hz
      have e3 : jRest q (f 5) = (-5, none) := if_pos (by rw [h6.1]; exact hz)
      rw [e2, e3]
      exact hB _ _ _ _ _ _ _ _ _ _ _ _ _ _ _ _ hI
    · have e2 : jRest (S 2) kp = (S 2 181, some (S 2)) := if_neg hz
      have e3 : jRest q (f 5) = (q 181, some q) := if_neg (by rw [h6.1]; exact hz)
      rw [e2]
      rw [e2] at hgo
      rw [e3]
      exact law_act2 hB hI rfl (h6.2 hz).1 (hgo _ rfl)
  · skip
    exact absurd e1 q430

set_option maxHeartbeats 800000 in
set_option maxRecDepth 100000 in
theorem lc_cellOf {E : bkEnv} {G : bkG} {x r b i Ls : Nat} {xs : Nat → Int32} {M : bkM} (X : bkX E G RL cL_law 8 ret room_1) (hXs : va_X b Ls xs (eS E) (eS E).heap) (hbl : b < (eS E).heap.size) (hbA : ¬ bkA G b) (hL : Ls ≤ 2560) (hr : x + 185 ≤ r) (hi : i + 5 ≤ Ls) (hB : LB E G x r b i M) {S O : Nat → Nat → Int32} {od : Nat → Nat} {np : Nat} {kp : Int32} {t : Nat → Int32} {len : Nat} {pc pl : Int32} {pf : Nat → Nat → Int32} {s a p q o f : Nat → Int32} (hI : LI S O od np kp t len s p q f) (hs : S 0 = s) : bkV E G (fun z => z = r + 7) 192 3411 (xW G x S O od (nI np) kp t (nI len) pc pl pf (mW G M r s a p q t o f)) 435 [some (.ref b), some (.ref x), some (.ref r), some (.int (nI i)), none, none, none, none] [] := by
  subst hs
  obtain ⟨h1, ⟨n, hk⟩, ⟨hnp, h0, hf3⟩, ⟨h7, h60, ht⟩, h5, h6⟩ := id hI
  refine r_aload_n (pc := 435) X rfl dL_law_435 ?_
  refine r_aload_n (pc := 436) X rfl dL_law_436 ?_
  refine r_iload_n (pc := 437) X rfl dL_law_437 ?_
  refine r_iconst (pc := 438) (v := 1) X rfl dL_law_438 ?_
  refine r_iadd (pc := 439) X dL_law_439 ?_
  refine r_sld (pc := 440) X hXs hbl hbA (i + 1) (nI_add i 1) (by omega) (by omega) dL_law_440 ?_
  refine r_aload_n (pc := 441) X rfl dL_law_441 ?_
  refine r_iload_n (pc := 442) X rfl dL_law_442 ?_
  refine r_iconst (pc := 443) (v := 2) X rfl dL_law_443 ?_
  refine r_iadd (pc := 444) X dL_law_444 ?_
  refine r_sld (pc := 445) X hXs hbl hbA (i + 2) (nI_add i 2) (by omega) (by omega) dL_law_445 ?_
  refine ca_L_70 (pc := 446) X (c_X8_cellOf hk (xs (i + 1)) (xs (i + 2))) xW_o rfl rfl rfl dL_law_446 (fun r446 M446 hp446 => ?_)
  obtain ⟨rfl, rfl⟩ := hp446
  refine bkV.eq (mx_comm hr).symm ?_
  refine r_aload_n (pc := 449) X rfl dL_law_449 ?_
  refine r_aload_n (pc := 450) X rfl dL_law_450 ?_
  refine r_iload_n (pc := 451) X rfl dL_law_451 ?_
  refine r_iconst (pc := 452) (v := 1) X rfl dL_law_452 ?_
  refine r_iadd (pc := 453) X dL_law_453 ?_
  refine r_sld (pc := 454) X hXs hbl hbA (i + 1) (nI_add i 1) (by omega) (by omega) dL_law_454 ?_
  refine r_aload_n (pc := 455) X rfl dL_law_455 ?_
  refine r_iload_n (pc := 456) X rfl dL_law_456 ?_
  refine r_iconst (pc := 457) (v := 2) X rfl dL_law_457 ?_
  refine r_iadd (pc := 458) X dL_law_458 ?_
  refine r_sld (pc := 459) X hXs hbl hbA (i + 2) (nI_add i 2) (by omega) (by omega) dL_law_459 ?_
  refine ca_L_73 (pc := 460) X (c_X9_cellOf hk.1 (xs (i + 1)) (xs (i + 2))) mW_0 rfl rfl rfl dL_law_460 (fun r460 M460 hp460 => ?_)
  obtain ⟨rfl, rfl⟩ := hp460
  refine bkV.eq (mx_comm hr) ?_
  refine r_icmp_eq (pc := 463) X 798 (by decide) dL_law_463 (fun q463 => ?_) (fun q463 => ?_)
  · skip
    exact hB _ _ _ _ _ _ _ _ _ _ _ _ _ _ _ _ hI
  · skip
    exact absurd rfl q463

set_option maxHeartbeats 800000 in
set_option maxRecDepth 100000 in
theorem lc_lightOf {E : bkEnv} {G : bkG} {x r b i Ls : Nat} {xs : Nat → Int32} {M : bkM} (X : bkX E G RL cL_law 8 ret room_1) (hXs : va_X b Ls xs (eS E) (eS E).heap) (hbl : b < (eS E).heap.size) (hbA : ¬ bkA G b) (hL : Ls ≤ 2560) (hr : x + 185 ≤ r) (hi : i + 5 ≤ Ls) (hB : LB E G x r b i M) {S O : Nat → Nat → Int32} {od : Nat → Nat} {np : Nat} {kp : Int32} {t : Nat → Int32} {len : Nat} {pc pl : Int32} {pf : Nat → Nat → Int32} {s a p q o f : Nat → Int32} (hI : LI S O od np kp t len s p q f) (hs : S 0 = s) : bkV E G (fun z => z = r + 7) 192 3411 (xW G x S O od (nI np) kp t (nI len) pc pl pf (mW G M r s a p q t o f)) 468 [some (.ref b), some (.ref x), some (.ref r), some (.int (nI i)), none, none, none, none] [] := by
  subst hs
  obtain ⟨h1, ⟨n, hk⟩, ⟨hnp, h0, hf3⟩, ⟨h7, h60, ht⟩, h5, h6⟩ := id hI
  refine r_aload_n (pc := 468) X rfl dL_law_468 ?_
  refine r_aload_n (pc := 469) X rfl dL_law_469 ?_
  refine r_iload_n (pc := 470) X rfl dL_law_470 ?_
  refine r_iconst (pc := 471) (v := 1) X rfl dL_law_471 ?_
  refine r_iadd (pc := 472) X dL_law_472 ?_
  refine r_sld (pc := 473) X hXs hbl hbA (i + 1) (nI_add i 1) (by omega) (by omega) dL_law_473 ?_
  refine r_aload_n (pc := 474) X rfl dL_law_474 ?_
  refine r_iload_n (pc := 475) X rfl dL_law_475 ?_
  refine r_iconst (pc := 476) (v := 2) X rfl dL_law_476 ?_
  refine r_iadd (pc := 477) X dL_law_477 ?_
  refine r_sld (pc := 478) X hXs hbl hbA (i + 2) (nI_add i 2) (by omega) (by omega) dL_law_478 ?_
  refine ca_L_74 (pc := 479) X (c_X8_lightOf hk (xs (i + 1)) (xs (i + 2))) xW_o rfl rfl rfl dL_law_479 (fun r479 M479 hp479 => ?_)
  obtain ⟨rfl, rfl⟩ := hp479
  refine bkV.eq (mx_comm hr).symm ?_
  refine r_aload_n (pc := 482) X rfl dL_law_482 ?_
  refine r_aload_n (pc := 483) X rfl dL_law_483 ?_
  refine r_iload_n (pc := 484) X rfl dL_law_484 ?_
  refine r_iconst (pc := 485) (v := 1) X rfl dL_law_485 ?_
  refine r_iadd (pc := 486) X dL_law_486 ?_
  refine r_sld (pc := 487) X hXs hbl hbA (i + 1) (nI_add i 1) (by omega) (by omega) dL_law_487 ?_
  refine r_aload_n (pc := 488) X rfl dL_law_488 ?_
  refine r_iload_n (pc := 489) X rfl dL_law_489 ?_
  refine r_iconst (pc := 490) (v := 2) X rfl dL_law_490 ?_
  refine r_iadd (pc := 491) X dL_law_491 ?_
  refine r_sld (pc := 492) X hXs hbl hbA (i + 2) (nI_add i 2) (by omega) (by omega) dL_law_492 ?_
  refine ca_L_77 (pc := 493) X (c_X9_lightOf (xs (i + 1)) (xs (i + 2))) mW_0 rfl rfl rfl dL_law_493 (fun r493 M493 hp493 => ?_)
  obtain ⟨rfl, rfl⟩ := hp493
  refine bkV.eq (mx_comm hr) ?_
  refine r_icmp_eq (pc := 496) X 798 (by decide) dL_law_496 (fun q496 => ?_) (fun q496 => ?_)
  · skip
    exact hB _ _ _ _ _ _ _ _ _ _ _ _ _ _ _ _ hI
  · skip
    exact absurd rfl q496

set_option maxHeartbeats 800000 in
set_option maxRecDepth 100000 in
theorem lc_keeperOf {E : bkEnv} {G : bkG} {x r b i Ls : Nat} {xs : Nat → Int32} {M : bkM} (X : bkX E G RL cL_law 8 ret room_1) (hXs : va_X b Ls xs (eS E) (eS E).heap) (hbl : b < (eS E).heap.size) (hbA : ¬ bkA G b) (hL : Ls ≤ 2560) (hr : x + 185 ≤ r) (hi : i + 5 ≤ Ls) (hB : LB E G x r b i M) {S O : Nat → Nat → Int32} {od : Nat → Nat} {np : Nat} {kp : Int32} {t : Nat → Int32} {len : Nat} {pc pl : Int32} {pf : Nat → Nat → Int32} {s a p q o f : Nat → Int32} (hI : LI S O od np kp t len s p q f) (hs : S 0 = s) : bkV E G (fun z => z = r + 7) 192 3411 (xW G x S O od (nI np) kp t (nI len) pc pl pf (mW G M r s a p q t o f)) 501 [some (.ref b), some (.ref x), some (.ref r), some (.int (nI i)), none, none, none, none] [] := by
  subst hs
  obtain ⟨h1, ⟨n, hk⟩, ⟨hnp, h0, hf3⟩, ⟨h7, h60, ht⟩, h5, h6⟩ := id hI
  refine r_aload_n (pc := 501) X rfl dL_law_501 ?_
  refine r_aload_n (pc := 502) X rfl dL_law_502 ?_
  refine r_iload_n (pc := 503) X rfl dL_law_503 ?_
  refine r_iconst (pc := 504) (v := 1) X rfl dL_law_504 ?_
  refine r_iadd (pc := 505) X dL_law_505 ?_
  refine r_sld (pc := 506) X hXs hbl hbA (i + 1) (nI_add i 1) (by omega) (by omega) dL_law_506 ?_
  refine r_aload_n (pc := 507) X rfl dL_law_507 ?_
  refine r_iload_n (pc := 508) X rfl dL_law_508 ?_
  refine r_iconst (pc := 509) (v := 2) X rfl dL_law_509 ?_
  refine r_iadd (pc := 510) X dL_law_510 ?_
  refine r_sld (pc := 511) X hXs hbl hbA (i + 2) (nI_add i 2) (by omega) (by omega) dL_law_511 ?_
  refine ca_L_78 (pc := 512) X (c_X8_keeperOf hk (xs (i + 1)) (xs (i + 2))) xW_o rfl rfl rfl dL_law_512 (fun r512 M512 hp512 => ?_)
  obtain ⟨rfl, rfl⟩ := hp512
  refine bkV.eq (mx_comm hr).symm ?_
  refine r_aload_n (pc := 515) X rfl dL_law_515 ?_
  refine r_aload_n (pc := 516) X rfl dL_law_516 ?_
  refine r_iload_n (pc := 517) X rfl dL_law_517 ?_
  refine r_iconst (pc := 518) (v := 1) X rfl dL_law_518 ?_
  refine r_iadd (pc := 519) X dL_law_519 ?_
  refine r_sld (pc := 520) X hXs hbl hbA (i + 1) (nI_add i 1) (by omega) (by omega) dL_law_520 ?_
  refine r_aload_n (pc := 521) X rfl dL_law_521 ?_
  refine r_iload_n (pc := 522) X rfl dL_law_522 ?_
  refine r_iconst (pc := 523) (v := 2) X rfl dL_law_523 ?_
  refine r_iadd (pc := 524) X dL_law_524 ?_
  refine r_sld (pc := 525) X hXs hbl hbA (i + 2) (nI_add i 2) (by omega) (by omega) dL_law_525 ?_
  refine ca_L_81 (pc := 526) X (c_X9_keeperOf (xs (i + 1)) (xs (i + 2))) mW_0 rfl rfl rfl dL_law_526 (fun r526 M526 hp526 => ?_)
  obtain ⟨rfl, rfl⟩ := hp526
  refine bkV.eq (mx_comm hr) ?_
  refine r_icmp_eq (pc := 529) X 798 (by decide) dL_law_529 (fun q529 => ?_) (fun q529 => ?_)
  · skip
    exact hB _ _ _ _ _ _ _ _ _ _ _ _ _ _ _ _ hI
  · skip
    exact absurd rfl q529

set_option maxHeartbeats 800000 in
set_option maxRecDepth 100000 in
theorem lc_shipOf {E : bkEnv} {G : bkG} {x r b i Ls : Nat} {xs : Nat → Int32} {M : bkM} (X : bkX E G RL cL_law 8 ret room_1) (hXs : va_X b Ls xs (eS E) (eS E).heap) (hbl : b < (eS E).heap.size) (hbA : ¬ bkA G b) (hL : Ls ≤ 2560) (hr : x + 185 ≤ r) (hi : i + 5 ≤ Ls) (hB : LB E G x r b i M) {S O : Nat → Nat → Int32} {od : Nat → Nat} {np : Nat} {kp : Int32} {t : Nat → Int32} {len : Nat} {pc pl : Int32} {pf : Nat → Nat → Int32} {s a p q o f : Nat → Int32} (hI : LI S O od np kp t len s p q f) (hs : S 0 = s) : bkV E G (fun z => z = r + 7) 192 3411 (xW G x S O od (nI np) kp t (nI len) pc pl pf (mW G M r s a p q t o f)) 534 [some (.ref b), some (.ref x), some (.ref r), some (.int (nI i)), none, none, none, none] [] := by
  subst hs
  obtain ⟨h1, ⟨n, hk⟩, ⟨hnp, h0, hf3⟩, ⟨h7, h60, ht⟩, h5, h6⟩ := id hI
  refine r_aload_n (pc := 534) X rfl dL_law_534 ?_
  refine r_aload_n (pc := 535) X rfl dL_law_535 ?_
  refine r_iload_n (pc := 536) X rfl dL_law_536 ?_
  refine r_iconst (pc := 537) (v := 1) X rfl dL_law_537 ?_
  refine r_iadd (pc := 538) X dL_law_538 ?_
  refine r_sld (pc := 539) X hXs hbl hbA (i + 1) (nI_add i 1) (by omega) (by omega) dL_law_539 ?_
  refine r_aload_n (pc := 540) X rfl dL_law_540 ?_
  refine r_iload_n (pc := 541) X rfl dL_law_541 ?_
  refine r_iconst (pc := 542) (v := 2) X rfl dL_law_542 ?_
  refine r_iadd (pc := 543) X dL_law_543 ?_
  refine r_sld (pc := 544) X hXs hbl hbA (i + 2) (nI_add i 2) (by omega) (by omega) dL_law_544 ?_
  refine ca_L_82 (pc := 545) X (c_X8_shipOf hk (xs (i + 1)) (xs (i + 2))) xW_o rfl rfl rfl dL_law_545 (fun r545 M545 hp545 => ?_)
  obtain ⟨rfl, rfl⟩ := hp545
  refine bkV.eq (mx_comm hr).symm ?_
  refine r_aload_n (pc := 548) X rfl dL_law_548 ?_
  refine r_aload_n (pc := 549) X rfl dL_law_549 ?_
  refine r_iload_n (pc := 550) X rfl dL_law_550 ?_
  refine r_iconst (pc := 551) (v := 1) X rfl dL_law_551 ?_
  refine r_iadd (pc := 552) X dL_law_552 ?_
  refine r_sld (pc := 553) X hXs hbl hbA (i + 1) (nI_add i 1) (by omega) (by omega) dL_law_553 ?_
  refine r_aload_n (pc := 554) X rfl dL_law_554 ?_
  refine r_iload_n (pc := 555) X rfl dL_law_555 ?_
  refine r_iconst (pc := 556) (v := 2) X rfl dL_law_556 ?_
  refine r_iadd (pc := 557) X dL_law_557 ?_
  refine r_sld (pc := 558) X hXs hbl hbA (i + 2) (nI_add i 2) (by omega) (by omega) dL_law_558 ?_
  refine ca_L_85 (pc := 559) X (c_X9_shipOf hk.1 (xs (i + 1)) (xs (i + 2))) mW_0 rfl rfl rfl dL_law_559 (fun r559 M559 hp559 => ?_)
  obtain ⟨rfl, rfl⟩ := hp559
  refine bkV.eq (mx_comm hr) ?_
  refine r_icmp_eq (pc := 562) X 798 (by decide) dL_law_562 (fun q562 => ?_) (fun q562 => ?_)
  · skip
    exact hB _ _ _ _ _ _ _ _ _ _ _ _ _ _ _ _ hI
  · skip
    exact absurd rfl q562

set_option maxHeartbeats 800000 in
set_option maxRecDepth 100000 in
theorem lc_isLit {E : bkEnv} {G : bkG} {x r b i Ls : Nat} {xs : Nat → Int32} {M : bkM} (X : bkX E G RL cL_law 8 ret room_1) (hXs : va_X b Ls xs (eS E) (eS E).heap) (hbl : b < (eS E).heap.size) (hbA : ¬ bkA G b) (hL : Ls ≤ 2560) (hr : x + 185 ≤ r) (hi : i + 5 ≤ Ls) (hB : LB E G x r b i M) {S O : Nat → Nat → Int32} {od : Nat → Nat} {np : Nat} {kp : Int32} {t : Nat → Int32} {len : Nat} {pc pl : Int32} {pf : Nat → Nat → Int32} {s a p q o f : Nat → Int32} (hI : LI S O od np kp t len s p q f) (hs : S 0 = s) : bkV E G (fun z => z = r + 7) 192 3411 (xW G x S O od (nI np) kp t (nI len) pc pl pf (mW G M r s a p q t o f)) 567 [some (.ref b), some (.ref x), some (.ref r), some (.int (nI i)), none, none, none, none] [] := by
  subst hs
  obtain ⟨h1, ⟨n, hk⟩, ⟨hnp, h0, hf3⟩, ⟨h7, h60, ht⟩, h5, h6⟩ := id hI
  refine r_aload_n (pc := 567) X rfl dL_law_567 ?_
  refine r_aload_n (pc := 568) X rfl dL_law_568 ?_
  refine r_iload_n (pc := 569) X rfl dL_law_569 ?_
  refine r_iconst (pc := 570) (v := 1) X rfl dL_law_570 ?_
  refine r_iadd (pc := 571) X dL_law_571 ?_
  refine r_sld (pc := 572) X hXs hbl hbA (i + 1) (nI_add i 1) (by omega) (by omega) dL_law_572 ?_
  refine r_aload_n (pc := 573) X rfl dL_law_573 ?_
  refine r_iload_n (pc := 574) X rfl dL_law_574 ?_
  refine r_iconst (pc := 575) (v := 2) X rfl dL_law_575 ?_
  refine r_iadd (pc := 576) X dL_law_576 ?_
  refine r_sld (pc := 577) X hXs hbl hbA (i + 2) (nI_add i 2) (by omega) (by omega) dL_law_577 ?_
  refine r_aload_n (pc := 578) X rfl dL_law_578 ?_
  refine r_iload_n (pc := 579) X rfl dL_law_579 ?_
  refine r_iconst (pc := 580) (v := 3) X rfl dL_law_580 ?_
  refine r_iadd (pc := 581) X dL_law_581 ?_
  refine r_sld (pc := 582) X hXs hbl hbA (i + 3) (nI_add i 3) (by omega) (by omega) dL_law_582 ?_
  refine r_aload_n (pc := 583) X rfl dL_law_583 ?_
  refine r_iload_n (pc := 584) X rfl dL_law_584 ?_
  refine r_iconst (pc := 585) (v := 4) X rfl dL_law_585 ?_
  refine r_iadd (pc := 586) X dL_law_586 ?_
  refine r_sld (pc := 587) X hXs hbl hbA (i + 4) (nI_add i 4) (by omega) (by omega) dL_law_587 ?_
  refine ca_L_86 (pc := 588) X (c_X8_isLit hk (xs (i + 1)) (xs (i + 2)) (xs (i + 3)) (xs (i + 4))) xW_o rfl rfl rfl dL_law_588 (fun r588 M588 hp588 => ?_)
  obtain ⟨rfl, rfl⟩ := hp588
  refine bkV.eq (mx_comm hr).symm ?_
  refine r_aload_n (pc := 591) X rfl dL_law_591 ?_
  refine r_aload_n (pc := 592) X rfl dL_law_592 ?_
  refine r_iload_n (pc := 593) X rfl dL_law_593 ?_
  refine r_iconst (pc := 594) (v := 1) X rfl dL_law_594 ?_
  refine r_iadd (pc := 595) X dL_law_595 ?_
  refine r_sld (pc := 596) X hXs hbl hbA (i + 1) (nI_add i 1) (by omega) (by omega) dL_law_596 ?_
  refine r_aload_n (pc := 597) X rfl dL_law_597 ?_
  refine r_iload_n (pc := 598) X rfl dL_law_598 ?_
  refine r_iconst (pc := 599) (v := 2) X rfl dL_law_599 ?_
  refine r_iadd (pc := 600) X dL_law_600 ?_
  refine r_sld (pc := 601) X hXs hbl hbA (i + 2) (nI_add i 2) (by omega) (by omega) dL_law_601 ?_
  refine r_aload_n (pc := 602) X rfl dL_law_602 ?_
  refine r_iload_n (pc := 603) X rfl dL_law_603 ?_
  refine r_iconst (pc := 604) (v := 3) X rfl dL_law_604 ?_
  refine r_iadd (pc := 605) X dL_law_605 ?_
  refine r_sld (pc := 606) X hXs hbl hbA (i + 3) (nI_add i 3) (by omega) (by omega) dL_law_606 ?_
  refine r_aload_n (pc := 607) X rfl dL_law_607 ?_
  refine r_iload_n (pc := 608) X rfl dL_law_608 ?_
  refine r_iconst (pc := 609) (v := 4) X rfl dL_law_609 ?_
  refine r_iadd (pc := 610) X dL_law_610 ?_
  refine r_sld (pc := 611) X hXs hbl hbA (i + 4) (nI_add i 4) (by omega) (by omega) dL_law_611 ?_
  refine ca_L_90 (pc := 612) X (c_X9_isLit (xs (i + 1)) (xs (i + 2)) (xs (i + 3)) (xs (i + 4))) mW_0 rfl rfl rfl dL_law_612 (fun r612 M612 hp612 => ?_)
  obtain ⟨rfl, rfl⟩ := hp612
  refine bkV.eq (mx_comm hr) ?_
  refine r_icmp_eq (pc := 615) X 798 (by decide) dL_law_615 (fun q615 => ?_) (fun q615 => ?_)
  · skip
    exact hB _ _ _ _ _ _ _ _ _ _ _ _ _ _ _ _ hI
  · skip
    exact absurd rfl q615

set_option maxHeartbeats 800000 in
set_option maxRecDepth 100000 in
theorem lc_why {E : bkEnv} {G : bkG} {x r b i Ls : Nat} {xs : Nat → Int32} {M : bkM} (X : bkX E G RL cL_law 8 ret room_1) (hXs : va_X b Ls xs (eS E) (eS E).heap) (hbl : b < (eS E).heap.size) (hbA : ¬ bkA G b) (hL : Ls ≤ 2560) (hr : x + 185 ≤ r) (hi : i + 5 ≤ Ls) (hB : LB E G x r b i M) {S O : Nat → Nat → Int32} {od : Nat → Nat} {np : Nat} {kp : Int32} {t : Nat → Int32} {len : Nat} {pc pl : Int32} {pf : Nat → Nat → Int32} {s a p q o f : Nat → Int32} (hI : LI S O od np kp t len s p q f) (hs : S 0 = s) : bkV E G (fun z => z = r + 7) 192 3411 (xW G x S O od (nI np) kp t (nI len) pc pl pf (mW G M r s a p q t o f)) 620 [some (.ref b), some (.ref x), some (.ref r), some (.int (nI i)), none, none, none, none] [] := by
  subst hs
  obtain ⟨h1, ⟨n, hk⟩, ⟨hnp, h0, hf3⟩, ⟨h7, h60, ht⟩, h5, h6⟩ := id hI
  refine r_aload_n (pc := 620) X rfl dL_law_620 ?_
  refine r_aload_n (pc := 621) X rfl dL_law_621 ?_
  refine r_iload_n (pc := 622) X rfl dL_law_622 ?_
  refine r_iconst (pc := 623) (v := 1) X rfl dL_law_623 ?_
  refine r_iadd (pc := 624) X dL_law_624 ?_
  refine r_sld (pc := 625) X hXs hbl hbA (i + 1) (nI_add i 1) (by omega) (by omega) dL_law_625 ?_
  refine r_aload_n (pc := 626) X rfl dL_law_626 ?_
  refine r_iload_n (pc := 627) X rfl dL_law_627 ?_
  refine r_iconst (pc := 628) (v := 2) X rfl dL_law_628 ?_
  refine r_iadd (pc := 629) X dL_law_629 ?_
  refine r_sld (pc := 630) X hXs hbl hbA (i + 2) (nI_add i 2) (by omega) (by omega) dL_law_630 ?_
  refine ca_L_91 (pc := 631) X (c_X8_why hk (xs (i + 1)) (xs (i + 2))) xW_o rfl rfl rfl dL_law_631 (fun r631 M631 hp631 => ?_)
  obtain ⟨rfl, rfl⟩ := hp631
  refine bkV.eq (mx_comm hr).symm ?_
  refine r_aload_n (pc := 634) X rfl dL_law_634 ?_
  refine r_aload_n (pc := 635) X rfl dL_law_635 ?_
  refine r_iload_n (pc := 636) X rfl dL_law_636 ?_
  refine r_iconst (pc := 637) (v := 1) X rfl dL_law_637 ?_
  refine r_iadd (pc := 638) X dL_law_638 ?_
  refine r_sld (pc := 639) X hXs hbl hbA (i + 1) (nI_add i 1) (by omega) (by omega) dL_law_639 ?_
  refine r_aload_n (pc := 640) X rfl dL_law_640 ?_
  refine r_iload_n (pc := 641) X rfl dL_law_641 ?_
  refine r_iconst (pc := 642) (v := 2) X rfl dL_law_642 ?_
  refine r_iadd (pc := 643) X dL_law_643 ?_
  refine r_sld (pc := 644) X hXs hbl hbA (i + 2) (nI_add i 2) (by omega) (by omega) dL_law_644 ?_
  refine ca_L_94 (pc := 645) X (c_X9_why (xs (i + 1)) (xs (i + 2))) mW_0 rfl rfl rfl dL_law_645 (fun r645 M645 hp645 => ?_)
  obtain ⟨rfl, rfl⟩ := hp645
  refine bkV.eq (mx_comm hr) ?_
  refine r_icmp_eq (pc := 648) X 798 (by decide) dL_law_648 (fun q648 => ?_) (fun q648 => ?_)
  · skip
    exact hB _ _ _ _ _ _ _ _ _ _ _ _ _ _ _ _ hI
  · skip
    exact absurd rfl q648

set_option maxHeartbeats 800000 in
set_option maxRecDepth 100000 in
theorem lc_count {E : bkEnv} {G : bkG} {x r b i Ls : Nat} {xs : Nat → Int32} {M : bkM} (X : bkX E G RL cL_law 8 ret room_1) (hXs : va_X b Ls xs (eS E) (eS E).heap) (hbl : b < (eS E).heap.size) (hbA : ¬ bkA G b) (hL : Ls ≤ 2560) (hr : x + 185 ≤ r) (hi : i + 5 ≤ Ls) (hB : LB E G x r b i M) {S O : Nat → Nat → Int32} {od : Nat → Nat} {np : Nat} {kp : Int32} {t : Nat → Int32} {len : Nat} {pc pl : Int32} {pf : Nat → Nat → Int32} {s a p q o f : Nat → Int32} (hI : LI S O od np kp t len s p q f) (hs : S 0 = s) : bkV E G (fun z => z = r + 7) 192 3411 (xW G x S O od (nI np) kp t (nI len) pc pl pf (mW G M r s a p q t o f)) 653 [some (.ref b), some (.ref x), some (.ref r), some (.int (nI i)), none, none, none, none] [] := by
  subst hs
  obtain ⟨h1, ⟨n, hk⟩, ⟨hnp, h0, hf3⟩, ⟨h7, h60, ht⟩, h5, h6⟩ := id hI
  refine r_aload_n (pc := 653) X rfl dL_law_653 ?_
  refine r_aload_n (pc := 654) X rfl dL_law_654 ?_
  refine r_iload_n (pc := 655) X rfl dL_law_655 ?_
  refine r_iconst (pc := 656) (v := 1) X rfl dL_law_656 ?_
  refine r_iadd (pc := 657) X dL_law_657 ?_
  refine r_sld (pc := 658) X hXs hbl hbA (i + 1) (nI_add i 1) (by omega) (by omega) dL_law_658 ?_
  refine ca_L_95 (pc := 659) X (c_X8_count hk (xs (i + 1))) xW_o rfl rfl rfl dL_law_659 (fun r659 M659 hp659 => ?_)
  obtain ⟨rfl, rfl⟩ := hp659
  refine bkV.eq (mx_comm hr).symm ?_
  refine r_aload_n (pc := 662) X rfl dL_law_662 ?_
  refine r_aload_n (pc := 663) X rfl dL_law_663 ?_
  refine r_iload_n (pc := 664) X rfl dL_law_664 ?_
  refine r_iconst (pc := 665) (v := 1) X rfl dL_law_665 ?_
  refine r_iadd (pc := 666) X dL_law_666 ?_
  refine r_sld (pc := 667) X hXs hbl hbA (i + 1) (nI_add i 1) (by omega) (by omega) dL_law_667 ?_
  refine ca_L_98 (pc := 668) X (c_X9_count hk.1 (xs (i + 1))) mW_0 rfl rfl rfl dL_law_668 (fun r668 M668 hp668 => ?_)
  obtain ⟨rfl, rfl⟩ := hp668
  refine bkV.eq (mx_comm hr) ?_
  rw [hf3, h7]
  refine r_icmp_eq (pc := 671) X 798 (by decide) dL_law_671 (fun q671 => ?_) (fun q671 => ?_)
  · skip
    exact hB _ _ _ _ _ _ _ _ _ _ _ _ _ _ _ _ hI
  · skip
    exact absurd rfl q671

set_option maxHeartbeats 800000 in
set_option maxRecDepth 100000 in
theorem lc_share {E : bkEnv} {G : bkG} {x r b i Ls : Nat} {xs : Nat → Int32} {M : bkM} (X : bkX E G RL cL_law 8 ret room_1) (hXs : va_X b Ls xs (eS E) (eS E).heap) (hbl : b < (eS E).heap.size) (hbA : ¬ bkA G b) (hL : Ls ≤ 2560) (hr : x + 185 ≤ r) (hi : i + 5 ≤ Ls) (hB : LB E G x r b i M) {S O : Nat → Nat → Int32} {od : Nat → Nat} {np : Nat} {kp : Int32} {t : Nat → Int32} {len : Nat} {pc pl : Int32} {pf : Nat → Nat → Int32} {s a p q o f : Nat → Int32} (hI : LI S O od np kp t len s p q f) (hs : S 0 = s) : bkV E G (fun z => z = r + 7) 192 3411 (xW G x S O od (nI np) kp t (nI len) pc pl pf (mW G M r s a p q t o f)) 676 [some (.ref b), some (.ref x), some (.ref r), some (.int (nI i)), none, none, none, none] [] := by
  subst hs
  obtain ⟨h1, ⟨n, hk⟩, ⟨hnp, h0, hf3⟩, ⟨h7, h60, ht⟩, h5, h6⟩ := id hI
  refine r_aload_n (pc := 676) X rfl dL_law_676 ?_
  refine r_aload_n (pc := 677) X rfl dL_law_677 ?_
  refine r_iload_n (pc := 678) X rfl dL_law_678 ?_
  refine r_iconst (pc := 679) (v := 1) X rfl dL_law_679 ?_
  refine r_iadd (pc := 680) X dL_law_680 ?_
  refine r_sld (pc := 681) X hXs hbl hbA (i + 1) (nI_add i 1) (by omega) (by omega) dL_law_681 ?_
  refine ca_L_99 (pc := 682) X (c_X8_share hk (xs (i + 1))) xW_o rfl rfl rfl dL_law_682 (fun r682 M682 hp682 => ?_)
  obtain ⟨rfl, rfl⟩ := hp682
  refine bkV.eq (mx_comm hr).symm ?_
  refine r_f2d (pc := 685) X (shr_eq _ _).1 dL_law_685 ?_
  refine r_dstore (pc := 686) X rfl rfl dL_law_686 ?_
  refine r_aload_n (pc := 688) X rfl dL_law_688 ?_
  refine r_aload_n (pc := 689) X rfl dL_law_689 ?_
  refine r_iload_n (pc := 690) X rfl dL_law_690 ?_
  refine r_iconst (pc := 691) (v := 1) X rfl dL_law_691 ?_
  refine r_iadd (pc := 692) X dL_law_692 ?_
  refine r_sld (pc := 693) X hXs hbl hbA (i + 1) (nI_add i 1) (by omega) (by omega) dL_law_693 ?_
  refine ca_L_103 (pc := 694) X (c_X9_share (xs (i + 1))) mW_0 rfl rfl rfl dL_law_694 (fun r694 M694 hp694 => ?_)
  obtain ⟨rfl, rfl⟩ := hp694
  refine bkV.eq (mx_comm hr) ?_
  refine r_f2d (pc := 697) X (shr_eq _ _).1 dL_law_697 ?_
  refine r_dstore (pc := 698) X rfl rfl dL_law_698 ?_
  refine r_dload (pc := 700) X rfl dL_law_700 ?_
  refine r_dload (pc := 702) X rfl dL_law_702 ?_
  refine r_dcmp (pc := 704) X dL_law_704 ?_
  refine bk_top (shr_eq _ _).2 ?_
  refine r_if_eq (pc := 705) X 726 (by decide) dL_law_705 (fun q705 => ?_) (fun q705 => ?_)
  · skip
    refine r_goto (pc := 726) X 798 (by decide) dL_law_726 ?_
    exact bkV.drop 4 (bkV.drop 6 (hB _ _ _ _ _ _ _ _ _ _ _ _ _ _ _ _ hI))
  · skip
    exact absurd rfl q705

set_option maxHeartbeats 800000 in
set_option maxRecDepth 100000 in
theorem lc_litIn {E : bkEnv} {G : bkG} {x r b i Ls : Nat} {xs : Nat → Int32} {M : bkM} (X : bkX E G RL cL_law 8 ret room_1) (hXs : va_X b Ls xs (eS E) (eS E).heap) (hbl : b < (eS E).heap.size) (hbA : ¬ bkA G b) (hL : Ls ≤ 2560) (hr : x + 185 ≤ r) (hi : i + 5 ≤ Ls) (hB : LB E G x r b i M) {S O : Nat → Nat → Int32} {od : Nat → Nat} {np : Nat} {kp : Int32} {t : Nat → Int32} {len : Nat} {pc pl : Int32} {pf : Nat → Nat → Int32} {s a p q o f : Nat → Int32} (hI : LI S O od np kp t len s p q f) (hs : S 0 = s) : bkV E G (fun z => z = r + 7) 192 3411 (xW G x S O od (nI np) kp t (nI len) pc pl pf (mW G M r s a p q t o f)) 729 [some (.ref b), some (.ref x), some (.ref r), some (.int (nI i)), none, none, none, none] [] := by
  subst hs
  obtain ⟨h1, ⟨n, hk⟩, ⟨hnp, h0, hf3⟩, ⟨h7, h60, ht⟩, h5, h6⟩ := id hI
  refine r_aload_n (pc := 729) X rfl dL_law_729 ?_
  refine r_aload_n (pc := 730) X rfl dL_law_730 ?_
  refine r_iload_n (pc := 731) X rfl dL_law_731 ?_
  refine r_iconst (pc := 732) (v := 1) X rfl dL_law_732 ?_
  refine r_iadd (pc := 733) X dL_law_733 ?_
  refine r_sld (pc := 734) X hXs hbl hbA (i + 1) (nI_add i 1) (by omega) (by omega) dL_law_734 ?_
  refine ca_L_104 (pc := 735) X (c_X8_litIn hk (xs (i + 1))) xW_o rfl rfl rfl dL_law_735 (fun r735 M735 hp735 => ?_)
  obtain ⟨rfl, rfl⟩ := hp735
  refine bkV.eq (mx_comm hr).symm ?_
  refine r_aload_n (pc := 738) X rfl dL_law_738 ?_
  refine r_aload_n (pc := 739) X rfl dL_law_739 ?_
  refine r_iload_n (pc := 740) X rfl dL_law_740 ?_
  refine r_iconst (pc := 741) (v := 1) X rfl dL_law_741 ?_
  refine r_iadd (pc := 742) X dL_law_742 ?_
  refine r_sld (pc := 743) X hXs hbl hbA (i + 1) (nI_add i 1) (by omega) (by omega) dL_law_743 ?_
  refine ca_L_107 (pc := 744) X (c_X9_litIn (xs (i + 1))) mW_0 rfl rfl rfl dL_law_744 (fun r744 M744 hp744 => ?_)
  obtain ⟨rfl, rfl⟩ := hp744
  refine bkV.eq (mx_comm hr) ?_
  refine r_icmp_eq (pc := 747) X 798 (by decide) dL_law_747 (fun q747 => ?_) (fun q747 => ?_)
  · skip
    exact hB _ _ _ _ _ _ _ _ _ _ _ _ _ _ _ _ hI
  · skip
    exact absurd rfl q747

set_option maxHeartbeats 800000 in
set_option maxRecDepth 100000 in
theorem lc_ifPassed {E : bkEnv} {G : bkG} {x r b i Ls : Nat} {xs : Nat → Int32} {M : bkM} (X : bkX E G RL cL_law 8 ret room_1) (hXs : va_X b Ls xs (eS E) (eS E).heap) (hbl : b < (eS E).heap.size) (hbA : ¬ bkA G b) (hL : Ls ≤ 2560) (hr : x + 185 ≤ r) (hi : i + 5 ≤ Ls) (hB : LB E G x r b i M) {S O : Nat → Nat → Int32} {od : Nat → Nat} {np : Nat} {kp : Int32} {t : Nat → Int32} {len : Nat} {pc pl : Int32} {pf : Nat → Nat → Int32} {s a p q o f : Nat → Int32} (hI : LI S O od np kp t len s p q f) (hs : S 0 = s) : bkV E G (fun z => z = r + 7) 192 3411 (xW G x S O od (nI np) kp t (nI len) pc pl pf (mW G M r s a p q t o f)) 752 [some (.ref b), some (.ref x), some (.ref r), some (.int (nI i)), none, none, none, none] [] := by
  subst hs
  obtain ⟨h1, ⟨n, hk⟩, ⟨hnp, h0, hf3⟩, ⟨h7, h60, ht⟩, h5, h6⟩ := id hI
  refine r_aload_n (pc := 752) X rfl dL_law_752 ?_
  refine r_aload_n (pc := 753) X rfl dL_law_753 ?_
  refine r_iload_n (pc := 754) X rfl dL_law_754 ?_
  refine r_iconst (pc := 755) (v := 1) X rfl dL_law_755 ?_
  refine r_iadd (pc := 756) X dL_law_756 ?_
  refine r_sld (pc := 757) X hXs hbl hbA (i + 1) (nI_add i 1) (by omega) (by omega) dL_law_757 ?_
  refine ca_L_108 (pc := 758) X (c_X8_ifPassed hk (xs (i + 1))) xW_o rfl rfl rfl dL_law_758 (fun r758 M758 hp758 => ?_)
  obtain ⟨rfl, s1, g1, rfl⟩ := hp758
  refine bkV.eq (mx_comm hr).symm ?_
  refine r_aload_n (pc := 761) X rfl dL_law_761 ?_
  refine r_aload_n (pc := 762) X rfl dL_law_762 ?_
  refine r_iload_n (pc := 763) X rfl dL_law_763 ?_
  refine r_iconst (pc := 764) (v := 1) X rfl dL_law_764 ?_
  refine r_iadd (pc := 765) X dL_law_765 ?_
  refine r_sld (pc := 766) X hXs hbl hbA (i + 1) (nI_add i 1) (by omega) (by omega) dL_law_766 ?_
  refine ca_L_111 (pc := 767) X (c_X9_ifPassed hk.1 (xs (i + 1))) mW_0 rfl rfl rfl dL_law_767 (fun r767 M767 hp767 => ?_)
  obtain ⟨rfl, a2, o2, rfl⟩ := hp767
  refine bkV.eq (mx_comm hr) ?_
  refine r_icmp_eq (pc := 770) X 798 (by decide) dL_law_770 (fun q770 => ?_) (fun q770 => ?_)
  · skip
    exact hB _ _ _ _ _ _ _ _ _ _ _ _ _ _ _ _ hI.trial
  · skip
    exact absurd rfl q770

set_option maxHeartbeats 800000 in
set_option maxRecDepth 100000 in
theorem lc_bestCard {E : bkEnv} {G : bkG} {x r b i Ls : Nat} {xs : Nat → Int32} {M : bkM} (X : bkX E G RL cL_law 8 ret room_1) (hXs : va_X b Ls xs (eS E) (eS E).heap) (hbl : b < (eS E).heap.size) (hbA : ¬ bkA G b) (hL : Ls ≤ 2560) (hr : x + 185 ≤ r) (hi : i + 5 ≤ Ls) (hB : LB E G x r b i M) {S O : Nat → Nat → Int32} {od : Nat → Nat} {np : Nat} {kp : Int32} {t : Nat → Int32} {len : Nat} {pc pl : Int32} {pf : Nat → Nat → Int32} {s a p q o f : Nat → Int32} (hI : LI S O od np kp t len s p q f) (hs : S 0 = s) : bkV E G (fun z => z = r + 7) 192 3411 (xW G x S O od (nI np) kp t (nI len) pc pl pf (mW G M r s a p q t o f)) 775 [some (.ref b), some (.ref x), some (.ref r), some (.int (nI i)), none, none, none, none] [] := by
  subst hs
  obtain ⟨h1, ⟨n, hk⟩, ⟨hnp, h0, hf3⟩, ⟨h7, h60, ht⟩, h5, h6⟩ := id hI
  refine r_aload_n (pc := 775) X rfl dL_law_775 ?_
  refine r_aload_n (pc := 776) X rfl dL_law_776 ?_
  refine r_iload_n (pc := 777) X rfl dL_law_777 ?_
  refine r_iconst (pc := 778) (v := 1) X rfl dL_law_778 ?_
  refine r_iadd (pc := 779) X dL_law_779 ?_
  refine r_sld (pc := 780) X hXs hbl hbA (i + 1) (nI_add i 1) (by omega) (by omega) dL_law_780 ?_
  refine ca_L_112 (pc := 781) X (c_X8_bestCard hk (xs (i + 1))) xW_o rfl rfl rfl dL_law_781 (fun r781 M781 hp781 => ?_)
  obtain ⟨rfl, s1, g1, rfl⟩ := hp781
  refine bkV.eq (mx_comm hr).symm ?_
  refine r_aload_n (pc := 784) X rfl dL_law_784 ?_
  refine r_aload_n (pc := 785) X rfl dL_law_785 ?_
  refine r_iload_n (pc := 786) X rfl dL_law_786 ?_
  refine r_iconst (pc := 787) (v := 1) X rfl dL_law_787 ?_
  refine r_iadd (pc := 788) X dL_law_788 ?_
  refine r_sld (pc := 789) X hXs hbl hbA (i + 1) (nI_add i 1) (by omega) (by omega) dL_law_789 ?_
  refine ca_L_115 (pc := 790) X (c_X9_bestCard hk.1 (xs (i + 1))) mW_0 rfl rfl rfl dL_law_790 (fun r790 M790 hp790 => ?_)
  obtain ⟨rfl, a2, o2, rfl⟩ := hp790
  refine bkV.eq (mx_comm hr) ?_
  refine r_icmp_eq (pc := 793) X 798 (by decide) dL_law_793 (fun q793 => ?_) (fun q793 => ?_)
  · skip
    exact hB _ _ _ _ _ _ _ _ _ _ _ _ _ _ _ _ hI.trial
  · skip
    exact absurd rfl q793

