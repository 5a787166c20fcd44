/-! the law: its end, its loop, its entry -/
set_option maxHeartbeats 4000000 in
set_option maxRecDepth 100000 in
theorem lw_e1 {E : bkEnv} {G : bkG} {x : Nat} {M : bkM} {A Aq : jA} {S O : Nat → Nat → Int32} {od : Nat → Nat} {t : Nat → Int32} {len : Nat} {pc pl : Int32} {pf : Nat → Nat → Int32} {Sq Oq : Nat → Nat → Int32} {odq : Nat → Nat} {tq : Nat → Int32} {lenq : Nat} {pcq plq : Int32} {pfq : Nat → Nat → Int32} {a n : Nat} {s : Nat → Int32} {h : Nat} {v4 v5 y0 : Int32} (X : bkX E G RL cL_law 7 ret room_1) (hL : G.2.2.2.2.1 < 1000) (hO : LJ S O od t len A) (hQ : LJ Sq Oq odq tq lenq Aq) (eo : jaS A = s) (eq : jaS Aq = s) (hw : jwf s n) (hI : jI s n h) (hh : h ≤ 50000) (ha : x + 370 ≤ a) (KF : ∀ (M2 : bkM) (Z2 : Nat → Prop) (L2 : List (Option Value)), bkV E G Z2 600000 7302249 M2 375 L2 [.int 1]) : bkV E G (fun z => z = a) 415 4274 (xW G x S O od (nI (jaN A)) (jaK A) t (nI len) pc pl pf (xW G (x + 185) Sq Oq odq (nI (jaN Aq)) (jaK Aq) tq (nI lenq) pcq plq pfq M)) 235 [some (.ref (G.2.2.2.1 3)), some (.ref x), some (.ref (x + 185)), some (.int 1), some (.int v4), some (.int v5), some (.int y0)] [] := by
  refine bkV.eq hO.eq ?_
  refine bkV.eq (xx_comm (Nat.le_refl _)).symm ?_
  refine bkV.eq hQ.eq ?_
  refine bkV.eq (xx_comm (Nat.le_refl _)) ?_
  refine r_iconst (pc := 235) (v := 0) X rfl dL_law_235 ?_
  refine r_istore (pc := 236) X rfl rfl dL_law_236 ?_
  have lp238 : ∀ (d j : Nat) (y : Int32), j ≤ 4 → 4 < j + d → y = nI j → bkV E G (fun z => z = a) 415 4274 (xW G x (pfu S 0 (jaS A)) O od (nI (jaN A)) (jaK A) t (nI len) pc pl pf (xW G (x + 185) (pfu Sq 0 (jaS Aq)) Oq odq (nI (jaN Aq)) (jaK Aq) tq (nI lenq) pcq plq pfq M)) 238 [some (.ref (G.2.2.2.1 3)), some (.ref x), some (.ref (x + 185)), some (.int 1), some (.int v4), some (.int v5), some (.int y)] [] := by
    intro d
    induction d with
    | zero => intros; exfalso; omega
    | succ d ih =>
      intro j y hj hd ey
      subst ey
      refine r_iload (pc := 238) X rfl dL_law_238 ?_
      refine r_iconst (pc := 240) (v := 4) X rfl dL_law_240 ?_
      refine r_icmpN_ge (pc := 241) X 311 (j) (4) rfl rfl (by omega) (by omega) (by decide) dL_law_241 (fun q241 => ?_) (fun q241 => ?_)
      · skip
        refine r_iload_n (pc := 311) X rfl dL_law_311 ?_
        refine r_if_eq (pc := 312) X 374 (by decide) dL_law_312 (fun q312 => ?_) (fun q312 => ?_)
        · skip
          exact absurd q312 (by decide)
        · skip
          refine r_aload_n (pc := 315) X rfl dL_law_315 ?_
          refine r_iconst (pc := 316) (v := 0) X rfl dL_law_316 ?_
          refine ca_L_80 (pc := 317) X (c_X8_count (S := pfu S 0 (jaS A)) (O := O) (hO.cok2 (by rw [eo]; exact hw)) 0) xW_o (bk_rm rfl rfl (by show _ ≤ 600000; omega) (by show _ ≤ 7302249; omega)) rfl rfl dL_law_317 (fun r317 M317 hp317 => ?_)
          obtain ⟨rfl, rfl⟩ := hp317
          refine bk_top (show jcount (pfu S 0 (jaS A) 0) n (nI (jaN A)) (nI len) 0 = jcount s n (nI (jaN A)) (nI len) 0 from by rw [pfu_at, eo]) ?_
          refine bk_top cn_0 ?_
          refine r_aload_n (pc := 320) X rfl dL_law_320 ?_
          refine r_iconst (pc := 321) (v := 0) X rfl dL_law_321 ?_
          refine bkV.eq (xx_comm (Nat.le_refl _)).symm ?_
          refine ca_L_80 (pc := 322) X (c_X8_count (S := pfu Sq 0 (jaS Aq)) (O := Oq) (hQ.cok2 (by rw [eq]; exact hw)) 0) xW_o (bk_rm rfl rfl (by show _ ≤ 600000; omega) (by show _ ≤ 7302249; omega)) rfl rfl dL_law_322 (fun r322 M322 hp322 => ?_)
          obtain ⟨rfl, rfl⟩ := hp322
          refine bkV.eq (xx_comm (Nat.le_refl _)) ?_
          refine bk_top (show jcount (pfu Sq 0 (jaS Aq) 0) n (nI (jaN Aq)) (nI lenq) 0 = jcount s n (nI (jaN Aq)) (nI lenq) 0 from by rw [pfu_at, eq]) ?_
          refine bk_top cn_0 ?_
          refine r_icmp_ne (pc := 325) X 374 (by decide) dL_law_325 (fun q325 => ?_) (fun q325 => ?_)
          · skip
            exact absurd rfl q325
          · skip
            refine r_aload_n (pc := 328) X rfl dL_law_328 ?_
            refine r_iconst (pc := 329) (v := 4) X rfl dL_law_329 ?_
            refine ca_L_80 (pc := 330) X (c_X8_count (S := pfu S 0 (jaS A)) (O := O) (hO.cok2 (by rw [eo]; exact hw)) 4) xW_o (bk_rm rfl rfl (by show _ ≤ 600000; omega) (by show _ ≤ 7302249; omega)) rfl rfl dL_law_330 (fun r330 M330 hp330 => ?_)
            obtain ⟨rfl, rfl⟩ := hp330
            refine bk_top (show jcount (pfu S 0 (jaS A) 0) n (nI (jaN A)) (nI len) 4 = jcount s n (nI (jaN A)) (nI len) 4 from by rw [pfu_at, eo]) ?_
            refine bk_top (cn_4 hw.1) ?_
            refine r_aload_n (pc := 333) X rfl dL_law_333 ?_
            refine r_iconst (pc := 334) (v := 4) X rfl dL_law_334 ?_
            refine bkV.eq (xx_comm (Nat.le_refl _)).symm ?_
            refine ca_L_80 (pc := 335) X (c_X8_count (S := pfu Sq 0 (jaS Aq)) (O := Oq) (hQ.cok2 (by rw [eq]; exact hw)) 4) xW_o (bk_rm rfl rfl (by show _ ≤ 600000; omega) (by show _ ≤ 7302249; omega)) rfl rfl dL_law_335 (fun r335 M335 hp335 => ?_)
            obtain ⟨rfl, rfl⟩ := hp335
            refine bkV.eq (xx_comm (Nat.le_refl _)) ?_
            refine bk_top (show jcount (pfu Sq 0 (jaS Aq) 0) n (nI (jaN Aq)) (nI lenq) 4 = jcount s n (nI (jaN Aq)) (nI lenq) 4 from by rw [pfu_at, eq]) ?_
            refine bk_top (cn_4 hw.1) ?_
            refine r_icmp_ne (pc := 338) X 374 (by decide) dL_law_338 (fun q338 => ?_) (fun q338 => ?_)
            · skip
              exact absurd rfl q338
            · skip
              refine r_aload_n (pc := 341) X rfl dL_law_341 ?_
              refine r_bipush (pc := 342) (v := 7) X rfl dL_law_342 ?_
              refine ca_L_80 (pc := 344) X (c_X8_count (S := pfu S 0 (jaS A)) (O := O) (hO.cok2 (by rw [eo]; exact hw)) 7) xW_o (bk_rm rfl rfl (by show _ ≤ 600000; omega) (by show _ ≤ 7302249; omega)) rfl rfl dL_law_344 (fun r344 M344 hp344 => ?_)
              obtain ⟨rfl, rfl⟩ := hp344
              refine bk_top (show jcount (pfu S 0 (jaS A) 0) n (nI (jaN A)) (nI len) 7 = jcount s n (nI (jaN A)) (nI len) 7 from by rw [pfu_at, eo]) ?_
              refine bk_top cn_7 ?_
              refine r_aload_n (pc := 347) X rfl dL_law_347 ?_
              refine r_bipush (pc := 348) (v := 7) X rfl dL_law_348 ?_
              refine bkV.eq (xx_comm (Nat.le_refl _)).symm ?_
              refine ca_L_80 (pc := 350) X (c_X8_count (S := pfu Sq 0 (jaS Aq)) (O := Oq) (hQ.cok2 (by rw [eq]; exact hw)) 7) xW_o (bk_rm rfl rfl (by show _ ≤ 600000; omega) (by show _ ≤ 7302249; omega)) rfl rfl dL_law_350 (fun r350 M350 hp350 => ?_)
              obtain ⟨rfl, rfl⟩ := hp350
              refine bkV.eq (xx_comm (Nat.le_refl _)) ?_
              refine bk_top (show jcount (pfu Sq 0 (jaS Aq) 0) n (nI (jaN Aq)) (nI lenq) 7 = jcount s n (nI (jaN Aq)) (nI lenq) 7 from by rw [pfu_at, eq]) ?_
              refine bk_top cn_7 ?_
              refine r_icmp_ne (pc := 353) X 374 (by decide) dL_law_353 (fun q353 => ?_) (fun q353 => ?_)
              · skip
                exact absurd rfl q353
              · skip
                refine r_aload_n (pc := 356) X rfl dL_law_356 ?_
                refine ca_L_92 (pc := 357) X (c_L_hangs (S := pfu S 0 (jaS A)) (O := O) (hO.cok2 (by rw [eo]; exact hw)) (by rw [pfu_at, eo]; exact hI) (by omega) (by omega) hO.np.1) (bk_rm rfl rfl (by show _ ≤ 600000; omega) (by show _ ≤ 7302249; omega)) rfl rfl dL_law_357 (fun r357 M357 hp357 => ?_)
                obtain ⟨rfl, s1, g1, rfl⟩ := hp357
                refine r_if_eq (pc := 360) X 374 (by decide) dL_law_360 (fun q360 => ?_) (fun q360 => ?_)
                · skip
                  exact absurd q360 (by decide)
                · skip
                  refine r_aload_n (pc := 363) X rfl dL_law_363 ?_
                  refine bkV.eq (xx_comm (Nat.le_refl _)).symm ?_
                  refine ca_L_92 (pc := 364) X (c_L_hangs (S := pfu Sq 0 (jaS Aq)) (O := Oq) (hQ.cok2 (by rw [eq]; exact hw)) (by rw [pfu_at, eq]; exact hI) (by omega) (by omega) hQ.np.1) (bk_rm rfl rfl (by show _ ≤ 600000; omega) (by show _ ≤ 7302249; omega)) rfl rfl dL_law_364 (fun r364 M364 hp364 => ?_)
                  obtain ⟨rfl, s2, g2, rfl⟩ := hp364
                  refine r_if_eq (pc := 367) X 374 (by decide) dL_law_367 (fun q367 => ?_) (fun q367 => ?_)
                  · skip
                    exact absurd q367 (by decide)
                  · skip
                    refine r_iconst (pc := 370) (v := 1) X rfl dL_law_370 ?_
                    refine r_goto (pc := 371) X 375 (by decide) dL_law_371 ?_
                    exact bkV.widen (by omega) (by omega) (KF _ _ _)
      · skip
        refine r_iload_n (pc := 244) X rfl dL_law_244 ?_
        refine r_if_eq (pc := 245) X 311 (by decide) dL_law_245 (fun q245 => ?_) (fun q245 => ?_)
        · skip
          exact absurd q245 (by decide)
        · skip
          refine r_aload_n (pc := 248) X rfl dL_law_248 ?_
          refine r_iload (pc := 249) X rfl dL_law_249 ?_
          refine r_iconst (pc := 251) (v := 0) X rfl dL_law_251 ?_
          refine ca_L_74 (pc := 252) X (c_X8_keeperOf (S := pfu S 0 (jaS A)) (O := O) (hO.cok2 (by rw [eo]; exact hw)) (nI j) 0) xW_o (bk_rm rfl rfl (by show _ ≤ 600000; omega) (by show _ ≤ 7302249; omega)) rfl rfl dL_law_252 (fun r252 M252 hp252 => ?_)
          obtain ⟨rfl, rfl⟩ := hp252
          refine bk_top (show jkeeperOf (pfu S 0 (jaS A) 0) (nI j) 0 = jkeeperOf s (nI j) 0 from by rw [pfu_at, eo]) ?_
          refine r_aload_n (pc := 255) X rfl dL_law_255 ?_
          refine r_iload (pc := 256) X rfl dL_law_256 ?_
          refine r_iconst (pc := 258) (v := 0) X rfl dL_law_258 ?_
          refine bkV.eq (xx_comm (Nat.le_refl _)).symm ?_
          refine ca_L_74 (pc := 259) X (c_X8_keeperOf (S := pfu Sq 0 (jaS Aq)) (O := Oq) (hQ.cok2 (by rw [eq]; exact hw)) (nI j) 0) xW_o (bk_rm rfl rfl (by show _ ≤ 600000; omega) (by show _ ≤ 7302249; omega)) rfl rfl dL_law_259 (fun r259 M259 hp259 => ?_)
          obtain ⟨rfl, rfl⟩ := hp259
          refine bkV.eq (xx_comm (Nat.le_refl _)) ?_
          refine bk_top (show jkeeperOf (pfu Sq 0 (jaS Aq) 0) (nI j) 0 = jkeeperOf s (nI j) 0 from by rw [pfu_at, eq]) ?_
          refine r_icmp_ne (pc := 262) X 303 (by decide) dL_law_262 (fun q262 => ?_) (fun q262 => ?_)
          · skip
            exact absurd rfl q262
          · skip
            refine r_aload_n (pc := 265) X rfl dL_law_265 ?_
            refine r_iload (pc := 266) X rfl dL_law_266 ?_
            refine r_iconst (pc := 268) (v := 1) X rfl dL_law_268 ?_
            refine ca_L_74 (pc := 269) X (c_X8_keeperOf (S := pfu S 0 (jaS A)) (O := O) (hO.cok2 (by rw [eo]; exact hw)) (nI j) 1) xW_o (bk_rm rfl rfl (by show _ ≤ 600000; omega) (by show _ ≤ 7302249; omega)) rfl rfl dL_law_269 (fun r269 M269 hp269 => ?_)
            obtain ⟨rfl, rfl⟩ := hp269
            refine bk_top (show jkeeperOf (pfu S 0 (jaS A) 0) (nI j) 1 = jkeeperOf s (nI j) 1 from by rw [pfu_at, eo]) ?_
            refine r_aload_n (pc := 272) X rfl dL_law_272 ?_
            refine r_iload (pc := 273) X rfl dL_law_273 ?_
            refine r_iconst (pc := 275) (v := 1) X rfl dL_law_275 ?_
            refine bkV.eq (xx_comm (Nat.le_refl _)).symm ?_
            refine ca_L_74 (pc := 276) X (c_X8_keeperOf (S := pfu Sq 0 (jaS Aq)) (O := Oq) (hQ.cok2 (by rw [eq]; exact hw)) (nI j) 1) xW_o (bk_rm rfl rfl (by show _ ≤ 600000; omega) (by show _ ≤ 7302249; omega)) rfl rfl dL_law_276 (fun r276 M276 hp276 => ?_)
            obtain ⟨rfl, rfl⟩ := hp276
            refine bkV.eq (xx_comm (Nat.le_refl _)) ?_
            refine bk_top (show jkeeperOf (pfu Sq 0 (jaS Aq) 0) (nI j) 1 = jkeeperOf s (nI j) 1 from by rw [pfu_at, eq]) ?_
            refine r_icmp_ne (pc := 279) X 303 (by decide) dL_law_279 (fun q279 => ?_) (fun q279 => ?_)
            · skip
              exact absurd rfl q279
            · skip
              refine r_aload_n (pc := 282) X rfl dL_law_282 ?_
              refine r_iload (pc := 283) X rfl dL_law_283 ?_
              refine r_iconst (pc := 285) (v := 4) X rfl dL_law_285 ?_
              refine ca_L_71 (pc := 286) X (c_X8_lightOf (S := pfu S 0 (jaS A)) (O := O) (hO.cok2 (by rw [eo]; exact hw)) (nI j) 4) xW_o (bk_rm rfl rfl (by show _ ≤ 600000; omega) (by show _ ≤ 7302249; omega)) rfl rfl dL_law_286 (fun r286 M286 hp286 => ?_)
              obtain ⟨rfl, rfl⟩ := hp286
              refine bk_top (show jlightOf (pfu S 0 (jaS A) 0) (nI j) 4 = jlightOf s (nI j) 4 from by rw [pfu_at, eo]) ?_
              refine r_aload_n (pc := 289) X rfl dL_law_289 ?_
              refine r_iload (pc := 290) X rfl dL_law_290 ?_
              refine r_iconst (pc := 292) (v := 4) X rfl dL_law_292 ?_
              refine bkV.eq (xx_comm (Nat.le_refl _)).symm ?_
              refine ca_L_71 (pc := 293) X (c_X8_lightOf (S := pfu Sq 0 (jaS Aq)) (O := Oq) (hQ.cok2 (by rw [eq]; exact hw)) (nI j) 4) xW_o (bk_rm rfl rfl (by show _ ≤ 600000; omega) (by show _ ≤ 7302249; omega)) rfl rfl dL_law_293 (fun r293 M293 hp293 => ?_)
              obtain ⟨rfl, rfl⟩ := hp293
              refine bkV.eq (xx_comm (Nat.le_refl _)) ?_
              refine bk_top (show jlightOf (pfu Sq 0 (jaS Aq) 0) (nI j) 4 = jlightOf s (nI j) 4 from by rw [pfu_at, eq]) ?_
              refine r_icmp_ne (pc := 296) X 303 (by decide) dL_law_296 (fun q296 => ?_) (fun q296 => ?_)
              · skip
                exact absurd rfl q296
              · skip
                refine r_iconst (pc := 299) (v := 1) X rfl dL_law_299 ?_
                refine r_goto (pc := 300) X 304 (by decide) dL_law_300 ?_
                refine r_istore_n (pc := 304) X rfl rfl dL_law_304 ?_
                refine r_iinc (pc := 305) X rfl rfl rfl dL_law_305 ?_
                refine r_goto (pc := 308) X 238 (by decide) dL_law_308 ?_
                exact ih (j + 1) _ (by omega) (by omega) (nI_1 j)
  exact lp238 5 0 0 (by omega) (by omega) rfl

theorem jwc_self (s : Nat → Int32) (n : Nat) : jwc s s n = 0 := by
  have : ∀ m, jct (fun k => jst s 2 k && !jst s 2 k) m = 0 := fun m => by
    induction m with
    | zero => rfl
    | succ m ih =>
      show jct _ m + (if (jst s 2 m && !jst s 2 m) = true then 1 else 0) = 0
      rw [ih]
      cases jst s 2 m <;> rfl
  exact this n
set_option maxHeartbeats 4000000 in
set_option maxRecDepth 100000 in
theorem lw_e0 {E : bkEnv} {G : bkG} {x : Nat} {M : bkM} {A : jA} {S O : Nat → Nat → Int32} {od : Nat → Nat} {t : Nat → Int32} {len : Nat} {pc pl : Int32} {pf : Nat → Nat → Int32} {Sq Oq : Nat → Nat → Int32} {odq : Nat → Nat} {tq : Nat → Int32} {lenq : Nat} {pcq plq : Int32} {pfq : Nat → Nat → Int32} {a : Nat} {y0 : Int32} (X : bkX E G RL cL_law 7 ret room_1) (hL : G.2.2.2.2.1 < 1000) (hO : LJ S O od t len A) (hQ : LJ Sq Oq odq tq lenq A) (hJ : JJ 3520 A) (ha : x + 370 ≤ a) (KF : ∀ (M2 : bkM) (Z2 : Nat → Prop) (L2 : List (Option Value)), bkV E G Z2 600000 7302249 M2 375 L2 [.int 1]) : bkV E G (fun z => z = a) 415 4274 (xW G x S O od (nI (jaN A)) (jaK A) t (nI len) pc pl pf (xW G (x + 185) Sq Oq odq (nI (jaN A)) (jaK A) tq (nI lenq) pcq plq pfq M)) 168 [some (.ref (G.2.2.2.1 3)), some (.ref x), some (.ref (x + 185)), some (.int 1), some (.int y0), none, none] [] := by
  obtain ⟨n, h, hw, hI, hh⟩ := hJ.at
  refine r_iconst (pc := 168) (v := 2) X rfl dL_law_168 ?_
  refine r_aload_n (pc := 169) X rfl dL_law_169 ?_
  refine r_bipush (pc := 170) (v := 44) X rfl dL_law_170 ?_
  refine ca_L_98 (pc := 172) X (c_L_cell 44 (by omega) hL) (bk_rm rfl rfl (by show _ ≤ 600000; omega) (by show _ ≤ 7302249; omega)) rfl rfl dL_law_172 (fun r172 M172 hp172 => ?_)
  obtain ⟨c, hc, rfl, rfl⟩ := hp172
  refine r_bipush (pc := 175) (v := 18) X rfl dL_law_175 ?_
  refine r_irem (pc := 177) X (by decide) dL_law_177 ?_
  refine bk_top (pk_rem (a := c) (d := 18) (by omega) (by omega) (by omega)) ?_
  refine r_iadd (pc := 178) X dL_law_178 ?_
  refine bk_top (nI_add 2 (c % 18)) ?_
  have hm1 : 2 ≤ 2 + c % 18 := by omega
  have hm2 : 2 + c % 18 ≤ 19 := by omega
  generalize 2 + c % 18 = m at hm1 hm2 ⊢
  refine r_istore (pc := 179) X rfl rfl dL_law_179 ?_
  refine r_iconst (pc := 181) (v := 0) X rfl dL_law_181 ?_
  refine r_istore (pc := 182) X rfl rfl dL_law_182 ?_
  refine r_iconst (pc := 184) (v := 0) X rfl dL_law_184 ?_
  refine r_istore (pc := 185) X rfl rfl dL_law_185 ?_
  have lp187 : ∀ (d i : Nat) (y : Int32) (A2 : jA) (S2 O2 : Nat → Nat → Int32) (od2 : Nat → Nat) (t2 : Nat → Int32) (len2 : Nat) (pc2 pl2 : Int32) (pf2 : Nat → Nat → Int32), i ≤ m → m < i + d → y = nI i → LJ S2 O2 od2 t2 len2 A2 → jaS A2 = jhrs (jaS A) n i → JJ (3520 + 20 * i) A2 → bkV E G (fun z => z = a) 415 4274 (xW G x S2 O2 od2 (nI (jaN A2)) (jaK A2) t2 (nI len2) pc2 pl2 pf2 (xW G (x + 185) Sq Oq odq (nI (jaN A)) (jaK A) tq (nI lenq) pcq plq pfq M)) 187 [some (.ref (G.2.2.2.1 3)), some (.ref x), some (.ref (x + 185)), some (.int 1), some (.int (nI m)), some (.int (nI (jwc (jaS A) (jhrs (jaS A) n i) n))), some (.int y)] [] := by
    intro d
    induction d with
    | zero => intros; exfalso; omega
    | succ d ih =>
      intro i y A2 S2 O2 od2 t2 len2 pc2 pl2 pf2 hj hd ey hO2 e2 hJ2
      subst ey
      refine r_iload (pc := 187) X rfl dL_law_187 ?_
      refine r_iload (pc := 189) X rfl dL_law_189 ?_
      refine r_icmpN_ge (pc := 191) X 214 (i) (m) rfl rfl (by omega) (by omega) (by decide) dL_law_191 (fun q191 => ?_) (fun q191 => ?_)
      · skip
        obtain rfl : i = m := by omega
        refine r_iload_n (pc := 214) X rfl dL_law_214 ?_
        refine r_if_eq (pc := 215) X 233 (by decide) dL_law_215 (fun q215 => ?_) (fun q215 => ?_)
        · skip
          exact absurd q215 (by decide)
        · skip
          refine r_aload_n (pc := 218) X rfl dL_law_218 ?_
          refine r_iload (pc := 219) X rfl dL_law_219 ?_
          refine bkV.eq (xx_comm (Nat.le_refl _)).symm ?_
          refine bkV.eq hQ.eq ?_
          refine ca_L_52 (pc := 221) X (c_X8_pass (S := pfu Sq 0 (jaS A)) (O := Oq) hQ.np.1 hQ.np.2.1 (hQ.cok2 hw) (nI i)) xW_o (bk_rm rfl rfl (by show _ ≤ 600000; omega) (by show _ ≤ 7302249; omega)) rfl rfl dL_law_221 (fun r221 M221 hp221 => ?_)
          obtain ⟨e1, go, e3, hgo⟩ := hp221
          rw [show jPass (pfu Sq 0 (jaS A) 0) n (nI i) = (nI (jwc (jaS A) (jhrs (jaS A) n i) n), some (jhrs (jaS A) n i)) from by rw [pfu_at]; exact pass_ok hw hI.2.1.1 (by omega) (by omega) (by omega)] at e1 e3 hgo
          obtain rfl : r221 = nI (jwc (jaS A) (jhrs (jaS A) n i) n) := e1
          obtain ⟨S3, O3, od3, e4, hQ3⟩ := hQ.strict.act (G := G) (x := x + 185) (ln := nI lenq) (pc := pcq) (pl := plq) (pf := pfq) (M := (xW G x S2 O2 od2 (nI (jaN A2)) (jaK A2) t2 (nI len2) pc2 pl2 pf2 M)) pfu_at hgo
          have e5 := e3.trans e4
          subst e5
          refine bkV.eq (xx_comm (Nat.le_refl _)) ?_
          refine r_iload (pc := 224) X rfl dL_law_224 ?_
          refine r_icmp_ne (pc := 226) X 233 (by decide) dL_law_226 (fun q226 => ?_) (fun q226 => ?_)
          · skip
            exact absurd rfl q226
          · skip
            refine r_iconst (pc := 229) (v := 1) X rfl dL_law_229 ?_
            refine r_goto (pc := 230) X 234 (by decide) dL_law_230 ?_
            refine r_istore_n (pc := 234) X rfl rfl dL_law_234 ?_
            exact lw_e1 X hL hO2 hQ3 e2 rfl (hw.hrs i) (hI.hrs hw i (by omega)) (by omega) ha KF
      · skip
        have hwA : jwf (jaS A2) n := by rw [e2]; exact hw.hrs i
        have eh2 : jaS A2 181 = nI (h + i) := by rw [e2]; exact (hI.hrs hw i (by omega)).2.1.1
        have eP : jPass (pfu S2 0 (jaS A2) 0) n 1 = (nI (jwc (jaS A2) (jhrs (jaS A2) n 1) n), some (jhrs (jaS A2) n 1)) := by rw [pfu_at]; exact pass_ok hwA eh2 (j := 1) (by omega) (by omega) (by omega)
        have eW : nI (jwc (jaS A) (jhrs (jaS A) n i) n) + nI (jwc (jaS A2) (jhrs (jaS A2) n 1) n) = nI (jwc (jaS A) (jhrs (jaS A) n (i + 1)) n) := by
          rw [nI_add, e2]
          exact congrArg nI (jwc_add n hw.1 (jhrs_mon i) (jhrs_mon (s := jhrs (jaS A) n i) 1))
        refine r_iload_n (pc := 194) X rfl dL_law_194 ?_
        refine r_if_eq (pc := 195) X 214 (by decide) dL_law_195 (fun q195 => ?_) (fun q195 => ?_)
        · skip
          exact absurd q195 (by decide)
        · skip
          refine r_iload (pc := 198) X rfl dL_law_198 ?_
          refine r_aload_n (pc := 200) X rfl dL_law_200 ?_
          refine r_iconst (pc := 201) (v := 1) X rfl dL_law_201 ?_
          refine bkV.eq hO2.eq ?_
          refine ca_L_52 (pc := 202) X (c_X8_pass (S := pfu S2 0 (jaS A2)) (O := O2) hO2.np.1 hO2.np.2.1 (hO2.cok2 hwA) 1) xW_o (bk_rm rfl rfl (by show _ ≤ 600000; omega) (by show _ ≤ 7302249; omega)) rfl rfl dL_law_202 (fun r202 M202 hp202 => ?_)
          obtain ⟨e1, go, e3, hgo⟩ := hp202
          rw [eP] at e1 e3 hgo
          obtain rfl : r202 = nI (jwc (jaS A2) (jhrs (jaS A2) n 1) n) := e1
          obtain ⟨S3, O3, od3, e4, hO3⟩ := hO2.strict.act (G := G) (x := x) (ln := nI len2) (pc := pc2) (pl := pl2) (pf := pf2) (M := (xW G (x + 185) Sq Oq odq (nI (jaN A)) (jaK A) tq (nI lenq) pcq plq pfq M)) pfu_at hgo
          have e5 := e3.trans e4
          subst e5
          refine r_iadd (pc := 205) X dL_law_205 ?_
          refine bk_top eW ?_
          refine r_istore (pc := 206) X rfl rfl dL_law_206 ?_
          refine r_iinc (pc := 208) X rfl rfl rfl dL_law_208 ?_
          refine r_goto (pc := 211) X 187 (by decide) dL_law_211 ?_
          refine ih (i + 1) _ (jap A2 (nI (jwc (jaS A2) (jhrs (jaS A2) n 1) n), some (jhrs (jaS A2) n 1))).2 S3 O3 od3 t2 len2 pc2 pl2 pf2 (by omega) (by omega) (nI_1 i) hO3 ?_ ?_
          · show jhrs (jaS A2) n 1 = _
            rw [e2]
            rfl
          · exact (hJ2.pass (by omega) hwA (by omega)).mono (by omega)
  refine bkV.st rfl ?_
  refine bkV.eq rfl ?_
  have z0 := lp187 (m + 1) 0 0 A _ _ _ _ _ pc pl pf (by omega) (by omega) rfl hO rfl (hJ.mono (by omega))
  rw [show nI (jwc (jaS A) (jhrs (jaS A) n 0) n) = 0 from congrArg nI (jwc_self _ _)] at z0
  exact z0

set_option maxHeartbeats 4000000 in
set_option maxRecDepth 100000 in
theorem lw_loop {E : bkEnv} {G : bkG} {x : Nat} {M : bkM} (X : bkX E G RL cL_law 7 ret room_1) (hL : G.2.2.2.2.1 < 1000) (KF : ∀ (M2 : bkM) (Z2 : Nat → Prop) (L2 : List (Option Value)), bkV E G Z2 600000 7302249 M2 375 L2 [.int 1]) : ∀ (d j : Nat) (y : Int32) (A : jA) (S O : Nat → Nat → Int32) (od : Nat → Nat) (t : Nat → Int32) (len : Nat) (pc pl : Int32) (pf : Nat → Nat → Int32) (Sq Oq : Nat → Nat → Int32) (odq : Nat → Nat) (tq : Nat → Int32) (lenq : Nat) (pcq plq : Int32) (pfq : Nat → Nat → Int32) (a : Nat), j ≤ 44 → 44 < j + d → y = nI j → LJ S O od t len A → LJ Sq Oq odq tq lenq A → JJ (80 * j) A → x + 370 ≤ a → bkV E G (fun z => z = a) (371 + j) (4098 + 4 * j) (xW G x S O od (nI (jaN A)) (jaK A) t (nI len) pc pl pf (xW G (x + 185) Sq Oq odq (nI (jaN A)) (jaK A) tq (nI lenq) pcq plq pfq M)) 66 [some (.ref (G.2.2.2.1 3)), some (.ref x), some (.ref (x + 185)), some (.int 1), some (.int y), none, none] [] := by
  intro d
  induction d with
  | zero => intros; exfalso; omega
  | succ d ih =>
    intro j y A S O od t len pc pl pf Sq Oq odq tq lenq pcq plq pfq a hj hd ey hO hQ hJ ha
    subst ey
    refine r_iload (pc := 66) X rfl dL_law_66 ?_
    refine r_bipush (pc := 68) (v := 44) X rfl dL_law_68 ?_
    refine r_icmpN_ge (pc := 70) X 168 (j) (44) rfl rfl (by omega) (by omega) (by decide) dL_law_70 (fun q70 => ?_) (fun q70 => ?_)
    · skip
      obtain rfl : j = 44 := by omega
      exact bkV.widen (by omega) (by omega) (lw_e0 X hL hO hQ hJ ha KF)
    · skip
      refine r_iload_n (pc := 73) X rfl dL_law_73 ?_
      refine r_if_eq (pc := 74) X 168 (by decide) dL_law_74 (fun q74 => ?_) (fun q74 => ?_)
      · skip
        exact absurd q74 (by decide)
      · skip
        refine lw_turn X hL q70 hO hQ hJ ha ?_
        intro A S O od t len pc pl pf Sq Oq odq tq lenq pcq plq pfq a hO hQ hJ ha c6 c7
        refine r_iconst (pc := 156) (v := 1) X rfl dL_law_156 ?_
        refine r_goto (pc := 157) X 161 (by decide) dL_law_157 ?_
        refine r_istore_n (pc := 161) X rfl rfl dL_law_161 ?_
        refine r_iinc (pc := 162) X rfl rfl rfl dL_law_162 ?_
        refine r_goto (pc := 165) X 66 (by decide) dL_law_165 ?_
        exact bkV.drop 5 (bkV.drop 6 (bkV.widen (by omega) (by omega) (ih (j + 1) _ A _ _ _ _ _ _ _ _ _ _ _ _ _ _ _ _ a (by omega) (by omega) (nI_1 j) hO hQ hJ ha)))

