set_option maxHeartbeats 4000000 in
set_option maxRecDepth 100000 in
theorem hg_2 {E : bkEnv} {G : bkG} {Z : Nat → Prop} {M : bkM} {x a : Nat} {S O : Nat → Nat → Int32} {od : Nat → Nat} {np : Nat} {kp : Int32} {t : Nat → Int32} {ln pc pl : Int32} {pf : Nat → Nat → Int32} {n h : Nat} {s1 g1 f : Nat → Int32} (X : bkX E G RL cL_hangs 20 (some .boolean) (bkR 7 1 4)) (hk : cOK (S 0) n (O 0)) (hI : jI (S 0) n h) (hh : h ≤ 50000) (ha : x + 185 ≤ a) (hf : ∀ l, l < 4 → f l = nI (jct (fun c => jlb (S 0) l c) 100)) (KK : ∀ s1 g1 : Nat → Int32, bkV E G Z 1 4 (xW G x (pfu S 1 s1) (pfu O 1 g1) od (nI np) kp t ln pc pl pf (bku M a (aI G 4 f))) 616 [some (.ref x), some (.int (jsm (S 0) 100)), some (.int (nI (jct (fun c => decide (S 0 c = 1) && decide (¬ nI (jlz (S 0) c) ≤ 0)) 100))), some (.int (nI (jct (fun c => decide (¬ nI (jlz (S 0) c) ≤ 0)) 100))), some (.int (nI (jct (fun c => decide (¬ jsin (S 0) n (nI c) = -5)) 100))), some (.ref a), some (.int 1), some (.int (jsm (fun l => S 0 (120 + 5 * l + 1)) 4)), some (.int (jsm (fun l => S 0 (120 + 5 * l + 4)) 4)), some (.int (jsm (fun l => S 0 (120 + 5 * l + 3)) 4)), some (.int (nI 4)), none, none, none, none, none, none, none, none, none] []) : bkV E G Z 1 4 (xW G x (pfu S 1 s1) (pfu O 1 g1) od (nI np) kp t ln pc pl pf (bku M a (aI G 4 f))) 294 [some (.ref x), some (.int (jsm (S 0) 100)), some (.int (nI (jct (fun c => decide (S 0 c = 1) && decide (¬ nI (jlz (S 0) c) ≤ 0)) 100))), some (.int (nI (jct (fun c => decide (¬ nI (jlz (S 0) c) ≤ 0)) 100))), some (.int (nI (jct (fun c => decide (¬ jsin (S 0) n (nI c) = -5)) 100))), some (.ref a), some (.int 1), some (.int (nI 100)), none, none, none, none, none, none, none, none, none, none, none, none] [] := by
  obtain ⟨hR, ⟨hH, hwg⟩, ⟨C, D, Kc, Wk, P, c1, c2, c3⟩, hS, hD⟩ := hI
  refine r_iconst (pc := 294) (v := 0) X rfl dL_hangs_294 ?_
  refine r_istore (pc := 295) X rfl rfl dL_hangs_295 ?_
  refine r_iconst (pc := 297) (v := 0) X rfl dL_hangs_297 ?_
  refine r_istore (pc := 298) X rfl rfl dL_hangs_298 ?_
  refine r_iconst (pc := 300) (v := 0) X rfl dL_hangs_300 ?_
  refine r_istore (pc := 301) X rfl rfl dL_hangs_301 ?_
  refine r_iconst (pc := 303) (v := 0) X rfl dL_hangs_303 ?_
  refine r_istore (pc := 304) X rfl rfl dL_hangs_304 ?_
  have lp306 : ∀ (d j : Nat) (y : Int32) (s1 g1 : Nat → Int32), j ≤ 4 → 4 < j + d → y = nI j → bkV E G Z 1 4 (xW G x (pfu S 1 s1) (pfu O 1 g1) od (nI np) kp t ln pc pl pf (bku M a (aI G 4 f))) 306 [some (.ref x), some (.int (jsm (S 0) 100)), some (.int (nI (jct (fun c => decide (S 0 c = 1) && decide (¬ nI (jlz (S 0) c) ≤ 0)) 100))), some (.int (nI (jct (fun c => decide (¬ nI (jlz (S 0) c) ≤ 0)) 100))), some (.int (nI (jct (fun c => decide (¬ jsin (S 0) n (nI c) = -5)) 100))), some (.ref a), some (.int 1), some (.int (jsm (fun l => S 0 (120 + 5 * l + 1)) j)), some (.int (jsm (fun l => S 0 (120 + 5 * l + 4)) j)), some (.int (jsm (fun l => S 0 (120 + 5 * l + 3)) j)), some (.int y), none, none, none, none, none, none, none, none, none] [] := by
    intro d
    induction d with
    | zero => intros; exfalso; omega
    | succ d ih =>
      intro j y s1 g1 hj hd ey
      subst ey
      refine r_iload (pc := 306) X rfl dL_hangs_306 ?_
      refine r_iconst (pc := 308) (v := 4) X rfl dL_hangs_308 ?_
      refine r_icmpN_ge (pc := 309) X 616 (j) (4) rfl rfl (by omega) (by omega) (by decide) dL_hangs_309 (fun q309 => ?_) (fun q309 => ?_)
      · skip
        obtain rfl : j = 4 := by omega
        exact KK s1 g1
      · skip
        refine r_iload (pc := 312) X rfl dL_hangs_312 ?_
        refine r_if_eq (pc := 314) X 616 (by decide) dL_hangs_314 (fun q314 => ?_) (fun q314 => ?_)
        · skip
          exact absurd q314 (by decide)
        · skip
          have hj4 : j < 4 := q309
          obtain ⟨-, -, ⟨rg, hrg, er⟩, ⟨gg, hgg, eg⟩⟩ := hk.2.1 j hj4
          obtain ⟨bw, hbw, eb⟩ := hl_beam hk.2.1 hj4 hH (by omega)
          obtain ⟨⟨eC, eD, eK, eW, eP⟩, hK3, hC9, hCD⟩ := c1 j hj4
          have hD8 : D j ≤ 800 := by
            have h1 := jnu_ge (f := fun l => D l + P l) (k := j) (n := 4) hj4
            have h2 := jnw_800 hk.1
            have h3 : (fun l => D l + P l) j = D j + P j := rfl
            omega
          refine r_bipush (pc := 317) (v := 22) X rfl dL_hangs_317 ?_
          refine r_iconst (pc := 319) (v := 5) X rfl dL_hangs_319 ?_
          refine r_iload (pc := 320) X rfl dL_hangs_320 ?_
          refine r_iconst (pc := 322) (v := 2) X rfl dL_hangs_322 ?_
          refine r_irem (pc := 323) X (by decide) dL_hangs_323 ?_
          refine bk_top (pk_rem (a := j) (d := 2) (by omega) (by omega) (by omega)) ?_
          refine r_imul (pc := 324) X dL_hangs_324 ?_
          refine r_iadd (pc := 325) X dL_hangs_325 ?_
          refine r_bipush (pc := 326) (v := 50) X rfl dL_hangs_326 ?_
          refine r_iload (pc := 328) X rfl dL_hangs_328 ?_
          refine r_iconst (pc := 330) (v := 2) X rfl dL_hangs_330 ?_
          refine r_idiv (pc := 331) X (by decide) dL_hangs_331 ?_
          refine bk_top (pk_div (a := j) (d := 2) (by omega) (by omega) (by omega)) ?_
          refine r_imul (pc := 332) X dL_hangs_332 ?_
          refine r_iadd (pc := 333) X dL_hangs_333 ?_
          refine bk_top (hm_eq j hj4) ?_
          refine r_istore (pc := 334) X rfl rfl dL_hangs_334 ?_
          refine r_aload_n (pc := 336) X rfl dL_hangs_336 ?_
          refine r_iload (pc := 337) X rfl dL_hangs_337 ?_
          refine r_iconst (pc := 339) (v := 0) X rfl dL_hangs_339 ?_
          refine ca_L_55 (pc := 340) X (ct_cellOf hk _ 0) xW_o rfl rfl rfl dL_hangs_340 (fun r340 M340 hp340 => ?_)
          obtain ⟨rfl, rfl⟩ := hp340
          refine bk_top ((hc_0 (jhm_lt j)).trans (hR j hj4).1) ?_
          refine r_if_ne (pc := 343) X 571 (by decide) dL_hangs_343 (fun q343 => ?_) (fun q343 => ?_)
          · skip
            exact absurd rfl q343
          · skip
            refine r_aload_n (pc := 346) X rfl dL_hangs_346 ?_
            refine r_iload (pc := 347) X rfl dL_hangs_347 ?_
            refine r_iconst (pc := 349) (v := 2) X rfl dL_hangs_349 ?_
            refine ca_L_55 (pc := 350) X (ct_cellOf hk _ 2) xW_o rfl rfl rfl dL_hangs_350 (fun r350 M350 hp350 => ?_)
            obtain ⟨rfl, rfl⟩ := hp350
            refine bk_top (hc_2 (jhm_lt j)) ?_
            refine r_iload (pc := 353) X rfl dL_hangs_353 ?_
            refine r_ishr (pc := 355) X dL_hangs_355 ?_
            refine r_iconst (pc := 356) (v := 1) X rfl dL_hangs_356 ?_
            refine r_iand (pc := 357) X dL_hangs_357 ?_
            refine bk_top ((hc_bit hj4).trans (congrArg bi (hm_lb hj4))) ?_
            refine r_iconst (pc := 358) (v := 1) X rfl dL_hangs_358 ?_
            refine r_icmp_ne (pc := 359) X 571 (by decide) dL_hangs_359 (fun q359 => ?_) (fun q359 => ?_)
            · skip
              exact absurd rfl q359
            · skip
              refine r_aload_n (pc := 362) X rfl dL_hangs_362 ?_
              refine r_iload (pc := 363) X rfl dL_hangs_363 ?_
              refine r_iconst (pc := 365) (v := 3) X rfl dL_hangs_365 ?_
              refine ca_L_55 (pc := 366) X (ct_cellOf hk _ 3) xW_o rfl rfl rfl dL_hangs_366 (fun r366 M366 hp366 => ?_)
              obtain ⟨rfl, rfl⟩ := hp366
              refine bk_top ((hc_3 (jhm_lt j)).trans (congrArg nI (hm_nr j hj4))) ?_
              refine r_iload (pc := 369) X rfl dL_hangs_369 ?_
              refine r_icmp_ne (pc := 371) X 571 (by decide) dL_hangs_371 (fun q371 => ?_) (fun q371 => ?_)
              · skip
                exact absurd rfl q371
              · skip
                refine r_aload_n (pc := 374) X rfl dL_hangs_374 ?_
                refine r_iload (pc := 375) X rfl dL_hangs_375 ?_
                refine r_iload (pc := 377) X rfl dL_hangs_377 ?_
                refine ca_L_68 (pc := 379) X (ct_why hk _ _) xW_o rfl rfl rfl dL_hangs_379 (fun r379 M379 hp379 => ?_)
                obtain ⟨rfl, rfl⟩ := hp379
                refine bk_top (hm_why hj4) ?_
                refine r_if_ne (pc := 382) X 571 (by decide) dL_hangs_382 (fun q382 => ?_) (fun q382 => ?_)
                · skip
                  exact absurd rfl q382
                · skip
                  refine r_aload (pc := 385) X rfl dL_hangs_385 ?_
                  refine r_iload (pc := 387) X rfl dL_hangs_387 ?_
                  refine r_iald (pc := 389) X (xT_arr ha) (j) rfl (by omega) (by decide) dL_hangs_389 ?_
                  refine r_aload_n (pc := 390) X rfl dL_hangs_390 ?_
                  refine r_iload (pc := 391) X rfl dL_hangs_391 ?_
                  refine r_bipush (pc := 393) (v := 6) X rfl dL_hangs_393 ?_
                  refine ca_L_71 (pc := 395) X (ct_lightOf hk _ 6) xW_o rfl rfl rfl dL_hangs_395 (fun r395 M395 hp395 => ?_)
                  obtain ⟨rfl, rfl⟩ := hp395
                  refine bk_top (hl_6 hj4) ?_
                  refine r_icmp_ne (pc := 398) X 571 (by decide) dL_hangs_398 (fun q398 => ?_) (fun q398 => ?_)
                  · skip
                    exact absurd (hf j hj4) q398
                  · skip
                    refine r_aload_n (pc := 401) X rfl dL_hangs_401 ?_
                    refine r_iload (pc := 402) X rfl dL_hangs_402 ?_
                    refine r_iconst (pc := 404) (v := 4) X rfl dL_hangs_404 ?_
                    refine ca_L_71 (pc := 405) X (ct_lightOf hk _ 4) xW_o rfl rfl rfl dL_hangs_405 (fun r405 M405 hp405 => ?_)
                    obtain ⟨rfl, rfl⟩ := hp405
                    refine bk_top ((hl_w (w := 4) hj4 (by omega)).trans eg) ?_
                    refine r_if_lt (pc := 408) X 571 (by decide) dL_hangs_408 (fun q408 => ?_) (fun q408 => ?_)
                    · skip
                      exact absurd q408 (nI_pos (by omega))
                    · skip
                      refine r_aload_n (pc := 411) X rfl dL_hangs_411 ?_
                      refine r_iload (pc := 412) X rfl dL_hangs_412 ?_
                      refine r_iconst (pc := 414) (v := 4) X rfl dL_hangs_414 ?_
                      refine ca_L_71 (pc := 415) X (ct_lightOf hk _ 4) xW_o rfl rfl rfl dL_hangs_415 (fun r415 M415 hp415 => ?_)
                      obtain ⟨rfl, rfl⟩ := hp415
                      refine bk_top ((hl_w (w := 4) hj4 (by omega)).trans eg) ?_
                      refine r_bipush (pc := 418) (v := 10) X rfl dL_hangs_418 ?_
                      refine r_icmpN_ge (pc := 420) X 571 (gg) (10) rfl rfl (by omega) (by omega) (by decide) dL_hangs_420 (fun q420 => ?_) (fun q420 => ?_)
                      · skip
                        exact absurd q420 (by omega)
                      · skip
                        refine r_aload_n (pc := 423) X rfl dL_hangs_423 ?_
                        refine r_iload (pc := 424) X rfl dL_hangs_424 ?_
                        refine r_iconst (pc := 426) (v := 5) X rfl dL_hangs_426 ?_
                        refine ca_L_71 (pc := 427) X (ct_lightOf hk _ 5) xW_o rfl rfl rfl dL_hangs_427 (fun r427 M427 hp427 => ?_)
                        obtain ⟨rfl, rfl⟩ := hp427
                        refine bk_top ((hl_5 hj4).trans eb) ?_
                        refine r_if_lt (pc := 430) X 571 (by decide) dL_hangs_430 (fun q430 => ?_) (fun q430 => ?_)
                        · skip
                          exact absurd q430 (nI_pos (by omega))
                        · skip
                          refine r_aload_n (pc := 433) X rfl dL_hangs_433 ?_
                          refine r_iload (pc := 434) X rfl dL_hangs_434 ?_
                          refine r_iconst (pc := 436) (v := 5) X rfl dL_hangs_436 ?_
                          refine ca_L_71 (pc := 437) X (ct_lightOf hk _ 5) xW_o rfl rfl rfl dL_hangs_437 (fun r437 M437 hp437 => ?_)
                          obtain ⟨rfl, rfl⟩ := hp437
                          refine bk_top ((hl_5 hj4).trans eb) ?_
                          refine r_bipush (pc := 440) (v := 8) X rfl dL_hangs_440 ?_
                          refine r_icmpN_ge (pc := 442) X 571 (bw) (8) rfl rfl (by omega) (by omega) (by decide) dL_hangs_442 (fun q442 => ?_) (fun q442 => ?_)
                          · skip
                            exact absurd q442 (by omega)
                          · skip
                            refine r_aload_n (pc := 445) X rfl dL_hangs_445 ?_
                            refine r_iload (pc := 446) X rfl dL_hangs_446 ?_
                            refine r_iconst (pc := 448) (v := 0) X rfl dL_hangs_448 ?_
                            refine ca_L_74 (pc := 449) X (ct_keeperOf hk _ 0) xW_o rfl rfl rfl dL_hangs_449 (fun r449 M449 hp449 => ?_)
                            obtain ⟨rfl, rfl⟩ := hp449
                            refine bk_top ((hk_w (w := 0) hj4 (by omega)).trans eC) ?_
                            refine r_if_lt (pc := 452) X 571 (by decide) dL_hangs_452 (fun q452 => ?_) (fun q452 => ?_)
                            · skip
                              exact absurd q452 (nI_pos (by omega))
                            · skip
                              refine r_aload_n (pc := 455) X rfl dL_hangs_455 ?_
                              refine r_iload (pc := 456) X rfl dL_hangs_456 ?_
                              refine r_iconst (pc := 458) (v := 1) X rfl dL_hangs_458 ?_
                              refine ca_L_74 (pc := 459) X (ct_keeperOf hk _ 1) xW_o rfl rfl rfl dL_hangs_459 (fun r459 M459 hp459 => ?_)
                              obtain ⟨rfl, rfl⟩ := hp459
                              refine bk_top ((hk_w (w := 1) hj4 (by omega)).trans eD) ?_
                              refine r_if_lt (pc := 462) X 571 (by decide) dL_hangs_462 (fun q462 => ?_) (fun q462 => ?_)
                              · skip
                                exact absurd q462 (nI_pos (by omega))
                              · skip
                                refine bkV.join 485 (stT := []) ?_ (fun j485 => ?_)
                                · skip
                                  refine r_aload_n (pc := 485) X rfl dL_hangs_485 ?_
                                  refine r_iload (pc := 486) X rfl dL_hangs_486 ?_
                                  refine r_iconst (pc := 488) (v := 2) X rfl dL_hangs_488 ?_
                                  refine ca_L_74 (pc := 489) X (ct_keeperOf hk _ 2) xW_o rfl rfl rfl dL_hangs_489 (fun r489 M489 hp489 => ?_)
                                  obtain ⟨rfl, rfl⟩ := hp489
                                  refine bk_top ((hk_w (w := 2) hj4 (by omega)).trans eK) ?_
                                  refine r_if_lt (pc := 492) X 571 (by decide) dL_hangs_492 (fun q492 => ?_) (fun q492 => ?_)
                                  · skip
                                    exact absurd q492 (nI_pos (by omega))
                                  · skip
                                    refine r_aload_n (pc := 495) X rfl dL_hangs_495 ?_
                                    refine r_iload (pc := 496) X rfl dL_hangs_496 ?_
                                    refine r_iconst (pc := 498) (v := 2) X rfl dL_hangs_498 ?_
                                    refine ca_L_74 (pc := 499) X (ct_keeperOf hk _ 2) xW_o rfl rfl rfl dL_hangs_499 (fun r499 M499 hp499 => ?_)
                                    obtain ⟨rfl, rfl⟩ := hp499
                                    refine bk_top ((hk_w (w := 2) hj4 (by omega)).trans eK) ?_
                                    refine r_iconst (pc := 502) (v := 4) X rfl dL_hangs_502 ?_
                                    refine r_icmpN_ge (pc := 503) X 571 (Kc j) (4) rfl rfl (by omega) (by omega) (by decide) dL_hangs_503 (fun q503 => ?_) (fun q503 => ?_)
                                    · skip
                                      exact absurd q503 (by omega)
                                    · skip
                                      refine bkV.join 535 (stT := []) ?_ (fun j535 => ?_)
                                      · skip
                                        refine r_aload_n (pc := 535) X rfl dL_hangs_535 ?_
                                        refine r_iload (pc := 536) X rfl dL_hangs_536 ?_
                                        refine ca_L_77 (pc := 538) X (ct_bestCard hk _) xW_o rfl rfl rfl dL_hangs_538 (fun r538 M538 hp538 => ?_)
                                        obtain ⟨rfl, s2, g2, rfl⟩ := hp538
                                        refine r_iload (pc := 541) X rfl dL_hangs_541 ?_
                                        refine r_icmp_eq (pc := 543) X 571 (by decide) dL_hangs_543 (fun q543 => ?_) (fun q543 => ?_)
                                        · skip
                                          exact absurd q543 (hb_1 hj4)
                                        · skip
                                          have K567 : ∀ s1 g1 : Nat → Int32, bkV E G Z 1 4 (xW G x (pfu S 1 s1) (pfu O 1 g1) od (nI np) kp t ln pc pl pf (bku M a (aI G 4 f))) 567 [some (.ref x), some (.int (jsm (S 0) 100)), some (.int (nI (jct (fun c => decide (S 0 c = 1) && decide (¬ nI (jlz (S 0) c) ≤ 0)) 100))), some (.int (nI (jct (fun c => decide (¬ nI (jlz (S 0) c) ≤ 0)) 100))), some (.int (nI (jct (fun c => decide (¬ jsin (S 0) n (nI c) = -5)) 100))), some (.ref a), some (.int 1), some (.int (jsm (fun l => S 0 (120 + 5 * l + 1)) j)), some (.int (jsm (fun l => S 0 (120 + 5 * l + 4)) j)), some (.int (jsm (fun l => S 0 (120 + 5 * l + 3)) j)), some (.int (nI j)), some (.int (nI (jhm j))), none, none, none, none, none, none, none, none] [] := by
                                            intro s1 g1
                                            refine r_iconst (pc := 567) (v := 1) X rfl dL_hangs_567 ?_
                                            refine r_goto (pc := 568) X 572 (by decide) dL_hangs_568 ?_
                                            refine r_istore (pc := 572) X rfl rfl dL_hangs_572 ?_
                                            refine r_iload (pc := 574) X rfl dL_hangs_574 ?_
                                            refine r_aload_n (pc := 576) X rfl dL_hangs_576 ?_
                                            refine r_iload (pc := 577) X rfl dL_hangs_577 ?_
                                            refine r_iconst (pc := 579) (v := 1) X rfl dL_hangs_579 ?_
                                            refine ca_L_74 (pc := 580) X (ct_keeperOf hk _ 1) xW_o rfl rfl rfl dL_hangs_580 (fun r580 M580 hp580 => ?_)
                                            obtain ⟨rfl, rfl⟩ := hp580
                                            refine bk_top (hk_w (w := 1) hj4 (by omega)) ?_
                                            refine r_iadd (pc := 583) X dL_hangs_583 ?_
                                            refine bk_top (rfl : _ = jsm (fun l => S 0 (120 + 5 * l + 1)) (j + 1)) ?_
                                            refine r_istore (pc := 584) X rfl rfl dL_hangs_584 ?_
                                            refine r_iload (pc := 586) X rfl dL_hangs_586 ?_
                                            refine r_aload_n (pc := 588) X rfl dL_hangs_588 ?_
                                            refine r_iload (pc := 589) X rfl dL_hangs_589 ?_
                                            refine r_iconst (pc := 591) (v := 4) X rfl dL_hangs_591 ?_
                                            refine ca_L_74 (pc := 592) X (ct_keeperOf hk _ 4) xW_o rfl rfl rfl dL_hangs_592 (fun r592 M592 hp592 => ?_)
                                            obtain ⟨rfl, rfl⟩ := hp592
                                            refine bk_top (hk_w (w := 4) hj4 (by omega)) ?_
                                            refine r_iadd (pc := 595) X dL_hangs_595 ?_
                                            refine bk_top (rfl : _ = jsm (fun l => S 0 (120 + 5 * l + 4)) (j + 1)) ?_
                                            refine r_istore (pc := 596) X rfl rfl dL_hangs_596 ?_
                                            refine r_iload (pc := 598) X rfl dL_hangs_598 ?_
                                            refine r_aload_n (pc := 600) X rfl dL_hangs_600 ?_
                                            refine r_iload (pc := 601) X rfl dL_hangs_601 ?_
                                            refine r_iconst (pc := 603) (v := 3) X rfl dL_hangs_603 ?_
                                            refine ca_L_74 (pc := 604) X (ct_keeperOf hk _ 3) xW_o rfl rfl rfl dL_hangs_604 (fun r604 M604 hp604 => ?_)
                                            obtain ⟨rfl, rfl⟩ := hp604
                                            refine bk_top (hk_w (w := 3) hj4 (by omega)) ?_
                                            refine r_iadd (pc := 607) X dL_hangs_607 ?_
                                            refine bk_top (rfl : _ = jsm (fun l => S 0 (120 + 5 * l + 3)) (j + 1)) ?_
                                            refine r_istore (pc := 608) X rfl rfl dL_hangs_608 ?_
                                            refine r_iinc (pc := 610) X rfl rfl rfl dL_hangs_610 ?_
                                            refine r_goto (pc := 613) X 306 (by decide) dL_hangs_613 ?_
                                            exact bkV.drop 11 (ih (j + 1) _ _ _ (by omega) (by omega) (nI_1 j))
                                          refine r_aload_n (pc := 546) X rfl dL_hangs_546 ?_
                                          refine r_iload (pc := 547) X rfl dL_hangs_547 ?_
                                          refine r_iconst (pc := 549) (v := 2) X rfl dL_hangs_549 ?_
                                          refine ca_L_74 (pc := 550) X (ct_keeperOf hk _ 2) xW_o rfl rfl rfl dL_hangs_550 (fun r550 M550 hp550 => ?_)
                                          obtain ⟨rfl, rfl⟩ := hp550
                                          refine bk_top ((hk_w (w := 2) hj4 (by omega)).trans eK) ?_
                                          refine r_if_gt (pc := 553) X 567 (by decide) dL_hangs_553 (fun q553 => ?_) (fun q553 => ?_)
                                          · skip
                                            exact K567 _ _
                                          · skip
                                            refine r_aload_n (pc := 556) X rfl dL_hangs_556 ?_
                                            refine r_iload (pc := 557) X rfl dL_hangs_557 ?_
                                            refine ca_L_77 (pc := 559) X (ct_bestCard hk _) xW_o rfl rfl rfl dL_hangs_559 (fun r559 M559 hp559 => ?_)
                                            obtain ⟨rfl, s3, g3, rfl⟩ := hp559
                                            refine bk_top (hb_5 hj4 (by rw [eK]; exact q553)) ?_
                                            refine r_bipush (pc := 562) (v := (-5)) X rfl dL_hangs_562 ?_
                                            refine r_icmp_ne (pc := 564) X 571 (by decide) dL_hangs_564 (fun q564 => ?_) (fun q564 => ?_)
                                            · skip
                                              exact absurd rfl q564
                                            · skip
                                              exact K567 _ _
                                      refine r_aload_n (pc := 506) X rfl dL_hangs_506 ?_
                                      refine r_iload (pc := 507) X rfl dL_hangs_507 ?_
                                      refine r_iconst (pc := 509) (v := 4) X rfl dL_hangs_509 ?_
                                      refine ca_L_71 (pc := 510) X (ct_lightOf hk _ 4) xW_o rfl rfl rfl dL_hangs_510 (fun r510 M510 hp510 => ?_)
                                      obtain ⟨rfl, rfl⟩ := hp510
                                      refine bk_top ((hl_w (w := 4) hj4 (by omega)).trans eg) ?_
                                      refine r_aload_n (pc := 513) X rfl dL_hangs_513 ?_
                                      refine r_iload (pc := 514) X rfl dL_hangs_514 ?_
                                      refine r_iconst (pc := 516) (v := 2) X rfl dL_hangs_516 ?_
                                      refine ca_L_71 (pc := 517) X (ct_lightOf hk _ 2) xW_o rfl rfl rfl dL_hangs_517 (fun r517 M517 hp517 => ?_)
                                      obtain ⟨rfl, rfl⟩ := hp517
                                      refine bk_top ((hl_w (w := 2) hj4 (by omega)).trans er) ?_
                                      refine r_icmp_lt (pc := 520) X 535 (by decide) dL_hangs_520 (fun q520 => ?_) (fun q520 => ?_)
                                      · skip
                                        exact j535
                                      · skip
                                        refine r_aload_n (pc := 523) X rfl dL_hangs_523 ?_
                                        refine r_iload (pc := 524) X rfl dL_hangs_524 ?_
                                        refine r_bipush (pc := 526) (v := 6) X rfl dL_hangs_526 ?_
                                        refine ca_L_71 (pc := 528) X (ct_lightOf hk _ 6) xW_o rfl rfl rfl dL_hangs_528 (fun r528 M528 hp528 => ?_)
                                        obtain ⟨rfl, rfl⟩ := hp528
                                        refine bk_top (hl_one hj4 eg er (by omega) (by omega) q520) ?_
                                        refine r_iconst (pc := 531) (v := 1) X rfl dL_hangs_531 ?_
                                        refine r_icmp_ne (pc := 532) X 571 (by decide) dL_hangs_532 (fun q532 => ?_) (fun q532 => ?_)
                                        · skip
                                          exact absurd rfl q532
                                        · skip
                                          exact j535
                                refine r_aload_n (pc := 465) X rfl dL_hangs_465 ?_
                                refine r_iload (pc := 466) X rfl dL_hangs_466 ?_
                                refine r_iconst (pc := 468) (v := 0) X rfl dL_hangs_468 ?_
                                refine ca_L_74 (pc := 469) X (ct_keeperOf hk _ 0) xW_o rfl rfl rfl dL_hangs_469 (fun r469 M469 hp469 => ?_)
                                obtain ⟨rfl, rfl⟩ := hp469
                                refine bk_top ((hk_w (w := 0) hj4 (by omega)).trans eC) ?_
                                refine r_if_eq (pc := 472) X 485 (by decide) dL_hangs_472 (fun q472 => ?_) (fun q472 => ?_)
                                · skip
                                  exact j485
                                · skip
                                  refine r_aload_n (pc := 475) X rfl dL_hangs_475 ?_
                                  refine r_iload (pc := 476) X rfl dL_hangs_476 ?_
                                  refine r_iconst (pc := 478) (v := 1) X rfl dL_hangs_478 ?_
                                  refine ca_L_74 (pc := 479) X (ct_keeperOf hk _ 1) xW_o rfl rfl rfl dL_hangs_479 (fun r479 M479 hp479 => ?_)
                                  obtain ⟨rfl, rfl⟩ := hp479
                                  refine bk_top ((hk_w (w := 1) hj4 (by omega)).trans eD) ?_
                                  refine r_if_ne (pc := 482) X 571 (by decide) dL_hangs_482 (fun q482 => ?_) (fun q482 => ?_)
                                  · skip
                                    exact absurd (congrArg nI (hCD.resolve_left (fun z => q472 (congrArg nI z)))) q482
                                  · skip
                                    exact j485
  exact lp306 5 0 0 s1 g1 (by omega) (by omega) rfl

