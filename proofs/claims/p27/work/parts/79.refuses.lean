/-! what is refused -/
theorem neg_y (y : Nat) (hy : y < 100000) : (-1 : Int32) - nI y < 0 := by
  have e : (-1 : Int32) - nI y = nI 0 - nI (y + 1) := by
    rw [← nI_1, nI_0]
    grind
  rw [e]
  exact pk_sneg (by omega) (by omega)
theorem jin_big {a b : Nat} {lo hi : Int32} (hh : hi = nI b) (h : b < a) (ha : a < 2 ^ 31) : jin (nI a) lo hi = false := jin_hi (by rw [hh]; exact (nI_ltI (by omega) ha).mpr h)
theorem no_rock {s : Nat → Int32} {c : Int32} (h : jin c 0 99 = false) : jRock s c = (-1, none) := by
  have e : jbr c = -1 := jbr_no h
  unfold jRock
  rw [e, if_neg (by decide)]
theorem no_rock77 {s : Nat → Int32} : jRock s 77 = (-4, none) := by
  have e : jbr 77 = -4 := by decide
  unfold jRock
  rw [e, if_neg (by decide)]
theorem no_light {s : Nat → Int32} {l w v : Int32} (h : jin l 0 3 = false) : jLight s l w v = (-1, none) := if_pos h
theorem no_light2 {s : Nat → Int32} {l w v : Int32} (h : jin l 0 3 = true) (h2 : jfit w v = false) : jLight s l w v = (-2, none) := by
  unfold jLight
  rw [if_neg (by rw [h]; decide), if_pos h2]
theorem no_light3 {s : Nat → Int32} (h : ∃ v, v ≤ 3 ∧ s 111 = nI v) (h0 : s 111 ≠ 0) : jLight s 2 1 (jlightOf s 2 1) = (-5, none) := by
  obtain ⟨v, hv, e⟩ := h
  have e2 : jlightOf s 2 1 = s 111 := rfl
  have hfit : jfit 1 (nI v) = true := by
    match v, hv with
    | 0, _ => exact absurd e h0
    | 1, _ => decide
    | 2, _ => decide
    | 3, _ => decide
    | v + 4, h => exact absurd h (by omega)
  rw [e2]
  unfold jLight
  rw [if_neg (by decide), e, if_neg (by rw [hfit]; decide)]
  exact if_pos e
theorem no_ship1 {s : Nat → Int32} {n : Nat} {w c h : Int32} (q : (jin c 0 99 && jin h 0 99) = false) : jShip s n w c h = (-1, none) := by
  have e : jbs s n w c h = -1 := by
    unfold jbs
    rw [if_pos (by rw [q]; rfl)]
  unfold jShip
  rw [e, if_neg (by decide)]
theorem no_ship2 {s : Nat → Int32} {n : Nat} {w : Int32} (q : jin w 1 99 = false) : jShip s n w 0 0 = (-2, none) := by
  have e : jbs s n w 0 0 = -2 := by
    unfold jbs
    rw [if_neg (by decide), if_pos (by rw [q]; rfl)]
  unfold jShip
  rw [e, if_neg (by decide)]
theorem no_ship4 {s : Nat → Int32} {n : Nat} : jShip s n 1 9 9 = (-4, none) := by
  have e : jbs s n 1 9 9 = -4 := by
    unfold jbs
    rw [if_neg (by decide), if_neg (by decide), if_pos (Or.inl rfl)]
  unfold jShip
  rw [e, if_neg (by decide)]
theorem no_card1 {s : Nat → Int32} {k l : Int32} (h : jin k 0 3 = false ∨ jin l 0 3 = false) : jCard s k l = (-1, none) := if_pos h
theorem no_card4 {s : Nat → Int32} {k l : Nat} (hk : k < 4) (hl : l < 4) (h : jcl s k l = false) : jCard s (nI k) (nI l) = (-4, none) := by
  unfold jCard
  rw [if_neg (by rw [jin_3 hk, jin_3 hl]; decide), tn_nI (by omega), tn_nI (by omega), if_pos h]
theorem jcl_own {s : Nat → Int32} {k : Nat} : jcl s k k = false := by unfold jcl; simp
theorem jcl_poor {s : Nat → Int32} {k l : Nat} (h : ¬ 0 < s (120 + 5 * k + 2)) : jcl s k l = false := by unfold jcl; rw [decide_eq_false h]; simp
theorem no_pass {s : Nat → Int32} {n : Nat} {h : Int32} (q : jin h 1 20 = false) : jPass s n h = (-2, none) := by
  have e : jbp s h = -2 := by
    unfold jbp
    rw [if_pos (by rw [q]; rfl)]
  unfold jPass
  rw [e, if_neg (by decide)]
theorem no_wage {s : Nat → Int32} {w : Int32} (q : jin w 0 9 = false) : jWage s w = (-2, none) := if_pos q
theorem no_wage5 {s : Nat → Int32} (h : ∃ w, w ≤ 9 ∧ s 182 = nI w) : jWage s (s 182) = (-5, none) := by
  obtain ⟨w, hw, e⟩ := h
  unfold jWage
  have e9 : jin (nI w) 0 9 = true := jin_nI (n := 9) hw (by decide)
  rw [if_neg (by rw [e, e9]; decide), if_pos rfl]
theorem nI_nk {a k : Nat} (h : a ≠ k) (ha : a < 2 ^ 31) (hk : k < 2 ^ 31) {x : Int32} (hx : x = nI k) : nI a ≠ x := fun e => h ((nI_eq ha hk).mp (e.trans hx))
theorem no_cell {s : Nat → Int32} {n a : Nat} (h : 4 ≤ a) (ha : a < 2 ^ 31) : jcellOf s n 5 (nI a) = -2 := by
  unfold jcellOf
  rw [if_neg (by decide), if_neg (nI_nk (x := 0) (k := 0) (by omega) ha (by decide) rfl), if_neg (nI_nk (x := 1) (k := 1) (by omega) ha (by decide) rfl), if_neg (nI_nk (x := 2) (k := 2) (by omega) ha (by decide) rfl), if_neg (nI_nk (x := 3) (k := 3) (by omega) ha (by decide) rfl)]
theorem no_count {s : Nat → Int32} {n a : Nat} {np len : Int32} (h : 14 ≤ a) (ha : a < 2 ^ 31) : jcount s n np len (nI a) = -2 := by
  unfold jcount
  rw [if_neg (nI_nk (x := 0) (k := 0) (by omega) ha (by decide) rfl), if_neg (nI_nk (x := 1) (k := 1) (by omega) ha (by decide) rfl), if_neg (nI_nk (x := 2) (k := 2) (by omega) ha (by decide) rfl), if_neg (nI_nk (x := 3) (k := 3) (by omega) ha (by decide) rfl), if_neg (nI_nk (x := 4) (k := 4) (by omega) ha (by decide) rfl), if_neg (nI_nk (x := 5) (k := 5) (by omega) ha (by decide) rfl), if_neg (nI_nk (x := 6) (k := 6) (by omega) ha (by decide) rfl), if_neg (nI_nk (x := 7) (k := 7) (by omega) ha (by decide) rfl), if_neg (nI_nk (x := 8) (k := 8) (by omega) ha (by decide) rfl), if_neg (nI_nk (x := 9) (k := 9) (by omega) ha (by decide) rfl), if_neg (nI_nk (x := 10) (k := 10) (by omega) ha (by decide) rfl), if_neg (nI_nk (x := 11) (k := 11) (by omega) ha (by decide) rfl), if_neg (nI_nk (x := 12) (k := 12) (by omega) ha (by decide) rfl), if_neg (nI_nk (x := 13) (k := 13) (by omega) ha (by decide) rfl)]
theorem jfit_big {w v : Int32} (h : w < 0 ∨ 4 ≤ w) : jfit w v = false := jfit_o h
theorem no_text (t : Nat → Int32) : jfault t 0 = 0 ∧ ∀ s, jdoAll t 0 s = (-100, none) := by
  have e : jnxt t 0 = jnxt jz 0 := tc_ag (fun p hp => absurd hp (Nat.not_lt_zero _))
  rw [tc_fault e]
  refine ⟨by decide +kernel, fun s => ?_⟩
  rw [tc_all e]
  have h : (jRd jz 0).1 = (0, true) := by decide +kernel
  unfold jdoAll
  rw [h]
  rfl
theorem no_text1 (t : Nat → Int32) : jfault (upd t 0 (nI 59)) 1 = 0 := by
  have e : jnxt (upd t 0 (nI 59)) 1 = jnxt (upd jz 0 (nI 59)) 1 := tc_ag (fun p hp => by
    have : p = 0 := by omega
    subst this
    rw [upd_s, upd_s])
  rw [tc_fault e]
  decide +kernel
theorem fc_1 : Op.cmpValue (FP.fcmp 3212836864 3212836864) .l = 0 := by decide +kernel
theorem fc_c (c : Int32) (h : jin c 0 99 = false) (s : Nat → Int32) : jshare s c = 3212836864 := if_pos h
set_option maxHeartbeats 4000000 in
set_option maxRecDepth 100000 in
theorem c_L_refuses {G : bkG} {Z : Nat → Prop} {M : bkM} {x : Nat} {S O : Nat → Nat → Int32} {od : Nat → Nat} {t : Nat → Int32} {pc pl : Int32} {pf : Nat → Nat → Int32} {len : Nat} {A : jA} {B : Nat} (h : LJ S O od t len A) (hJ : JJ B A) (y : Nat) (hy : y < 100000) : bkCi G Z Z yL_refuses cL_refuses 7 (some .boolean) 8 0 0 [.ref x, .int (nI y)] (xW G x S O od (nI (jaN A)) (jaK A) t (nI len) pc pl pf M) (aPost G x M (1, A)) := by
  refine bk_metz [some (.ref x), some (.int (nI y)), none, none, none, none, none] rfl pf_L_refuses rfl rfl (fun E X K => ?_)
  obtain ⟨n, hk0⟩ := h.cok
  obtain ⟨hnp, h0, h60, ht⟩ := h.np
  refine bkV.eq h.eq ?_
  have h := h.strict
  have hs : pfu S 0 (jaS A) 0 = jaS A := pfu_at
  generalize pfu S 0 (jaS A) = S at h hs ⊢
  have hk : cOK (S 0) n (O 0) := by rw [hs]; exact hk0
  have hn8 := hk.1.1
  have hn180 : S 0 180 = nI n := hk.1.2.1
  have hwg : ∃ w, w ≤ 9 ∧ S 0 182 = nI w := by rw [hs]; obtain ⟨m, h9, -, hI, -⟩ := hJ.1; exact hI.2.1.2
  have hpc : S 0 111 ≠ 0 := by rw [hs]; obtain ⟨m, h9, -, hI, -⟩ := hJ.1; exact (hI.1 2 (by omega)).2
  have T523 : ∀ S O, LJ S O od t len A → S 0 = jaS A → bkV E G Z 0 0 (xW G x S O od (nI (jaN A)) (jaK A) t (nI len) pc pl pf M) 523 [some (.ref x), some (.int (nI y)), none, none, none, some (.int 1), none] [] := by
    intro S O h hs
    have hk : cOK (S 0) n (O 0) := by obtain ⟨m, hm⟩ := h.cok; rw [hs]; rw [← hm.1.tn.symm.trans hk0.1.tn]; exact hm
    refine r_aload_n (pc := 523) X rfl dL_refuses_523 ?_
    refine ca_L_39 (pc := 524) X (c_X8_clearText) xW_o rfl rfl rfl dL_refuses_524 (fun r524 M524 hp524 => ?_)
    obtain ⟨rfl, rfl⟩ := hp524
    refine r_istore (pc := 527) X rfl rfl dL_refuses_527 ?_
    refine r_iload (pc := 529) X rfl dL_refuses_529 ?_
    refine r_if_eq (pc := 531) X 604 (by decide) dL_refuses_531 (fun q531 => ?_) (fun q531 => ?_)
    · skip
      exact absurd q531 (by decide)
    · skip
      refine r_iload (pc := 534) X rfl dL_refuses_534 ?_
      refine r_if_lt (pc := 536) X 604 (by decide) dL_refuses_536 (fun q536 => ?_) (fun q536 => ?_)
      · skip
        exact absurd q536 (nI_pos (by omega))
      · skip
        refine r_aload_n (pc := 539) X rfl dL_refuses_539 ?_
        refine ca_L_46 (pc := 540) X (c_X8_fault (len := 0) (by omega) ht) xW_o rfl rfl rfl dL_refuses_540 (fun r540 M540 hp540 => ?_)
        obtain ⟨e1, pc2, pl2, pf2, rfl⟩ := hp540
        rw [(no_text t).1] at e1
        obtain rfl : r540 = 0 := e1
        refine r_if_ne (pc := 543) X 604 (by decide) dL_refuses_543 (fun q543 => ?_) (fun q543 => ?_)
        · skip
          exact absurd rfl q543
        · skip
          refine r_aload_n (pc := 546) X rfl dL_refuses_546 ?_
          refine ca_L_49 (pc := 547) X (c_X8_doAll (len := 0) (by omega) ht hnp h0 hk) xW_o rfl rfl rfl dL_refuses_547 (fun r547 M547 hp547 => ?_)
          obtain ⟨e1, s1, g1, pc3, pl3, pf3, go, e2, -⟩ := hp547
          rw [(no_text t).2] at e1 e2
          obtain rfl : r547 = -100 := e1
          obtain rfl : M547 = (xW G x (pfu S 1 s1) (pfu O 1 g1) od (nI (jaN A)) (jaK A) t (nI 0) pc3 pl3 pf3 M) := e2
          have h3 := h.trial (s1 := s1) (g1 := g1)
          have hs3 : pfu S 1 s1 0 = jaS A := (pfu_ne (by decide)).trans hs
          have hk3 : cOK (pfu S 1 s1 0) n (pfu O 1 g1 0) := hk
          generalize pfu S 1 s1 = S at h3 hs3 hk3 ⊢
          generalize pfu O 1 g1 = O at h3 hk3 ⊢
          have h := h3
          have hs := hs3
          have hk := hk3
          refine r_bipush (pc := 550) (v := (-100)) X rfl dL_refuses_550 ?_
          refine r_icmp_ne (pc := 552) X 604 (by decide) dL_refuses_552 (fun q552 => ?_) (fun q552 => ?_)
          · skip
            exact absurd rfl q552
          · skip
            refine r_aload_n (pc := 555) X rfl dL_refuses_555 ?_
            refine r_iconst (pc := 556) (v := 0) X rfl dL_refuses_556 ?_
            refine r_iconst (pc := 557) (v := 2) X rfl dL_refuses_557 ?_
            refine ca_L_74 (pc := 558) X (c_X8_keeperOf hk 0 2) xW_o rfl rfl rfl dL_refuses_558 (fun r558 M558 hp558 => ?_)
            obtain ⟨rfl, rfl⟩ := hp558
            refine bkV.join 575 (stT := []) ?_ (fun j575 => ?_)
            · skip
              refine r_aload_n (pc := 575) X rfl dL_refuses_575 ?_
              refine r_bipush (pc := 576) (v := 59) X rfl dL_refuses_576 ?_
              refine ca_L_42 (pc := 578) X (c_ty (X' := (t, 0)) (by omega) 59 (by omega)) xW_o rfl rfl rfl dL_refuses_578 (fun r578 M578 hp578 => ?_)
              obtain ⟨rfl, rfl⟩ := hp578
              refine r_iconst (pc := 581) (v := 1) X rfl dL_refuses_581 ?_
              refine r_icmp_ne (pc := 582) X 604 (by decide) dL_refuses_582 (fun q582 => ?_) (fun q582 => ?_)
              · skip
                exact absurd rfl q582
              · skip
                refine r_aload_n (pc := 585) X rfl dL_refuses_585 ?_
                refine ca_L_46 (pc := 586) X (c_X8_fault (len := 1) (by omega) ((h.clear).type (x := (t, 0)) (by omega) (c := 59) (by omega)).np.2.2.2) xW_o rfl rfl rfl dL_refuses_586 (fun r586 M586 hp586 => ?_)
                obtain ⟨e1, pc4, pl4, pf4, rfl⟩ := hp586
                rw [show jfault (jty (t, 0) 59).1 1 = 0 from no_text1 t] at e1
                obtain rfl : r586 = 0 := e1
                refine r_if_ne (pc := 589) X 604 (by decide) dL_refuses_589 (fun q589 => ?_) (fun q589 => ?_)
                · skip
                  exact absurd rfl q589
                · skip
                  refine r_aload_n (pc := 592) X rfl dL_refuses_592 ?_
                  refine ca_L_39 (pc := 593) X (c_X8_clearText) xW_o rfl rfl rfl dL_refuses_593 (fun r593 M593 hp593 => ?_)
                  obtain ⟨rfl, rfl⟩ := hp593
                  refine r_iconst (pc := 596) (v := 1) X rfl dL_refuses_596 ?_
                  refine r_icmp_ne (pc := 597) X 604 (by decide) dL_refuses_597 (fun q597 => ?_) (fun q597 => ?_)
                  · skip
                    exact absurd rfl q597
                  · skip
                    refine r_iconst (pc := 600) (v := 1) X rfl dL_refuses_600 ?_
                    refine r_goto (pc := 601) X 605 (by decide) dL_refuses_601 ?_
                    exact K dL_refuses_605 (by first | exact Or.inl rfl | exact Or.inr rfl) ⟨rfl, S, O, od, _, 0, _, _, _, rfl, ((h.clear).type (x := (t, 0)) (by omega) (c := 59) (by omega)).clear⟩
            refine r_if_gt (pc := 561) X 575 (by decide) dL_refuses_561 (fun q561 => ?_) (fun q561 => ?_)
            · skip
              exact j575
            · skip
              refine r_aload_n (pc := 564) X rfl dL_refuses_564 ?_
              refine r_iconst (pc := 565) (v := 0) X rfl dL_refuses_565 ?_
              refine r_iconst (pc := 566) (v := 1) X rfl dL_refuses_566 ?_
              refine ca_L_22 (pc := 567) X (c_X8_card hnp h0 hk 0 1) xW_o rfl rfl rfl dL_refuses_567 (fun r567 M567 hp567 => ?_)
              obtain ⟨e1, go, e2, -⟩ := hp567
              rw [show jCard (S 0) 0 1 = (-4, none) from no_card4 (k := 0) (l := 1) (by omega) (by omega) (jcl_poor q561)] at e1 e2
              obtain rfl : r567 = -4 := e1
              obtain rfl : M567 = (xW G x S O od (nI (jaN A)) (jaK A) t (nI 0) pc3 pl3 pf3 M) := e2
              refine r_bipush (pc := 570) (v := (-4)) X rfl dL_refuses_570 ?_
              refine r_icmp_ne (pc := 572) X 604 (by decide) dL_refuses_572 (fun q572 => ?_) (fun q572 => ?_)
              · skip
                exact absurd rfl q572
              · skip
                exact j575
  have R54 : ∀ {no off gone : Int32}, jin no 0 3 = false → jin off 0 99 = false → jin gone 0 (nI n - 1) = false → bkV E G Z 0 0 (xW G x S O od (nI (jaN A)) (jaK A) t (nI len) pc pl pf M) 54 [some (.ref x), some (.int (nI y)), some (.int no), some (.int off), some (.int gone), none, none] [] := by
    intro no off gone hno hoff hgone
    refine r_aload_n (pc := 54) X rfl dL_refuses_54 ?_
    refine r_iload_n (pc := 55) X rfl dL_refuses_55 ?_
    refine ca_L_9 (pc := 56) X (c_X8_rock hnp h0 hk off) xW_o rfl rfl rfl dL_refuses_56 (fun r56 M56 hp56 => ?_)
    obtain ⟨e1, go, e2, -⟩ := hp56
    rw [no_rock hoff] at e1 e2
    obtain rfl : r56 = -1 := e1
    obtain rfl : M56 = (xW G x S O od (nI (jaN A)) (jaK A) t (nI len) pc pl pf M) := e2
    refine r_iconst (pc := 59) (v := (-1)) X rfl dL_refuses_59 ?_
    refine r_icmp_ne (pc := 60) X 520 (by decide) dL_refuses_60 (fun q60 => ?_) (fun q60 => ?_)
    · skip
      exact absurd rfl q60
    · skip
      refine r_aload_n (pc := 63) X rfl dL_refuses_63 ?_
      refine r_bipush (pc := 64) (v := 77) X rfl dL_refuses_64 ?_
      refine ca_L_9 (pc := 66) X (c_X8_rock hnp h0 hk 77) xW_o rfl rfl rfl dL_refuses_66 (fun r66 M66 hp66 => ?_)
      obtain ⟨e1, go, e2, -⟩ := hp66
      rw [no_rock77] at e1 e2
      obtain rfl : r66 = -4 := e1
      obtain rfl : M66 = (xW G x S O od (nI (jaN A)) (jaK A) t (nI len) pc pl pf M) := e2
      refine r_bipush (pc := 69) (v := (-4)) X rfl dL_refuses_69 ?_
      refine r_icmp_ne (pc := 71) X 520 (by decide) dL_refuses_71 (fun q71 => ?_) (fun q71 => ?_)
      · skip
        exact absurd rfl q71
      · skip
        refine r_aload_n (pc := 74) X rfl dL_refuses_74 ?_
        refine r_iload_n (pc := 75) X rfl dL_refuses_75 ?_
        refine r_iconst (pc := 76) (v := 0) X rfl dL_refuses_76 ?_
        refine r_iconst (pc := 77) (v := 0) X rfl dL_refuses_77 ?_
        refine ca_L_15 (pc := 78) X (c_X8_light hnp h0 hk no 0 0) xW_o rfl rfl rfl dL_refuses_78 (fun r78 M78 hp78 => ?_)
        obtain ⟨e1, go, e2, -⟩ := hp78
        rw [no_light hno] at e1 e2
        obtain rfl : r78 = -1 := e1
        obtain rfl : M78 = (xW G x S O od (nI (jaN A)) (jaK A) t (nI len) pc pl pf M) := e2
        refine r_iconst (pc := 81) (v := (-1)) X rfl dL_refuses_81 ?_
        refine r_icmp_ne (pc := 82) X 520 (by decide) dL_refuses_82 (fun q82 => ?_) (fun q82 => ?_)
        · skip
          exact absurd rfl q82
        · skip
          refine r_aload_n (pc := 85) X rfl dL_refuses_85 ?_
          refine r_iconst (pc := 86) (v := 0) X rfl dL_refuses_86 ?_
          refine r_iconst (pc := 87) (v := 4) X rfl dL_refuses_87 ?_
          refine r_iload_n (pc := 88) X rfl dL_refuses_88 ?_
          refine r_iadd (pc := 89) X dL_refuses_89 ?_
          refine bk_top (nI_add 4 y) ?_
          refine r_iconst (pc := 90) (v := 0) X rfl dL_refuses_90 ?_
          refine ca_L_15 (pc := 91) X (c_X8_light hnp h0 hk 0 (nI (4 + y)) 0) xW_o rfl rfl rfl dL_refuses_91 (fun r91 M91 hp91 => ?_)
          obtain ⟨e1, go, e2, -⟩ := hp91
          rw [no_light2 (l := 0) (w := nI (4 + y)) (v := 0) (by decide) (jfit_o (Or.inr ((nI_leI (a := 4) (by omega) (by omega)).mpr (by omega))))] at e1 e2
          obtain rfl : r91 = -2 := e1
          obtain rfl : M91 = (xW G x S O od (nI (jaN A)) (jaK A) t (nI len) pc pl pf M) := e2
          refine r_bipush (pc := 94) (v := (-2)) X rfl dL_refuses_94 ?_
          refine r_icmp_ne (pc := 96) X 520 (by decide) dL_refuses_96 (fun q96 => ?_) (fun q96 => ?_)
          · skip
            exact absurd rfl q96
          · skip
            refine r_aload_n (pc := 99) X rfl dL_refuses_99 ?_
            refine r_iconst (pc := 100) (v := 1) X rfl dL_refuses_100 ?_
            refine r_iconst (pc := 101) (v := 0) X rfl dL_refuses_101 ?_
            refine r_bipush (pc := 102) (v := 8) X rfl dL_refuses_102 ?_
            refine r_iload_n (pc := 104) X rfl dL_refuses_104 ?_
            refine r_iadd (pc := 105) X dL_refuses_105 ?_
            refine bk_top (nI_add 8 y) ?_
            refine ca_L_15 (pc := 106) X (c_X8_light hnp h0 hk 1 0 (nI (8 + y))) xW_o rfl rfl rfl dL_refuses_106 (fun r106 M106 hp106 => ?_)
            obtain ⟨e1, go, e2, -⟩ := hp106
            rw [no_light2 (l := 1) (w := 0) (v := nI (8 + y)) (by decide) (show jin (nI (8 + y)) 0 7 = false from jin_big (b := 7) rfl (by omega) (by omega))] at e1 e2
            obtain rfl : r106 = -2 := e1
            obtain rfl : M106 = (xW G x S O od (nI (jaN A)) (jaK A) t (nI len) pc pl pf M) := e2
            refine r_bipush (pc := 109) (v := (-2)) X rfl dL_refuses_109 ?_
            refine r_icmp_ne (pc := 111) X 520 (by decide) dL_refuses_111 (fun q111 => ?_) (fun q111 => ?_)
            · skip
              exact absurd rfl q111
            · skip
              refine r_aload_n (pc := 114) X rfl dL_refuses_114 ?_
              refine r_iconst (pc := 115) (v := 1) X rfl dL_refuses_115 ?_
              refine r_iconst (pc := 116) (v := 2) X rfl dL_refuses_116 ?_
              refine r_iconst (pc := 117) (v := 0) X rfl dL_refuses_117 ?_
              refine ca_L_15 (pc := 118) X (c_X8_light hnp h0 hk 1 2 0) xW_o rfl rfl rfl dL_refuses_118 (fun r118 M118 hp118 => ?_)
              obtain ⟨e1, go, e2, -⟩ := hp118
              rw [no_light2 (l := 1) (w := 2) (v := 0) (by decide) (by decide)] at e1 e2
              obtain rfl : r118 = -2 := e1
              obtain rfl : M118 = (xW G x S O od (nI (jaN A)) (jaK A) t (nI len) pc pl pf M) := e2
              refine r_bipush (pc := 121) (v := (-2)) X rfl dL_refuses_121 ?_
              refine r_icmp_ne (pc := 123) X 520 (by decide) dL_refuses_123 (fun q123 => ?_) (fun q123 => ?_)
              · skip
                exact absurd rfl q123
              · skip
                refine r_aload_n (pc := 126) X rfl dL_refuses_126 ?_
                refine r_iconst (pc := 127) (v := 1) X rfl dL_refuses_127 ?_
                refine r_iconst (pc := 128) (v := 3) X rfl dL_refuses_128 ?_
                refine r_sipush (pc := 129) (v := 256) X rfl dL_refuses_129 ?_
                refine r_iload_n (pc := 132) X rfl dL_refuses_132 ?_
                refine r_iadd (pc := 133) X dL_refuses_133 ?_
                refine bk_top (nI_add 256 y) ?_
                refine ca_L_15 (pc := 134) X (c_X8_light hnp h0 hk 1 3 (nI (256 + y))) xW_o rfl rfl rfl dL_refuses_134 (fun r134 M134 hp134 => ?_)
                obtain ⟨e1, go, e2, -⟩ := hp134
                rw [no_light2 (l := 1) (w := 3) (v := nI (256 + y)) (by decide) (show jin (nI (256 + y)) 0 255 = false from jin_big (b := 255) rfl (by omega) (by omega))] at e1 e2
                obtain rfl : r134 = -2 := e1
                obtain rfl : M134 = (xW G x S O od (nI (jaN A)) (jaK A) t (nI len) pc pl pf M) := e2
                refine r_bipush (pc := 137) (v := (-2)) X rfl dL_refuses_137 ?_
                refine r_icmp_ne (pc := 139) X 520 (by decide) dL_refuses_139 (fun q139 => ?_) (fun q139 => ?_)
                · skip
                  exact absurd rfl q139
                · skip
                  refine r_aload_n (pc := 142) X rfl dL_refuses_142 ?_
                  refine r_iconst (pc := 143) (v := 2) X rfl dL_refuses_143 ?_
                  refine r_iconst (pc := 144) (v := 1) X rfl dL_refuses_144 ?_
                  refine r_aload_n (pc := 145) X rfl dL_refuses_145 ?_
                  refine r_iconst (pc := 146) (v := 2) X rfl dL_refuses_146 ?_
                  refine r_iconst (pc := 147) (v := 1) X rfl dL_refuses_147 ?_
                  refine ca_L_71 (pc := 148) X (c_X8_lightOf hk 2 1) xW_o rfl rfl rfl dL_refuses_148 (fun r148 M148 hp148 => ?_)
                  obtain ⟨rfl, rfl⟩ := hp148
                  refine ca_L_15 (pc := 151) X (c_X8_light hnp h0 hk 2 1 (jlightOf (S 0) 2 1)) xW_o rfl rfl rfl dL_refuses_151 (fun r151 M151 hp151 => ?_)
                  obtain ⟨e1, go, e2, -⟩ := hp151
                  rw [no_light3 (hk.2.1 2 (by omega)).2.1 hpc] at e1 e2
                  obtain rfl : r151 = -5 := e1
                  obtain rfl : M151 = (xW G x S O od (nI (jaN A)) (jaK A) t (nI len) pc pl pf M) := e2
                  refine r_bipush (pc := 154) (v := (-5)) X rfl dL_refuses_154 ?_
                  refine r_icmp_ne (pc := 156) X 520 (by decide) dL_refuses_156 (fun q156 => ?_) (fun q156 => ?_)
                  · skip
                    exact absurd rfl q156
                  · skip
                    refine r_aload_n (pc := 159) X rfl dL_refuses_159 ?_
                    refine r_iconst (pc := 160) (v := 1) X rfl dL_refuses_160 ?_
                    refine r_iload_n (pc := 161) X rfl dL_refuses_161 ?_
                    refine r_iconst (pc := 162) (v := 0) X rfl dL_refuses_162 ?_
                    refine ca_L_19 (pc := 163) X (c_X8_ship hnp h0 hk 1 off 0) xW_o rfl rfl rfl dL_refuses_163 (fun r163 M163 hp163 => ?_)
                    obtain ⟨e1, go, e2, -⟩ := hp163
                    rw [no_ship1 (by rw [hoff]; rfl)] at e1 e2
                    obtain rfl : r163 = -1 := e1
                    obtain rfl : M163 = (xW G x S O od (nI (jaN A)) (jaK A) t (nI len) pc pl pf M) := e2
                    refine r_iconst (pc := 166) (v := (-1)) X rfl dL_refuses_166 ?_
                    refine r_icmp_ne (pc := 167) X 520 (by decide) dL_refuses_167 (fun q167 => ?_) (fun q167 => ?_)
                    · skip
                      exact absurd rfl q167
                    · skip
                      refine r_aload_n (pc := 170) X rfl dL_refuses_170 ?_
                      refine r_iconst (pc := 171) (v := 1) X rfl dL_refuses_171 ?_
                      refine r_iconst (pc := 172) (v := 0) X rfl dL_refuses_172 ?_
                      refine r_iload_n (pc := 173) X rfl dL_refuses_173 ?_
                      refine ca_L_19 (pc := 174) X (c_X8_ship hnp h0 hk 1 0 off) xW_o rfl rfl rfl dL_refuses_174 (fun r174 M174 hp174 => ?_)
                      obtain ⟨e1, go, e2, -⟩ := hp174
                      rw [no_ship1 (by rw [hoff]; rfl)] at e1 e2
                      obtain rfl : r174 = -1 := e1
                      obtain rfl : M174 = (xW G x S O od (nI (jaN A)) (jaK A) t (nI len) pc pl pf M) := e2
                      refine r_iconst (pc := 177) (v := (-1)) X rfl dL_refuses_177 ?_
                      refine r_icmp_ne (pc := 178) X 520 (by decide) dL_refuses_178 (fun q178 => ?_) (fun q178 => ?_)
                      · skip
                        exact absurd rfl q178
                      · skip
                        refine r_aload_n (pc := 181) X rfl dL_refuses_181 ?_
                        refine r_bipush (pc := 182) (v := 100) X rfl dL_refuses_182 ?_
                        refine r_iload_n (pc := 184) X rfl dL_refuses_184 ?_
                        refine r_iadd (pc := 185) X dL_refuses_185 ?_
                        refine bk_top (nI_add 100 y) ?_
                        refine r_iconst (pc := 186) (v := 0) X rfl dL_refuses_186 ?_
                        refine r_iconst (pc := 187) (v := 0) X rfl dL_refuses_187 ?_
                        refine ca_L_19 (pc := 188) X (c_X8_ship hnp h0 hk (nI (100 + y)) 0 0) xW_o rfl rfl rfl dL_refuses_188 (fun r188 M188 hp188 => ?_)
                        obtain ⟨e1, go, e2, -⟩ := hp188
                        rw [no_ship2 (jin_big (b := 99) rfl (by omega) (by omega))] at e1 e2
                        obtain rfl : r188 = -2 := e1
                        obtain rfl : M188 = (xW G x S O od (nI (jaN A)) (jaK A) t (nI len) pc pl pf M) := e2
                        refine r_bipush (pc := 191) (v := (-2)) X rfl dL_refuses_191 ?_
                        refine r_icmp_ne (pc := 193) X 520 (by decide) dL_refuses_193 (fun q193 => ?_) (fun q193 => ?_)
                        · skip
                          exact absurd rfl q193
                        · skip
                          refine r_aload_n (pc := 196) X rfl dL_refuses_196 ?_
                          refine r_iconst (pc := 197) (v := 1) X rfl dL_refuses_197 ?_
                          refine r_bipush (pc := 198) (v := 9) X rfl dL_refuses_198 ?_
                          refine r_bipush (pc := 200) (v := 9) X rfl dL_refuses_200 ?_
                          refine ca_L_19 (pc := 202) X (c_X8_ship hnp h0 hk 1 9 9) xW_o rfl rfl rfl dL_refuses_202 (fun r202 M202 hp202 => ?_)
                          obtain ⟨e1, go, e2, -⟩ := hp202
                          rw [no_ship4] at e1 e2
                          obtain rfl : r202 = -4 := e1
                          obtain rfl : M202 = (xW G x S O od (nI (jaN A)) (jaK A) t (nI len) pc pl pf M) := e2
                          refine r_bipush (pc := 205) (v := (-4)) X rfl dL_refuses_205 ?_
                          refine r_icmp_ne (pc := 207) X 520 (by decide) dL_refuses_207 (fun q207 => ?_) (fun q207 => ?_)
                          · skip
                            exact absurd rfl q207
                          · skip
                            refine r_aload_n (pc := 210) X rfl dL_refuses_210 ?_
                            refine r_iload_n (pc := 211) X rfl dL_refuses_211 ?_
                            refine r_iconst (pc := 212) (v := 0) X rfl dL_refuses_212 ?_
                            refine ca_L_22 (pc := 213) X (c_X8_card hnp h0 hk no 0) xW_o rfl rfl rfl dL_refuses_213 (fun r213 M213 hp213 => ?_)
                            obtain ⟨e1, go, e2, -⟩ := hp213
                            rw [no_card1 (Or.inl hno)] at e1 e2
                            obtain rfl : r213 = -1 := e1
                            obtain rfl : M213 = (xW G x S O od (nI (jaN A)) (jaK A) t (nI len) pc pl pf M) := e2
                            refine r_iconst (pc := 216) (v := (-1)) X rfl dL_refuses_216 ?_
                            refine r_icmp_ne (pc := 217) X 520 (by decide) dL_refuses_217 (fun q217 => ?_) (fun q217 => ?_)
                            · skip
                              exact absurd rfl q217
                            · skip
                              refine r_aload_n (pc := 220) X rfl dL_refuses_220 ?_
                              refine r_iconst (pc := 221) (v := 0) X rfl dL_refuses_221 ?_
                              refine r_iload_n (pc := 222) X rfl dL_refuses_222 ?_
                              refine ca_L_22 (pc := 223) X (c_X8_card hnp h0 hk 0 no) xW_o rfl rfl rfl dL_refuses_223 (fun r223 M223 hp223 => ?_)
                              obtain ⟨e1, go, e2, -⟩ := hp223
                              rw [no_card1 (Or.inr hno)] at e1 e2
                              obtain rfl : r223 = -1 := e1
                              obtain rfl : M223 = (xW G x S O od (nI (jaN A)) (jaK A) t (nI len) pc pl pf M) := e2
                              refine r_iconst (pc := 226) (v := (-1)) X rfl dL_refuses_226 ?_
                              refine r_icmp_ne (pc := 227) X 520 (by decide) dL_refuses_227 (fun q227 => ?_) (fun q227 => ?_)
                              · skip
                                exact absurd rfl q227
                              · skip
                                refine r_aload_n (pc := 230) X rfl dL_refuses_230 ?_
                                refine r_iload_n (pc := 231) X rfl dL_refuses_231 ?_
                                refine r_iconst (pc := 232) (v := 4) X rfl dL_refuses_232 ?_
                                refine r_irem (pc := 233) X (by decide) dL_refuses_233 ?_
                                refine bk_top (pk_rem (a := y) (d := 4) (by omega) (by omega) (by omega)) ?_
                                refine r_iload_n (pc := 234) X rfl dL_refuses_234 ?_
                                refine r_iconst (pc := 235) (v := 4) X rfl dL_refuses_235 ?_
                                refine r_irem (pc := 236) X (by decide) dL_refuses_236 ?_
                                refine bk_top (pk_rem (a := y) (d := 4) (by omega) (by omega) (by omega)) ?_
                                refine ca_L_22 (pc := 237) X (c_X8_card hnp h0 hk (nI (y % 4)) (nI (y % 4))) xW_o rfl rfl rfl dL_refuses_237 (fun r237 M237 hp237 => ?_)
                                obtain ⟨e1, go, e2, -⟩ := hp237
                                rw [no_card4 (by omega) (by omega) jcl_own] at e1 e2
                                obtain rfl : r237 = -4 := e1
                                obtain rfl : M237 = (xW G x S O od (nI (jaN A)) (jaK A) t (nI len) pc pl pf M) := e2
                                refine r_bipush (pc := 240) (v := (-4)) X rfl dL_refuses_240 ?_
                                refine r_icmp_ne (pc := 242) X 520 (by decide) dL_refuses_242 (fun q242 => ?_) (fun q242 => ?_)
                                · skip
                                  exact absurd rfl q242
                                · skip
                                  refine r_aload_n (pc := 245) X rfl dL_refuses_245 ?_
                                  refine r_iconst (pc := 246) (v := 0) X rfl dL_refuses_246 ?_
                                  refine ca_L_52 (pc := 247) X (c_X8_pass hnp h0 hk 0) xW_o rfl rfl rfl dL_refuses_247 (fun r247 M247 hp247 => ?_)
                                  obtain ⟨e1, go, e2, -⟩ := hp247
                                  rw [no_pass (by decide)] at e1 e2
                                  obtain rfl : r247 = -2 := e1
                                  obtain rfl : M247 = (xW G x S O od (nI (jaN A)) (jaK A) t (nI len) pc pl pf M) := e2
                                  refine r_bipush (pc := 250) (v := (-2)) X rfl dL_refuses_250 ?_
                                  refine r_icmp_ne (pc := 252) X 520 (by decide) dL_refuses_252 (fun q252 => ?_) (fun q252 => ?_)
                                  · skip
                                    exact absurd rfl q252
                                  · skip
                                    refine r_aload_n (pc := 255) X rfl dL_refuses_255 ?_
                                    refine r_bipush (pc := 256) (v := 21) X rfl dL_refuses_256 ?_
                                    refine r_iload_n (pc := 258) X rfl dL_refuses_258 ?_
                                    refine r_iadd (pc := 259) X dL_refuses_259 ?_
                                    refine bk_top (nI_add 21 y) ?_
                                    refine ca_L_52 (pc := 260) X (c_X8_pass hnp h0 hk (nI (21 + y))) xW_o rfl rfl rfl dL_refuses_260 (fun r260 M260 hp260 => ?_)
                                    obtain ⟨e1, go, e2, -⟩ := hp260
                                    rw [no_pass (jin_big (b := 20) rfl (by omega) (by omega))] at e1 e2
                                    obtain rfl : r260 = -2 := e1
                                    obtain rfl : M260 = (xW G x S O od (nI (jaN A)) (jaK A) t (nI len) pc pl pf M) := e2
                                    refine r_bipush (pc := 263) (v := (-2)) X rfl dL_refuses_263 ?_
                                    refine r_icmp_ne (pc := 265) X 520 (by decide) dL_refuses_265 (fun q265 => ?_) (fun q265 => ?_)
                                    · skip
                                      exact absurd rfl q265
                                    · skip
                                      refine r_aload_n (pc := 268) X rfl dL_refuses_268 ?_
                                      refine r_bipush (pc := 269) (v := 10) X rfl dL_refuses_269 ?_
                                      refine r_iload_n (pc := 271) X rfl dL_refuses_271 ?_
                                      refine r_iadd (pc := 272) X dL_refuses_272 ?_
                                      refine bk_top (nI_add 10 y) ?_
                                      refine ca_L_26 (pc := 273) X (c_X8_wage hnp h0 hk (nI (10 + y))) xW_o rfl rfl rfl dL_refuses_273 (fun r273 M273 hp273 => ?_)
                                      obtain ⟨e1, go, e2, -⟩ := hp273
                                      rw [no_wage (jin_big (b := 9) rfl (by omega) (by omega))] at e1 e2
                                      obtain rfl : r273 = -2 := e1
                                      obtain rfl : M273 = (xW G x S O od (nI (jaN A)) (jaK A) t (nI len) pc pl pf M) := e2
                                      refine r_bipush (pc := 276) (v := (-2)) X rfl dL_refuses_276 ?_
                                      refine r_icmp_ne (pc := 278) X 520 (by decide) dL_refuses_278 (fun q278 => ?_) (fun q278 => ?_)
                                      · skip
                                        exact absurd rfl q278
                                      · skip
                                        refine r_aload_n (pc := 281) X rfl dL_refuses_281 ?_
                                        refine r_aload_n (pc := 282) X rfl dL_refuses_282 ?_
                                        refine r_bipush (pc := 283) (v := 13) X rfl dL_refuses_283 ?_
                                        refine ca_L_80 (pc := 285) X (c_X8_count hk 13) xW_o rfl rfl rfl dL_refuses_285 (fun r285 M285 hp285 => ?_)
                                        obtain ⟨e1, rfl⟩ := hp285
                                        obtain rfl : r285 = S 0 182 := e1
                                        refine ca_L_26 (pc := 288) X (c_X8_wage hnp h0 hk (S 0 182)) xW_o rfl rfl rfl dL_refuses_288 (fun r288 M288 hp288 => ?_)
                                        obtain ⟨e1, go, e2, -⟩ := hp288
                                        rw [no_wage5 hwg] at e1 e2
                                        obtain rfl : r288 = -5 := e1
                                        obtain rfl : M288 = (xW G x S O od (nI (jaN A)) (jaK A) t (nI len) pc pl pf M) := e2
                                        refine r_bipush (pc := 291) (v := (-5)) X rfl dL_refuses_291 ?_
                                        refine r_icmp_ne (pc := 293) X 520 (by decide) dL_refuses_293 (fun q293 => ?_) (fun q293 => ?_)
                                        · skip
                                          exact absurd rfl q293
                                        · skip
                                          refine r_aload_n (pc := 296) X rfl dL_refuses_296 ?_
                                          refine r_iload_n (pc := 297) X rfl dL_refuses_297 ?_
                                          refine r_iconst (pc := 298) (v := 0) X rfl dL_refuses_298 ?_
                                          refine ca_L_55 (pc := 299) X (c_X8_cellOf hk off 0) xW_o rfl rfl rfl dL_refuses_299 (fun r299 M299 hp299 => ?_)
                                          obtain ⟨e1, rfl⟩ := hp299
                                          rw [show jcellOf (S 0) n off 0 = -1 from if_pos hoff] at e1
                                          obtain rfl : r299 = -1 := e1
                                          refine r_iconst (pc := 302) (v := (-1)) X rfl dL_refuses_302 ?_
                                          refine r_icmp_ne (pc := 303) X 520 (by decide) dL_refuses_303 (fun q303 => ?_) (fun q303 => ?_)
                                          · skip
                                            exact absurd rfl q303
                                          · skip
                                            refine r_aload_n (pc := 306) X rfl dL_refuses_306 ?_
                                            refine r_iconst (pc := 307) (v := 5) X rfl dL_refuses_307 ?_
                                            refine r_iconst (pc := 308) (v := 4) X rfl dL_refuses_308 ?_
                                            refine r_iload_n (pc := 309) X rfl dL_refuses_309 ?_
                                            refine r_iadd (pc := 310) X dL_refuses_310 ?_
                                            refine bk_top (nI_add 4 y) ?_
                                            refine ca_L_55 (pc := 311) X (c_X8_cellOf hk 5 (nI (4 + y))) xW_o rfl rfl rfl dL_refuses_311 (fun r311 M311 hp311 => ?_)
                                            obtain ⟨e1, rfl⟩ := hp311
                                            rw [no_cell (by omega) (by omega)] at e1
                                            obtain rfl : r311 = -2 := e1
                                            refine r_bipush (pc := 314) (v := (-2)) X rfl dL_refuses_314 ?_
                                            refine r_icmp_ne (pc := 316) X 520 (by decide) dL_refuses_316 (fun q316 => ?_) (fun q316 => ?_)
                                            · skip
                                              exact absurd rfl q316
                                            · skip
                                              refine r_aload_n (pc := 319) X rfl dL_refuses_319 ?_
                                              refine r_iload_n (pc := 320) X rfl dL_refuses_320 ?_
                                              refine r_iconst (pc := 321) (v := 0) X rfl dL_refuses_321 ?_
                                              refine ca_L_71 (pc := 322) X (c_X8_lightOf hk no 0) xW_o rfl rfl rfl dL_refuses_322 (fun r322 M322 hp322 => ?_)
                                              obtain ⟨e1, rfl⟩ := hp322
                                              rw [show jlightOf (S 0) no 0 = -1 from if_pos hno] at e1
                                              obtain rfl : r322 = -1 := e1
                                              refine r_iconst (pc := 325) (v := (-1)) X rfl dL_refuses_325 ?_
                                              refine r_icmp_ne (pc := 326) X 520 (by decide) dL_refuses_326 (fun q326 => ?_) (fun q326 => ?_)
                                              · skip
                                                exact absurd rfl q326
                                              · skip
                                                refine r_aload_n (pc := 329) X rfl dL_refuses_329 ?_
                                                refine r_iconst (pc := 330) (v := 0) X rfl dL_refuses_330 ?_
                                                refine r_bipush (pc := 331) (v := 7) X rfl dL_refuses_331 ?_
                                                refine r_iload_n (pc := 333) X rfl dL_refuses_333 ?_
                                                refine r_iadd (pc := 334) X dL_refuses_334 ?_
                                                refine bk_top (nI_add 7 y) ?_
                                                refine ca_L_71 (pc := 335) X (c_X8_lightOf hk 0 (nI (7 + y))) xW_o rfl rfl rfl dL_refuses_335 (fun r335 M335 hp335 => ?_)
                                                obtain ⟨e1, rfl⟩ := hp335
                                                rw [show jlightOf (S 0) 0 (nI (7 + y)) = -2 from (if_neg (by decide)).trans (if_pos (jin_big (b := 6) rfl (by omega) (by omega)))] at e1
                                                obtain rfl : r335 = -2 := e1
                                                refine r_bipush (pc := 338) (v := (-2)) X rfl dL_refuses_338 ?_
                                                refine r_icmp_ne (pc := 340) X 520 (by decide) dL_refuses_340 (fun q340 => ?_) (fun q340 => ?_)
                                                · skip
                                                  exact absurd rfl q340
                                                · skip
                                                  refine r_aload_n (pc := 343) X rfl dL_refuses_343 ?_
                                                  refine r_iload_n (pc := 344) X rfl dL_refuses_344 ?_
                                                  refine r_iconst (pc := 345) (v := 0) X rfl dL_refuses_345 ?_
                                                  refine ca_L_74 (pc := 346) X (c_X8_keeperOf hk no 0) xW_o rfl rfl rfl dL_refuses_346 (fun r346 M346 hp346 => ?_)
                                                  obtain ⟨e1, rfl⟩ := hp346
                                                  rw [show jkeeperOf (S 0) no 0 = -1 from if_pos hno] at e1
                                                  obtain rfl : r346 = -1 := e1
                                                  refine r_iconst (pc := 349) (v := (-1)) X rfl dL_refuses_349 ?_
                                                  refine r_icmp_ne (pc := 350) X 520 (by decide) dL_refuses_350 (fun q350 => ?_) (fun q350 => ?_)
                                                  · skip
                                                    exact absurd rfl q350
                                                  · skip
                                                    refine r_aload_n (pc := 353) X rfl dL_refuses_353 ?_
                                                    refine r_iconst (pc := 354) (v := 0) X rfl dL_refuses_354 ?_
                                                    refine r_iconst (pc := 355) (v := 5) X rfl dL_refuses_355 ?_
                                                    refine r_iload_n (pc := 356) X rfl dL_refuses_356 ?_
                                                    refine r_iadd (pc := 357) X dL_refuses_357 ?_
                                                    refine bk_top (nI_add 5 y) ?_
                                                    refine ca_L_74 (pc := 358) X (c_X8_keeperOf hk 0 (nI (5 + y))) xW_o rfl rfl rfl dL_refuses_358 (fun r358 M358 hp358 => ?_)
                                                    obtain ⟨e1, rfl⟩ := hp358
                                                    rw [show jkeeperOf (S 0) 0 (nI (5 + y)) = -2 from (if_neg (by decide)).trans (if_pos (jin_big (b := 4) rfl (by omega) (by omega)))] at e1
                                                    obtain rfl : r358 = -2 := e1
                                                    refine r_bipush (pc := 361) (v := (-2)) X rfl dL_refuses_361 ?_
                                                    refine r_icmp_ne (pc := 363) X 520 (by decide) dL_refuses_363 (fun q363 => ?_) (fun q363 => ?_)
                                                    · skip
                                                      exact absurd rfl q363
                                                    · skip
                                                      refine r_aload_n (pc := 366) X rfl dL_refuses_366 ?_
                                                      refine r_iload (pc := 367) X rfl dL_refuses_367 ?_
                                                      refine r_iconst (pc := 369) (v := 0) X rfl dL_refuses_369 ?_
                                                      refine ca_L_58 (pc := 370) X (c_X8_shipOf hk gone 0) xW_o rfl rfl rfl dL_refuses_370 (fun r370 M370 hp370 => ?_)
                                                      obtain ⟨e1, rfl⟩ := hp370
                                                      rw [show jshipOf (S 0) n gone 0 = -1 from if_pos (by rw [hn180]; exact hgone)] at e1
                                                      obtain rfl : r370 = -1 := e1
                                                      refine r_iconst (pc := 373) (v := (-1)) X rfl dL_refuses_373 ?_
                                                      refine r_icmp_ne (pc := 374) X 520 (by decide) dL_refuses_374 (fun q374 => ?_) (fun q374 => ?_)
                                                      · skip
                                                        exact absurd rfl q374
                                                      · skip
                                                        refine r_aload_n (pc := 377) X rfl dL_refuses_377 ?_
                                                        refine r_iload_n (pc := 378) X rfl dL_refuses_378 ?_
                                                        refine r_iconst (pc := 379) (v := 0) X rfl dL_refuses_379 ?_
                                                        refine r_iconst (pc := 380) (v := 0) X rfl dL_refuses_380 ?_
                                                        refine r_iconst (pc := 381) (v := 0) X rfl dL_refuses_381 ?_
                                                        refine ca_L_86 (pc := 382) X (c_X8_isLit hk no 0 0 0) xW_o rfl rfl rfl dL_refuses_382 (fun r382 M382 hp382 => ?_)
                                                        obtain ⟨e1, rfl⟩ := hp382
                                                        rw [show jisLit (S 0) no 0 0 0 = -1 from if_pos (Or.inl hno)] at e1
                                                        obtain rfl : r382 = -1 := e1
                                                        refine r_iconst (pc := 385) (v := (-1)) X rfl dL_refuses_385 ?_
                                                        refine r_icmp_ne (pc := 386) X 520 (by decide) dL_refuses_386 (fun q386 => ?_) (fun q386 => ?_)
                                                        · skip
                                                          exact absurd rfl q386
                                                        · skip
                                                          refine r_aload_n (pc := 389) X rfl dL_refuses_389 ?_
                                                          refine r_iconst (pc := 390) (v := 0) X rfl dL_refuses_390 ?_
                                                          refine r_iload_n (pc := 391) X rfl dL_refuses_391 ?_
                                                          refine r_iconst (pc := 392) (v := 0) X rfl dL_refuses_392 ?_
                                                          refine r_iconst (pc := 393) (v := 0) X rfl dL_refuses_393 ?_
                                                          refine ca_L_86 (pc := 394) X (c_X8_isLit hk 0 off 0 0) xW_o rfl rfl rfl dL_refuses_394 (fun r394 M394 hp394 => ?_)
                                                          obtain ⟨e1, rfl⟩ := hp394
                                                          rw [show jisLit (S 0) 0 off 0 0 = -1 from if_pos (Or.inr hoff)] at e1
                                                          obtain rfl : r394 = -1 := e1
                                                          refine r_iconst (pc := 397) (v := (-1)) X rfl dL_refuses_397 ?_
                                                          refine r_icmp_ne (pc := 398) X 520 (by decide) dL_refuses_398 (fun q398 => ?_) (fun q398 => ?_)
                                                          · skip
                                                            exact absurd rfl q398
                                                          · skip
                                                            refine r_aload_n (pc := 401) X rfl dL_refuses_401 ?_
                                                            refine r_iconst (pc := 402) (v := 0) X rfl dL_refuses_402 ?_
                                                            refine r_iconst (pc := 403) (v := 0) X rfl dL_refuses_403 ?_
                                                            refine r_iconst (pc := 404) (v := (-1)) X rfl dL_refuses_404 ?_
                                                            refine r_iload_n (pc := 405) X rfl dL_refuses_405 ?_
                                                            refine r_isub (pc := 406) X dL_refuses_406 ?_
                                                            refine r_iconst (pc := 407) (v := 0) X rfl dL_refuses_407 ?_
                                                            refine ca_L_86 (pc := 408) X (c_X8_isLit hk 0 0 (-1 - nI y) 0) xW_o rfl rfl rfl dL_refuses_408 (fun r408 M408 hp408 => ?_)
                                                            obtain ⟨e1, rfl⟩ := hp408
                                                            rw [show jisLit (S 0) 0 0 (-1 - nI y) 0 = -2 from (if_neg (by decide)).trans (if_pos (Or.inl (jin_lo (neg_y y hy))))] at e1
                                                            obtain rfl : r408 = -2 := e1
                                                            refine r_bipush (pc := 411) (v := (-2)) X rfl dL_refuses_411 ?_
                                                            refine r_icmp_ne (pc := 413) X 520 (by decide) dL_refuses_413 (fun q413 => ?_) (fun q413 => ?_)
                                                            · skip
                                                              exact absurd rfl q413
                                                            · skip
                                                              refine r_aload_n (pc := 416) X rfl dL_refuses_416 ?_
                                                              refine r_iconst (pc := 417) (v := 0) X rfl dL_refuses_417 ?_
                                                              refine r_iconst (pc := 418) (v := 0) X rfl dL_refuses_418 ?_
                                                              refine r_iconst (pc := 419) (v := 0) X rfl dL_refuses_419 ?_
                                                              refine r_iconst (pc := 420) (v := 2) X rfl dL_refuses_420 ?_
                                                              refine r_iload_n (pc := 421) X rfl dL_refuses_421 ?_
                                                              refine r_iadd (pc := 422) X dL_refuses_422 ?_
                                                              refine bk_top (nI_add 2 y) ?_
                                                              refine ca_L_86 (pc := 423) X (c_X8_isLit hk 0 0 0 (nI (2 + y))) xW_o rfl rfl rfl dL_refuses_423 (fun r423 M423 hp423 => ?_)
                                                              obtain ⟨e1, rfl⟩ := hp423
                                                              rw [show jisLit (S 0) 0 0 0 (nI (2 + y)) = -2 from (if_neg (by decide)).trans (if_pos (Or.inr (jin_big (b := 1) rfl (by omega) (by omega))))] at e1
                                                              obtain rfl : r423 = -2 := e1
                                                              refine r_bipush (pc := 426) (v := (-2)) X rfl dL_refuses_426 ?_
                                                              refine r_icmp_ne (pc := 428) X 520 (by decide) dL_refuses_428 (fun q428 => ?_) (fun q428 => ?_)
                                                              · skip
                                                                exact absurd rfl q428
                                                              · skip
                                                                refine r_aload_n (pc := 431) X rfl dL_refuses_431 ?_
                                                                refine r_iload_n (pc := 432) X rfl dL_refuses_432 ?_
                                                                refine r_iconst (pc := 433) (v := 0) X rfl dL_refuses_433 ?_
                                                                refine ca_L_68 (pc := 434) X (c_X8_why hk no 0) xW_o rfl rfl rfl dL_refuses_434 (fun r434 M434 hp434 => ?_)
                                                                obtain ⟨e1, rfl⟩ := hp434
                                                                rw [show jwhy (S 0) no 0 = -1 from if_pos (Or.inl hno)] at e1
                                                                obtain rfl : r434 = -1 := e1
                                                                refine r_iconst (pc := 437) (v := (-1)) X rfl dL_refuses_437 ?_
                                                                refine r_icmp_ne (pc := 438) X 520 (by decide) dL_refuses_438 (fun q438 => ?_) (fun q438 => ?_)
                                                                · skip
                                                                  exact absurd rfl q438
                                                                · skip
                                                                  refine r_aload_n (pc := 441) X rfl dL_refuses_441 ?_
                                                                  refine r_iconst (pc := 442) (v := 0) X rfl dL_refuses_442 ?_
                                                                  refine r_iload_n (pc := 443) X rfl dL_refuses_443 ?_
                                                                  refine ca_L_68 (pc := 444) X (c_X8_why hk 0 off) xW_o rfl rfl rfl dL_refuses_444 (fun r444 M444 hp444 => ?_)
                                                                  obtain ⟨e1, rfl⟩ := hp444
                                                                  rw [show jwhy (S 0) 0 off = -1 from if_pos (Or.inr hoff)] at e1
                                                                  obtain rfl : r444 = -1 := e1
                                                                  refine r_iconst (pc := 447) (v := (-1)) X rfl dL_refuses_447 ?_
                                                                  refine r_icmp_ne (pc := 448) X 520 (by decide) dL_refuses_448 (fun q448 => ?_) (fun q448 => ?_)
                                                                  · skip
                                                                    exact absurd rfl q448
                                                                  · skip
                                                                    refine r_aload_n (pc := 451) X rfl dL_refuses_451 ?_
                                                                    refine r_bipush (pc := 452) (v := 14) X rfl dL_refuses_452 ?_
                                                                    refine r_iload_n (pc := 454) X rfl dL_refuses_454 ?_
                                                                    refine r_iadd (pc := 455) X dL_refuses_455 ?_
                                                                    refine bk_top (nI_add 14 y) ?_
                                                                    refine ca_L_80 (pc := 456) X (c_X8_count hk (nI (14 + y))) xW_o rfl rfl rfl dL_refuses_456 (fun r456 M456 hp456 => ?_)
                                                                    obtain ⟨e1, rfl⟩ := hp456
                                                                    rw [no_count (by omega) (by omega)] at e1
                                                                    obtain rfl : r456 = -2 := e1
                                                                    refine r_bipush (pc := 459) (v := (-2)) X rfl dL_refuses_459 ?_
                                                                    refine r_icmp_ne (pc := 461) X 520 (by decide) dL_refuses_461 (fun q461 => ?_) (fun q461 => ?_)
                                                                    · skip
                                                                      exact absurd rfl q461
                                                                    · skip
                                                                      refine r_aload_n (pc := 464) X rfl dL_refuses_464 ?_
                                                                      refine r_iload_n (pc := 465) X rfl dL_refuses_465 ?_
                                                                      refine ca_L_64 (pc := 466) X (c_X8_share hk off) xW_o rfl rfl rfl dL_refuses_466 (fun r466 M466 hp466 => ?_)
                                                                      obtain ⟨e1, rfl⟩ := hp466
                                                                      rw [fc_c off hoff (S 0)] at e1
                                                                      obtain rfl : r466 = 3212836864 := e1
                                                                      refine r_ldcf (pc := 469) X co_L_90 dL_refuses_469 ?_
                                                                      refine r_fcmp (pc := 471) X dL_refuses_471 ?_
                                                                      refine bk_top fc_1 ?_
                                                                      refine r_if_ne (pc := 472) X 520 (by decide) dL_refuses_472 (fun q472 => ?_) (fun q472 => ?_)
                                                                      · skip
                                                                        exact absurd rfl q472
                                                                      · skip
                                                                        refine r_aload_n (pc := 475) X rfl dL_refuses_475 ?_
                                                                        refine r_iload_n (pc := 476) X rfl dL_refuses_476 ?_
                                                                        refine ca_L_61 (pc := 477) X (c_X8_litIn hk off) xW_o rfl rfl rfl dL_refuses_477 (fun r477 M477 hp477 => ?_)
                                                                        obtain ⟨e1, rfl⟩ := hp477
                                                                        rw [show jlitIn (S 0) off = -1 from if_pos hoff] at e1
                                                                        obtain rfl : r477 = -1 := e1
                                                                        refine r_iconst (pc := 480) (v := (-1)) X rfl dL_refuses_480 ?_
                                                                        refine r_icmp_ne (pc := 481) X 520 (by decide) dL_refuses_481 (fun q481 => ?_) (fun q481 => ?_)
                                                                        · skip
                                                                          exact absurd rfl q481
                                                                        · skip
                                                                          refine r_aload_n (pc := 484) X rfl dL_refuses_484 ?_
                                                                          refine r_iconst (pc := 485) (v := 0) X rfl dL_refuses_485 ?_
                                                                          refine ca_L_83 (pc := 486) X (c_X8_ifPassed hk 0) xW_o rfl rfl rfl dL_refuses_486 (fun r486 M486 hp486 => ?_)
                                                                          obtain ⟨e1, s1, g1, rfl⟩ := hp486
                                                                          rw [show jifp (S 0) n 0 = -2 from if_pos (by decide)] at e1
                                                                          obtain rfl : r486 = -2 := e1
                                                                          have h3 := h.trial (s1 := s1) (g1 := g1)
                                                                          have hs3 : pfu S 1 s1 0 = jaS A := (pfu_ne (by decide)).trans hs
                                                                          have hk3 : cOK (pfu S 1 s1 0) n (pfu O 1 g1 0) := hk
                                                                          generalize pfu S 1 s1 = S at h3 hs3 hk3 ⊢
                                                                          generalize pfu O 1 g1 = O at h3 hk3 ⊢
                                                                          have h := h3
                                                                          have hs := hs3
                                                                          have hk := hk3
                                                                          refine r_bipush (pc := 489) (v := (-2)) X rfl dL_refuses_489 ?_
                                                                          refine r_icmp_ne (pc := 491) X 520 (by decide) dL_refuses_491 (fun q491 => ?_) (fun q491 => ?_)
                                                                          · skip
                                                                            exact absurd rfl q491
                                                                          · skip
                                                                            refine r_aload_n (pc := 494) X rfl dL_refuses_494 ?_
                                                                            refine r_bipush (pc := 495) (v := 41) X rfl dL_refuses_495 ?_
                                                                            refine r_iload_n (pc := 497) X rfl dL_refuses_497 ?_
                                                                            refine r_iadd (pc := 498) X dL_refuses_498 ?_
                                                                            refine bk_top (nI_add 41 y) ?_
                                                                            refine ca_L_83 (pc := 499) X (c_X8_ifPassed hk (nI (41 + y))) xW_o rfl rfl rfl dL_refuses_499 (fun r499 M499 hp499 => ?_)
                                                                            obtain ⟨e1, s1, g1, rfl⟩ := hp499
                                                                            rw [show jifp (S 0) n (nI (41 + y)) = -2 from if_pos (jin_big (b := 40) rfl (by omega) (by omega))] at e1
                                                                            obtain rfl : r499 = -2 := e1
                                                                            have h3 := h.trial (s1 := s1) (g1 := g1)
                                                                            have hs3 : pfu S 1 s1 0 = jaS A := (pfu_ne (by decide)).trans hs
                                                                            have hk3 : cOK (pfu S 1 s1 0) n (pfu O 1 g1 0) := hk
                                                                            generalize pfu S 1 s1 = S at h3 hs3 hk3 ⊢
                                                                            generalize pfu O 1 g1 = O at h3 hk3 ⊢
                                                                            have h := h3
                                                                            have hs := hs3
                                                                            have hk := hk3
                                                                            refine r_bipush (pc := 502) (v := (-2)) X rfl dL_refuses_502 ?_
                                                                            refine r_icmp_ne (pc := 504) X 520 (by decide) dL_refuses_504 (fun q504 => ?_) (fun q504 => ?_)
                                                                            · skip
                                                                              exact absurd rfl q504
                                                                            · skip
                                                                              refine r_aload_n (pc := 507) X rfl dL_refuses_507 ?_
                                                                              refine r_iload_n (pc := 508) X rfl dL_refuses_508 ?_
                                                                              refine ca_L_77 (pc := 509) X (c_X8_bestCard hk no) xW_o rfl rfl rfl dL_refuses_509 (fun r509 M509 hp509 => ?_)
                                                                              obtain ⟨e1, s1, g1, rfl⟩ := hp509
                                                                              rw [show jbest (S 0) n no = -1 from if_pos hno] at e1
                                                                              obtain rfl : r509 = -1 := e1
                                                                              have h3 := h.trial (s1 := s1) (g1 := g1)
                                                                              have hs3 : pfu S 1 s1 0 = jaS A := (pfu_ne (by decide)).trans hs
                                                                              have hk3 : cOK (pfu S 1 s1 0) n (pfu O 1 g1 0) := hk
                                                                              generalize pfu S 1 s1 = S at h3 hs3 hk3 ⊢
                                                                              generalize pfu O 1 g1 = O at h3 hk3 ⊢
                                                                              have h := h3
                                                                              have hs := hs3
                                                                              have hk := hk3
                                                                              refine r_iconst (pc := 512) (v := (-1)) X rfl dL_refuses_512 ?_
                                                                              refine r_icmp_ne (pc := 513) X 520 (by decide) dL_refuses_513 (fun q513 => ?_) (fun q513 => ?_)
                                                                              · skip
                                                                                exact absurd rfl q513
                                                                              · skip
                                                                                refine r_iconst (pc := 516) (v := 1) X rfl dL_refuses_516 ?_
                                                                                refine r_goto (pc := 517) X 521 (by decide) dL_refuses_517 ?_
                                                                                refine r_istore (pc := 521) X rfl rfl dL_refuses_521 ?_
                                                                                exact bkV.drop 2 (bkV.drop 3 (bkV.drop 4 (T523 _ _ h hs)))
  have RO : ¬ nI (y % 2) = 0 → bkV E G Z 0 0 (xW G x S O od (nI (jaN A)) (jaK A) t (nI len) pc pl pf M) 54 [some (.ref x), some (.int (nI y)), some (.int (-1 - nI y)), some (.int (-1 - nI y)), some (.int (-1 - nI y)), none, none] [] := fun _ => R54 (jin_lo (neg_y y hy)) (jin_lo (neg_y y hy)) (jin_lo (neg_y y hy))
  have RE : nI (y % 2) = 0 → bkV E G Z 0 0 (xW G x S O od (nI (jaN A)) (jaK A) t (nI len) pc pl pf M) 54 [some (.ref x), some (.int (nI y)), some (.int (nI (4 + y))), some (.int (nI (100 + y))), some (.int (nI (n + y))), none, none] [] := fun _ => R54 (jin_big (b := 3) rfl (by omega) (by omega)) (jin_big (b := 99) rfl (by omega) (by omega)) (jin_ship hk.1.1 (Or.inr ((nI_leI (by omega) (by omega)).mpr (Nat.le_add_right n y))))
  refine r_iload_n (pc := 0) X rfl dL_refuses_0 ?_
  refine r_iconst (pc := 1) (v := 2) X rfl dL_refuses_1 ?_
  refine r_irem (pc := 2) X (by decide) dL_refuses_2 ?_
  refine bk_top (pk_rem (a := y) (d := 2) (by omega) (by omega) (by omega)) ?_
  refine r_if_ne (pc := 3) X 12 (by decide) dL_refuses_3 (fun q3 => ?_) (fun q3 => ?_)
  · skip
    refine r_iconst (pc := 12) (v := (-1)) X rfl dL_refuses_12 ?_
    refine r_iload_n (pc := 13) X rfl dL_refuses_13 ?_
    refine r_isub (pc := 14) X dL_refuses_14 ?_
    refine r_istore_n (pc := 15) X rfl rfl dL_refuses_15 ?_
    refine r_iload_n (pc := 16) X rfl dL_refuses_16 ?_
    refine r_iconst (pc := 17) (v := 2) X rfl dL_refuses_17 ?_
    refine r_irem (pc := 18) X (by decide) dL_refuses_18 ?_
    refine bk_top (pk_rem (a := y) (d := 2) (by omega) (by omega) (by omega)) ?_
    refine r_if_ne (pc := 19) X 29 (by decide) dL_refuses_19 (fun q19 => ?_) (fun q19 => ?_)
    · skip
      refine r_iconst (pc := 29) (v := (-1)) X rfl dL_refuses_29 ?_
      refine r_iload_n (pc := 30) X rfl dL_refuses_30 ?_
      refine r_isub (pc := 31) X dL_refuses_31 ?_
      refine r_istore_n (pc := 32) X rfl rfl dL_refuses_32 ?_
      refine r_iload_n (pc := 33) X rfl dL_refuses_33 ?_
      refine r_iconst (pc := 34) (v := 2) X rfl dL_refuses_34 ?_
      refine r_irem (pc := 35) X (by decide) dL_refuses_35 ?_
      refine bk_top (pk_rem (a := y) (d := 2) (by omega) (by omega) (by omega)) ?_
      refine r_if_ne (pc := 36) X 49 (by decide) dL_refuses_36 (fun q36 => ?_) (fun q36 => ?_)
      · skip
        refine r_iconst (pc := 49) (v := (-1)) X rfl dL_refuses_49 ?_
        refine r_iload_n (pc := 50) X rfl dL_refuses_50 ?_
        refine r_isub (pc := 51) X dL_refuses_51 ?_
        refine r_istore (pc := 52) X rfl rfl dL_refuses_52 ?_
        first | exact absurd q19 q3 | exact absurd q3 q19 | exact absurd q36 q3 | exact absurd q3 q36 | (have z9 := RO q3; exact z9) | (have z9 := RE q3; exact z9)
      · skip
        refine r_aload_n (pc := 39) X rfl dL_refuses_39 ?_
        refine r_iconst (pc := 40) (v := 2) X rfl dL_refuses_40 ?_
        refine ca_L_80 (pc := 41) X (c_X8_count hk 2) xW_o rfl rfl rfl dL_refuses_41 (fun r41 M41 hp41 => ?_)
        obtain ⟨e1, rfl⟩ := hp41
        obtain rfl : r41 = nI n := e1.trans hn180
        refine r_iload_n (pc := 44) X rfl dL_refuses_44 ?_
        refine r_iadd (pc := 45) X dL_refuses_45 ?_
        refine bk_top (nI_add n y) ?_
        refine r_goto (pc := 46) X 52 (by decide) dL_refuses_46 ?_
        refine r_istore (pc := 52) X rfl rfl dL_refuses_52 ?_
        first | exact absurd q19 q3 | exact absurd q3 q19 | exact absurd q36 q3 | exact absurd q3 q36 | (have z9 := RO q3; exact z9) | (have z9 := RE q3; exact z9)
    · skip
      refine r_bipush (pc := 22) (v := 100) X rfl dL_refuses_22 ?_
      refine r_iload_n (pc := 24) X rfl dL_refuses_24 ?_
      refine r_iadd (pc := 25) X dL_refuses_25 ?_
      refine bk_top (nI_add 100 y) ?_
      refine r_goto (pc := 26) X 32 (by decide) dL_refuses_26 ?_
      refine r_istore_n (pc := 32) X rfl rfl dL_refuses_32 ?_
      refine r_iload_n (pc := 33) X rfl dL_refuses_33 ?_
      refine r_iconst (pc := 34) (v := 2) X rfl dL_refuses_34 ?_
      refine r_irem (pc := 35) X (by decide) dL_refuses_35 ?_
      refine bk_top (pk_rem (a := y) (d := 2) (by omega) (by omega) (by omega)) ?_
      refine r_if_ne (pc := 36) X 49 (by decide) dL_refuses_36 (fun q36 => ?_) (fun q36 => ?_)
      · skip
        refine r_iconst (pc := 49) (v := (-1)) X rfl dL_refuses_49 ?_
        refine r_iload_n (pc := 50) X rfl dL_refuses_50 ?_
        refine r_isub (pc := 51) X dL_refuses_51 ?_
        refine r_istore (pc := 52) X rfl rfl dL_refuses_52 ?_
        first | exact absurd q19 q3 | exact absurd q3 q19 | exact absurd q36 q3 | exact absurd q3 q36 | (have z9 := RO q3; exact z9) | (have z9 := RE q3; exact z9)
      · skip
        refine r_aload_n (pc := 39) X rfl dL_refuses_39 ?_
        refine r_iconst (pc := 40) (v := 2) X rfl dL_refuses_40 ?_
        refine ca_L_80 (pc := 41) X (c_X8_count hk 2) xW_o rfl rfl rfl dL_refuses_41 (fun r41 M41 hp41 => ?_)
        obtain ⟨e1, rfl⟩ := hp41
        obtain rfl : r41 = nI n := e1.trans hn180
        refine r_iload_n (pc := 44) X rfl dL_refuses_44 ?_
        refine r_iadd (pc := 45) X dL_refuses_45 ?_
        refine bk_top (nI_add n y) ?_
        refine r_goto (pc := 46) X 52 (by decide) dL_refuses_46 ?_
        refine r_istore (pc := 52) X rfl rfl dL_refuses_52 ?_
        first | exact absurd q19 q3 | exact absurd q3 q19 | exact absurd q36 q3 | exact absurd q3 q36 | (have z9 := RO q3; exact z9) | (have z9 := RE q3; exact z9)
  · skip
    refine r_iconst (pc := 6) (v := 4) X rfl dL_refuses_6 ?_
    refine r_iload_n (pc := 7) X rfl dL_refuses_7 ?_
    refine r_iadd (pc := 8) X dL_refuses_8 ?_
    refine bk_top (nI_add 4 y) ?_
    refine r_goto (pc := 9) X 15 (by decide) dL_refuses_9 ?_
    refine r_istore_n (pc := 15) X rfl rfl dL_refuses_15 ?_
    refine r_iload_n (pc := 16) X rfl dL_refuses_16 ?_
    refine r_iconst (pc := 17) (v := 2) X rfl dL_refuses_17 ?_
    refine r_irem (pc := 18) X (by decide) dL_refuses_18 ?_
    refine bk_top (pk_rem (a := y) (d := 2) (by omega) (by omega) (by omega)) ?_
    refine r_if_ne (pc := 19) X 29 (by decide) dL_refuses_19 (fun q19 => ?_) (fun q19 => ?_)
    · skip
      refine r_iconst (pc := 29) (v := (-1)) X rfl dL_refuses_29 ?_
      refine r_iload_n (pc := 30) X rfl dL_refuses_30 ?_
      refine r_isub (pc := 31) X dL_refuses_31 ?_
      refine r_istore_n (pc := 32) X rfl rfl dL_refuses_32 ?_
      refine r_iload_n (pc := 33) X rfl dL_refuses_33 ?_
      refine r_iconst (pc := 34) (v := 2) X rfl dL_refuses_34 ?_
      refine r_irem (pc := 35) X (by decide) dL_refuses_35 ?_
      refine bk_top (pk_rem (a := y) (d := 2) (by omega) (by omega) (by omega)) ?_
      refine r_if_ne (pc := 36) X 49 (by decide) dL_refuses_36 (fun q36 => ?_) (fun q36 => ?_)
      · skip
        refine r_iconst (pc := 49) (v := (-1)) X rfl dL_refuses_49 ?_
        refine r_iload_n (pc := 50) X rfl dL_refuses_50 ?_
        refine r_isub (pc := 51) X dL_refuses_51 ?_
        refine r_istore (pc := 52) X rfl rfl dL_refuses_52 ?_
        first | exact absurd q19 q3 | exact absurd q3 q19 | exact absurd q36 q3 | exact absurd q3 q36 | (have z9 := RO q3; exact z9) | (have z9 := RE q3; exact z9)
      · skip
        refine r_aload_n (pc := 39) X rfl dL_refuses_39 ?_
        refine r_iconst (pc := 40) (v := 2) X rfl dL_refuses_40 ?_
        refine ca_L_80 (pc := 41) X (c_X8_count hk 2) xW_o rfl rfl rfl dL_refuses_41 (fun r41 M41 hp41 => ?_)
        obtain ⟨e1, rfl⟩ := hp41
        obtain rfl : r41 = nI n := e1.trans hn180
        refine r_iload_n (pc := 44) X rfl dL_refuses_44 ?_
        refine r_iadd (pc := 45) X dL_refuses_45 ?_
        refine bk_top (nI_add n y) ?_
        refine r_goto (pc := 46) X 52 (by decide) dL_refuses_46 ?_
        refine r_istore (pc := 52) X rfl rfl dL_refuses_52 ?_
        first | exact absurd q19 q3 | exact absurd q3 q19 | exact absurd q36 q3 | exact absurd q3 q36 | (have z9 := RO q3; exact z9) | (have z9 := RE q3; exact z9)
    · skip
      refine r_bipush (pc := 22) (v := 100) X rfl dL_refuses_22 ?_
      refine r_iload_n (pc := 24) X rfl dL_refuses_24 ?_
      refine r_iadd (pc := 25) X dL_refuses_25 ?_
      refine bk_top (nI_add 100 y) ?_
      refine r_goto (pc := 26) X 32 (by decide) dL_refuses_26 ?_
      refine r_istore_n (pc := 32) X rfl rfl dL_refuses_32 ?_
      refine r_iload_n (pc := 33) X rfl dL_refuses_33 ?_
      refine r_iconst (pc := 34) (v := 2) X rfl dL_refuses_34 ?_
      refine r_irem (pc := 35) X (by decide) dL_refuses_35 ?_
      refine bk_top (pk_rem (a := y) (d := 2) (by omega) (by omega) (by omega)) ?_
      refine r_if_ne (pc := 36) X 49 (by decide) dL_refuses_36 (fun q36 => ?_) (fun q36 => ?_)
      · skip
        refine r_iconst (pc := 49) (v := (-1)) X rfl dL_refuses_49 ?_
        refine r_iload_n (pc := 50) X rfl dL_refuses_50 ?_
        refine r_isub (pc := 51) X dL_refuses_51 ?_
        refine r_istore (pc := 52) X rfl rfl dL_refuses_52 ?_
        first | exact absurd q19 q3 | exact absurd q3 q19 | exact absurd q36 q3 | exact absurd q3 q36 | (have z9 := RO q3; exact z9) | (have z9 := RE q3; exact z9)
      · skip
        refine r_aload_n (pc := 39) X rfl dL_refuses_39 ?_
        refine r_iconst (pc := 40) (v := 2) X rfl dL_refuses_40 ?_
        refine ca_L_80 (pc := 41) X (c_X8_count hk 2) xW_o rfl rfl rfl dL_refuses_41 (fun r41 M41 hp41 => ?_)
        obtain ⟨e1, rfl⟩ := hp41
        obtain rfl : r41 = nI n := e1.trans hn180
        refine r_iload_n (pc := 44) X rfl dL_refuses_44 ?_
        refine r_iadd (pc := 45) X dL_refuses_45 ?_
        refine bk_top (nI_add n y) ?_
        refine r_goto (pc := 46) X 52 (by decide) dL_refuses_46 ?_
        refine r_istore (pc := 52) X rfl rfl dL_refuses_52 ?_
        first | exact absurd q19 q3 | exact absurd q3 q19 | exact absurd q36 q3 | exact absurd q3 q36 | (have z9 := RO q3; exact z9) | (have z9 := RE q3; exact z9)

