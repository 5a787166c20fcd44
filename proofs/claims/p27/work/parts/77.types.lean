theorem i2c_n {n : Nat} (h : n < 65536) : ((nI n).toUInt32 % 65536).toInt32 = nI n := by
  rw [pk_char, pk_tn (by omega), Nat.mod_eq_of_lt h]
theorem nar_n {n : Nat} (h : n < 65536) : vp_nar .char (nI n) = nI n := Value.int.inj (pk_charN h).1
theorem sh6 {m : Nat} (h : m < 2 ^ 31) : ∀ j, j < 4 → nI m >>> ((6 * nI j) &&& 31) = nI (m / 64 ^ j)
  | 0, _ => pk_shrN h _ 0 (by decide)
  | 1, _ => pk_shrN h _ 6 (by decide)
  | 2, _ => pk_shrN h _ 12 (by decide)
  | 3, _ => pk_shrN h _ 18 (by decide)
  | j + 4, h => absurd h (by omega)
theorem LJ.type {S O : Nat → Nat → Int32} {od : Nat → Nat} {x : (Nat → Int32) × Nat} {A : jA} (h : LJ S O od x.1 x.2 A) (hl : x.2 < 60) {c : Nat} (hc : c < 65536) : LJ S O od (jty x c).1 (jty x c).2 A := by
  obtain ⟨f, h⟩ := h
  have h2 := h.type (by omega) (nI c)
  rw [nar_n hc] at h2
  exact ⟨_, h2⟩
theorem LJ.types {S O : Nat → Nat → Int32} {od : Nat → Nat} {A : jA} : ∀ (L : List Nat) (x : (Nat → Int32) × Nat), LJ S O od x.1 x.2 A → x.2 + L.length ≤ 60 → (∀ c ∈ L, c < 65536) → LJ S O od (L.foldl jty x).1 (L.foldl jty x).2 A
  | [], _, h, _, _ => h
  | c :: L, x, h, hl, hc => by
    have e : (c :: L).length = L.length + 1 := rfl
    exact LJ.types L (jty x c) (h.type (by omega) (hc c List.mem_cons_self)) (by show x.2 + 1 + L.length ≤ 60; omega) (fun d hd => hc d (List.mem_cons_of_mem _ hd))
theorem LJ.clear {S O : Nat → Nat → Int32} {od : Nat → Nat} {t : Nat → Int32} {len : Nat} {A : jA} (h : LJ S O od t len A) : LJ S O od t 0 A := by
  obtain ⟨f, h⟩ := h
  exact ⟨_, h.clear⟩
theorem LJ.act {G : bkG} {x : Nat} {S O : Nat → Nat → Int32} {od : Nat → Nat} {t : Nat → Int32} {ln pc pl : Int32} {pf : Nat → Nat → Int32} {M : bkM} {len : Nat} {go : Nat → Int32} {A : jA} (h : LJ S O od t len A) (hs : S 0 = jaS A) {r : Int32 × Option (Nat → Int32)} (hg : xG r.2 go) : ∃ S' O' od', xA G x S O od (jaN A) (jaK A) t ln pc pl pf M go r.2 = xW G x S' O' od' (nI (jaN (jap A r).2)) (jaK (jap A r).2) t ln pc pl pf M ∧ LJ S' O' od' t len (jap A r).2 := by
  obtain ⟨v, o⟩ := r
  cases o with
  | none => exact ⟨S, O, od, rfl, h⟩
  | some s' =>
    obtain ⟨f, h⟩ := h
    exact ⟨_, _, _, rfl, _, h.act hs (fun _ _ => rfl) (hg s' rfl)⟩
theorem LJ.undo {S O : Nat → Nat → Int32} {od : Nat → Nat} {t : Nat → Int32} {len : Nat} {A : jA} (h : LJ S O od t len A) (hn : ¬ jaN A = 0) : LJ (pfu S 0 (S (od (jaN A - 1)))) (pfu O 0 (jgm (O 0) (O (od (jaN A - 1))))) od t len (jaU A).2 := by
  obtain ⟨f, h⟩ := h
  have e : jaN A = jaN A - 1 + 1 := by omega
  have e2 : (jaU A).2 = (fun i => jaP A (183 * (jaN A - 1) + i), jaP A, jaQ A, jaN A - 1, jaK A) := by unfold jaU; rw [if_neg hn]
  rw [e2]
  generalize jaN A - 1 = m at *
  rw [e] at h
  exact ⟨_, h.undo⟩
theorem LJ.keep {S O : Nat → Nat → Int32} {od : Nat → Nat} {t : Nat → Int32} {len : Nat} {A : jA} (h : LJ S O od t len A) (hs : S 0 = jaS A) : LJ (pfu S 2 (S 0)) (pfu O 2 (jgm (O 2) (O 0))) od t len (jaE A).2 := by
  obtain ⟨f, h⟩ := h
  exact ⟨_, h.keep hs⟩
/-- what an act of the law leaves -/
def aPost (G : bkG) (x : Nat) (M : bkM) (R : Int32 × jA) : Int32 → bkM → Prop := fun v M' => v = R.1 ∧ ∃ S' O' od' t' len' pc' pl' pf', M' = xW G x S' O' od' (nI (jaN R.2)) (jaK R.2) t' (nI len') pc' pl' pf' M ∧ LJ S' O' od' t' len' R.2
theorem aPost.of {G : bkG} {x : Nat} {M M' : bkM} {S O : Nat → Nat → Int32} {od : Nat → Nat} {t : Nat → Int32} {pc pl : Int32} {pf : Nat → Nat → Int32} {len : Nat} {go : Nat → Int32} {A : jA} (h : LJ S O od t len A) (hs : S 0 = jaS A) {r : Int32 × Option (Nat → Int32)} (hg : xG r.2 go) {R : Int32 × jA} (e : R = jap A r) (em : M' = xA G x S O od (jaN A) (jaK A) t (nI len) pc pl pf M go r.2) : aPost G x M R r.1 M' := by
  subst e
  obtain ⟨S', O', od', e1, h'⟩ := h.act hs hg (G := G) (x := x) (ln := nI len) (pc := pc) (pl := pl) (pf := pf) (M := M)
  exact ⟨rfl, S', O', od', t, len, pc, pl, pf, em.trans e1, h'⟩
theorem c_ty {G : bkG} {Z : Nat → Prop} {M : bkM} {x : Nat} {S O : Nat → Nat → Int32} {od : Nat → Nat} {kp : Int32} {pc pl : Int32} {pf : Nat → Nat → Int32} {np : Nat} {X' : (Nat → Int32) × Nat} (hl : X'.2 < 60) (v : Nat) (hv : v < 65536) : bkCi G Z Z yX8_type cX8_type 2 (some .int) 1 0 0 [.ref x, .int (nI v)] (xW G x S O od (nI np) kp X'.1 (nI X'.2) pc pl pf M) (fun z M' => z = nI (jty X' v).2 ∧ M' = (xW G x S O od (nI np) kp (jty X' v).1 (nI (jty X' v).2) pc pl pf M)) := by
  have h := c_X8_type (G := G) (Z := Z) (M := M) (x := x) (S := S) (O := O) (od := od) (kp := kp) (t := X'.1) (pc := pc) (pl := pl) (pf := pf) (np := np) (len := X'.2) (by omega) (nI v)
  rw [if_neg (by omega), if_neg (by omega), nar_n hv] at h
  exact h
set_option maxHeartbeats 1000000 in
set_option maxRecDepth 100000 in
theorem tx_0 {E : bkEnv} {G : bkG} {Z : Nat → Prop} {x c y j z np : Nat} {M : bkM} {S O : Nat → Nat → Int32} {od : Nat → Nat} {kp pc pl : Int32} {pf : Nat → Nat → Int32} {x1 : (Nat → Int32) × Nat} (X : bkX E G RL cL_acts 6 (some .int) (bkR 8 0 0)) (hz : z % 4 = 0) (hz2 : z < 2 ^ 31) (hl : x1.2 + 8 < 60) (K : bkV E G Z 0 0 (xW G x S O od (nI np) kp ((jzc z).foldl jty x1).1 (nI ((jzc z).foldl jty x1).2) pc pl pf M) 554 [some (.ref x), some (.int (nI c)), some (.int (nI y)), some (.int (nI ((jzc z).foldl jty x1).2)), some (.int (nI j)), some (.int (nI z))] []) : bkV E G Z 0 0 (xW G x S O od (nI np) kp x1.1 (nI x1.2) pc pl pf M) 269 [some (.ref x), some (.int (nI c)), some (.int (nI y)), some (.int (nI x1.2)), some (.int (nI j)), some (.int (nI z))] [] := by
  have ez : jzc z = [114, 48 + z / 8 % 10, 48 + z / 64 % 10] := if_pos hz
  rw [ez] at K
  refine r_aload_n (pc := 269) X rfl dL_acts_269 ?_
  refine r_iload (pc := 270) X rfl dL_acts_270 ?_
  refine r_iconst (pc := 272) (v := 4) X rfl dL_acts_272 ?_
  refine r_irem (pc := 273) X (by decide) dL_acts_273 ?_
  refine bk_top ((pk_rem (a := z) (d := 4) (by omega) (by omega) (by omega)).trans (congrArg nI hz)) ?_
  refine r_if_ne (pc := 274) X 282 (by decide) dL_acts_274 (fun q274 => ?_) (fun q274 => ?_)
  · skip
    exact absurd q274 (by decide)
  · skip
    refine r_bipush (pc := 277) (v := 114) X rfl dL_acts_277 ?_
    refine r_goto (pc := 279) X 310 (by decide) dL_acts_279 ?_
    refine ca_L_42 (pc := 310) X (c_ty (by first | omega | (simp only [jty]; omega)) 114 (by omega)) xW_o rfl rfl rfl dL_acts_310 (fun r310 M310 hp310 => ?_)
    obtain ⟨rfl, rfl⟩ := hp310
    refine r_istore_n (pc := 313) X rfl rfl dL_acts_313 ?_
    refine r_iload (pc := 314) X rfl dL_acts_314 ?_
    refine r_iconst (pc := 316) (v := 4) X rfl dL_acts_316 ?_
    refine r_irem (pc := 317) X (by decide) dL_acts_317 ?_
    refine bk_top ((pk_rem (a := z) (d := 4) (by omega) (by omega) (by omega)).trans (congrArg nI hz)) ?_
    refine r_iconst (pc := 318) (v := 1) X rfl dL_acts_318 ?_
    refine r_icmp_ne (pc := 319) X 340 (by decide) dL_acts_319 (fun q319 => ?_) (fun q319 => ?_)
    · skip
      refine r_iload_n (pc := 340) X rfl dL_acts_340 ?_
      refine r_istore_n (pc := 341) X rfl rfl dL_acts_341 ?_
      refine r_iload (pc := 342) X rfl dL_acts_342 ?_
      refine r_iconst (pc := 344) (v := 4) X rfl dL_acts_344 ?_
      refine r_irem (pc := 345) X (by decide) dL_acts_345 ?_
      refine bk_top ((pk_rem (a := z) (d := 4) (by omega) (by omega) (by omega)).trans (congrArg nI hz)) ?_
      refine r_iconst (pc := 346) (v := 1) X rfl dL_acts_346 ?_
      refine r_icmp_ne (pc := 347) X 359 (by decide) dL_acts_347 (fun q347 => ?_) (fun q347 => ?_)
      · skip
        refine r_iload_n (pc := 359) X rfl dL_acts_359 ?_
        refine r_istore_n (pc := 360) X rfl rfl dL_acts_360 ?_
        refine r_aload_n (pc := 361) X rfl dL_acts_361 ?_
        refine r_iload (pc := 362) X rfl dL_acts_362 ?_
        refine r_iconst (pc := 364) (v := 4) X rfl dL_acts_364 ?_
        refine r_irem (pc := 365) X (by decide) dL_acts_365 ?_
        refine bk_top ((pk_rem (a := z) (d := 4) (by omega) (by omega) (by omega)).trans (congrArg nI hz)) ?_
        refine r_iconst (pc := 366) (v := 2) X rfl dL_acts_366 ?_
        refine r_icmp_ne (pc := 367) X 383 (by decide) dL_acts_367 (fun q367 => ?_) (fun q367 => ?_)
        · skip
          refine r_iload (pc := 383) X rfl dL_acts_383 ?_
          refine r_iconst (pc := 385) (v := 4) X rfl dL_acts_385 ?_
          refine r_irem (pc := 386) X (by decide) dL_acts_386 ?_
          refine bk_top ((pk_rem (a := z) (d := 4) (by omega) (by omega) (by omega)).trans (congrArg nI hz)) ?_
          refine r_iconst (pc := 387) (v := 3) X rfl dL_acts_387 ?_
          refine r_icmp_ne (pc := 388) X 405 (by decide) dL_acts_388 (fun q388 => ?_) (fun q388 => ?_)
          · skip
            refine r_bipush (pc := 405) (v := 48) X rfl dL_acts_405 ?_
            refine r_iload (pc := 407) X rfl dL_acts_407 ?_
            refine r_bipush (pc := 409) (v := 8) X rfl dL_acts_409 ?_
            refine r_idiv (pc := 411) X (by decide) dL_acts_411 ?_
            refine bk_top (pk_div (a := z) (d := 8) (by omega) (by omega) (by omega)) ?_
            refine r_bipush (pc := 412) (v := 10) X rfl dL_acts_412 ?_
            refine r_irem (pc := 414) X (by decide) dL_acts_414 ?_
            refine bk_top (pk_rem (a := z / 8) (d := 10) (by omega) (by omega) (by omega)) ?_
            refine r_iadd (pc := 415) X dL_acts_415 ?_
            refine bk_top (nI_add 48 (z / 8 % 10)) ?_
            refine r_i2c (pc := 416) X dL_acts_416 ?_
            refine bk_top (i2c_n (by omega)) ?_
            refine ca_L_42 (pc := 417) X (c_ty (by first | omega | (simp only [jty]; omega)) _ (by omega)) xW_o rfl rfl rfl dL_acts_417 (fun r417 M417 hp417 => ?_)
            obtain ⟨rfl, rfl⟩ := hp417
            refine r_istore_n (pc := 420) X rfl rfl dL_acts_420 ?_
            refine r_iload (pc := 421) X rfl dL_acts_421 ?_
            refine r_iconst (pc := 423) (v := 4) X rfl dL_acts_423 ?_
            refine r_irem (pc := 424) X (by decide) dL_acts_424 ?_
            refine bk_top ((pk_rem (a := z) (d := 4) (by omega) (by omega) (by omega)).trans (congrArg nI hz)) ?_
            refine r_iconst (pc := 425) (v := 2) X rfl dL_acts_425 ?_
            refine r_icmp_ge (pc := 426) X 448 (by decide) dL_acts_426 (fun q426 => ?_) (fun q426 => ?_)
            · skip
              exact absurd q426 (by decide)
            · skip
              refine r_aload_n (pc := 429) X rfl dL_acts_429 ?_
              refine r_bipush (pc := 430) (v := 48) X rfl dL_acts_430 ?_
              refine r_iload (pc := 432) X rfl dL_acts_432 ?_
              refine r_bipush (pc := 434) (v := 64) X rfl dL_acts_434 ?_
              refine r_idiv (pc := 436) X (by decide) dL_acts_436 ?_
              refine bk_top (pk_div (a := z) (d := 64) (by omega) (by omega) (by omega)) ?_
              refine r_bipush (pc := 437) (v := 10) X rfl dL_acts_437 ?_
              refine r_irem (pc := 439) X (by decide) dL_acts_439 ?_
              refine bk_top (pk_rem (a := z / 64) (d := 10) (by omega) (by omega) (by omega)) ?_
              refine r_iadd (pc := 440) X dL_acts_440 ?_
              refine bk_top (nI_add 48 (z / 64 % 10)) ?_
              refine r_i2c (pc := 441) X dL_acts_441 ?_
              refine bk_top (i2c_n (by omega)) ?_
              refine ca_L_42 (pc := 442) X (c_ty (by first | omega | (simp only [jty]; omega)) _ (by omega)) xW_o rfl rfl rfl dL_acts_442 (fun r442 M442 hp442 => ?_)
              obtain ⟨rfl, rfl⟩ := hp442
              refine r_goto (pc := 445) X 476 (by decide) dL_acts_445 ?_
              refine r_istore_n (pc := 476) X rfl rfl dL_acts_476 ?_
              refine r_iload (pc := 477) X rfl dL_acts_477 ?_
              refine r_iconst (pc := 479) (v := 4) X rfl dL_acts_479 ?_
              refine r_irem (pc := 480) X (by decide) dL_acts_480 ?_
              refine bk_top ((pk_rem (a := z) (d := 4) (by omega) (by omega) (by omega)).trans (congrArg nI hz)) ?_
              refine r_iconst (pc := 481) (v := 1) X rfl dL_acts_481 ?_
              refine r_icmp_ne (pc := 482) X 494 (by decide) dL_acts_482 (fun q482 => ?_) (fun q482 => ?_)
              · skip
                refine r_iload_n (pc := 494) X rfl dL_acts_494 ?_
                refine r_istore_n (pc := 495) X rfl rfl dL_acts_495 ?_
                refine r_iload (pc := 496) X rfl dL_acts_496 ?_
                refine r_iconst (pc := 498) (v := 4) X rfl dL_acts_498 ?_
                refine r_irem (pc := 499) X (by decide) dL_acts_499 ?_
                refine bk_top ((pk_rem (a := z) (d := 4) (by omega) (by omega) (by omega)).trans (congrArg nI hz)) ?_
                refine r_iconst (pc := 500) (v := 1) X rfl dL_acts_500 ?_
                refine r_icmp_ne (pc := 501) X 523 (by decide) dL_acts_501 (fun q501 => ?_) (fun q501 => ?_)
                · skip
                  refine r_iload_n (pc := 523) X rfl dL_acts_523 ?_
                  refine r_istore_n (pc := 524) X rfl rfl dL_acts_524 ?_
                  refine r_iload (pc := 525) X rfl dL_acts_525 ?_
                  refine r_iconst (pc := 527) (v := 4) X rfl dL_acts_527 ?_
                  refine r_irem (pc := 528) X (by decide) dL_acts_528 ?_
                  refine bk_top ((pk_rem (a := z) (d := 4) (by omega) (by omega) (by omega)).trans (congrArg nI hz)) ?_
                  refine r_iconst (pc := 529) (v := 1) X rfl dL_acts_529 ?_
                  refine r_icmp_ne (pc := 530) X 552 (by decide) dL_acts_530 (fun q530 => ?_) (fun q530 => ?_)
                  · skip
                    refine r_iload_n (pc := 552) X rfl dL_acts_552 ?_
                    refine r_istore_n (pc := 553) X rfl rfl dL_acts_553 ?_
                    exact K
                  · skip
                    exact absurd q530 (by decide)
                · skip
                  exact absurd q501 (by decide)
              · skip
                exact absurd q482 (by decide)
          · skip
            exact absurd q388 (by decide)
        · skip
          exact absurd q367 (by decide)
      · skip
        exact absurd q347 (by decide)
    · skip
      exact absurd q319 (by decide)

set_option maxHeartbeats 1000000 in
set_option maxRecDepth 100000 in
theorem tx_1 {E : bkEnv} {G : bkG} {Z : Nat → Prop} {x c y j z np : Nat} {M : bkM} {S O : Nat → Nat → Int32} {od : Nat → Nat} {kp pc pl : Int32} {pf : Nat → Nat → Int32} {x1 : (Nat → Int32) × Nat} (X : bkX E G RL cL_acts 6 (some .int) (bkR 8 0 0)) (hz : z % 4 = 1) (hz2 : z < 2 ^ 31) (hl : x1.2 + 8 < 60) (K : bkV E G Z 0 0 (xW G x S O od (nI np) kp ((jzc z).foldl jty x1).1 (nI ((jzc z).foldl jty x1).2) pc pl pf M) 554 [some (.ref x), some (.int (nI c)), some (.int (nI y)), some (.int (nI ((jzc z).foldl jty x1).2)), some (.int (nI j)), some (.int (nI z))] []) : bkV E G Z 0 0 (xW G x S O od (nI np) kp x1.1 (nI x1.2) pc pl pf M) 269 [some (.ref x), some (.int (nI c)), some (.int (nI y)), some (.int (nI x1.2)), some (.int (nI j)), some (.int (nI z))] [] := by
  have ez : jzc z = [115, 49 + z / 4 % 9, 58, 48 + z / 8 % 10, 48 + z / 64 % 10, 62, 48 + z / 16 % 10, 48 + z / 32 % 10] := (if_neg (by omega)).trans (if_pos hz)
  rw [ez] at K
  refine r_aload_n (pc := 269) X rfl dL_acts_269 ?_
  refine r_iload (pc := 270) X rfl dL_acts_270 ?_
  refine r_iconst (pc := 272) (v := 4) X rfl dL_acts_272 ?_
  refine r_irem (pc := 273) X (by decide) dL_acts_273 ?_
  refine bk_top ((pk_rem (a := z) (d := 4) (by omega) (by omega) (by omega)).trans (congrArg nI hz)) ?_
  refine r_if_ne (pc := 274) X 282 (by decide) dL_acts_274 (fun q274 => ?_) (fun q274 => ?_)
  · skip
    refine r_iload (pc := 282) X rfl dL_acts_282 ?_
    refine r_iconst (pc := 284) (v := 4) X rfl dL_acts_284 ?_
    refine r_irem (pc := 285) X (by decide) dL_acts_285 ?_
    refine bk_top ((pk_rem (a := z) (d := 4) (by omega) (by omega) (by omega)).trans (congrArg nI hz)) ?_
    refine r_iconst (pc := 286) (v := 1) X rfl dL_acts_286 ?_
    refine r_icmp_ne (pc := 287) X 295 (by decide) dL_acts_287 (fun q287 => ?_) (fun q287 => ?_)
    · skip
      exact absurd q287 (by decide)
    · skip
      refine r_bipush (pc := 290) (v := 115) X rfl dL_acts_290 ?_
      refine r_goto (pc := 292) X 310 (by decide) dL_acts_292 ?_
      refine ca_L_42 (pc := 310) X (c_ty (by first | omega | (simp only [jty]; omega)) 115 (by omega)) xW_o rfl rfl rfl dL_acts_310 (fun r310 M310 hp310 => ?_)
      obtain ⟨rfl, rfl⟩ := hp310
      refine r_istore_n (pc := 313) X rfl rfl dL_acts_313 ?_
      refine r_iload (pc := 314) X rfl dL_acts_314 ?_
      refine r_iconst (pc := 316) (v := 4) X rfl dL_acts_316 ?_
      refine r_irem (pc := 317) X (by decide) dL_acts_317 ?_
      refine bk_top ((pk_rem (a := z) (d := 4) (by omega) (by omega) (by omega)).trans (congrArg nI hz)) ?_
      refine r_iconst (pc := 318) (v := 1) X rfl dL_acts_318 ?_
      refine r_icmp_ne (pc := 319) X 340 (by decide) dL_acts_319 (fun q319 => ?_) (fun q319 => ?_)
      · skip
        exact absurd q319 (by decide)
      · skip
        refine r_aload_n (pc := 322) X rfl dL_acts_322 ?_
        refine r_bipush (pc := 323) (v := 49) X rfl dL_acts_323 ?_
        refine r_iload (pc := 325) X rfl dL_acts_325 ?_
        refine r_iconst (pc := 327) (v := 4) X rfl dL_acts_327 ?_
        refine r_idiv (pc := 328) X (by decide) dL_acts_328 ?_
        refine bk_top (pk_div (a := z) (d := 4) (by omega) (by omega) (by omega)) ?_
        refine r_bipush (pc := 329) (v := 9) X rfl dL_acts_329 ?_
        refine r_irem (pc := 331) X (by decide) dL_acts_331 ?_
        refine bk_top (pk_rem (a := z / 4) (d := 9) (by omega) (by omega) (by omega)) ?_
        refine r_iadd (pc := 332) X dL_acts_332 ?_
        refine bk_top (nI_add 49 (z / 4 % 9)) ?_
        refine r_i2c (pc := 333) X dL_acts_333 ?_
        refine bk_top (i2c_n (by omega)) ?_
        refine ca_L_42 (pc := 334) X (c_ty (by first | omega | (simp only [jty]; omega)) _ (by omega)) xW_o rfl rfl rfl dL_acts_334 (fun r334 M334 hp334 => ?_)
        obtain ⟨rfl, rfl⟩ := hp334
        refine r_goto (pc := 337) X 341 (by decide) dL_acts_337 ?_
        refine r_istore_n (pc := 341) X rfl rfl dL_acts_341 ?_
        refine r_iload (pc := 342) X rfl dL_acts_342 ?_
        refine r_iconst (pc := 344) (v := 4) X rfl dL_acts_344 ?_
        refine r_irem (pc := 345) X (by decide) dL_acts_345 ?_
        refine bk_top ((pk_rem (a := z) (d := 4) (by omega) (by omega) (by omega)).trans (congrArg nI hz)) ?_
        refine r_iconst (pc := 346) (v := 1) X rfl dL_acts_346 ?_
        refine r_icmp_ne (pc := 347) X 359 (by decide) dL_acts_347 (fun q347 => ?_) (fun q347 => ?_)
        · skip
          exact absurd q347 (by decide)
        · skip
          refine r_aload_n (pc := 350) X rfl dL_acts_350 ?_
          refine r_bipush (pc := 351) (v := 58) X rfl dL_acts_351 ?_
          refine ca_L_42 (pc := 353) X (c_ty (by first | omega | (simp only [jty]; omega)) 58 (by omega)) xW_o rfl rfl rfl dL_acts_353 (fun r353 M353 hp353 => ?_)
          obtain ⟨rfl, rfl⟩ := hp353
          refine r_goto (pc := 356) X 360 (by decide) dL_acts_356 ?_
          refine r_istore_n (pc := 360) X rfl rfl dL_acts_360 ?_
          refine r_aload_n (pc := 361) X rfl dL_acts_361 ?_
          refine r_iload (pc := 362) X rfl dL_acts_362 ?_
          refine r_iconst (pc := 364) (v := 4) X rfl dL_acts_364 ?_
          refine r_irem (pc := 365) X (by decide) dL_acts_365 ?_
          refine bk_top ((pk_rem (a := z) (d := 4) (by omega) (by omega) (by omega)).trans (congrArg nI hz)) ?_
          refine r_iconst (pc := 366) (v := 2) X rfl dL_acts_366 ?_
          refine r_icmp_ne (pc := 367) X 383 (by decide) dL_acts_367 (fun q367 => ?_) (fun q367 => ?_)
          · skip
            refine r_iload (pc := 383) X rfl dL_acts_383 ?_
            refine r_iconst (pc := 385) (v := 4) X rfl dL_acts_385 ?_
            refine r_irem (pc := 386) X (by decide) dL_acts_386 ?_
            refine bk_top ((pk_rem (a := z) (d := 4) (by omega) (by omega) (by omega)).trans (congrArg nI hz)) ?_
            refine r_iconst (pc := 387) (v := 3) X rfl dL_acts_387 ?_
            refine r_icmp_ne (pc := 388) X 405 (by decide) dL_acts_388 (fun q388 => ?_) (fun q388 => ?_)
            · skip
              refine r_bipush (pc := 405) (v := 48) X rfl dL_acts_405 ?_
              refine r_iload (pc := 407) X rfl dL_acts_407 ?_
              refine r_bipush (pc := 409) (v := 8) X rfl dL_acts_409 ?_
              refine r_idiv (pc := 411) X (by decide) dL_acts_411 ?_
              refine bk_top (pk_div (a := z) (d := 8) (by omega) (by omega) (by omega)) ?_
              refine r_bipush (pc := 412) (v := 10) X rfl dL_acts_412 ?_
              refine r_irem (pc := 414) X (by decide) dL_acts_414 ?_
              refine bk_top (pk_rem (a := z / 8) (d := 10) (by omega) (by omega) (by omega)) ?_
              refine r_iadd (pc := 415) X dL_acts_415 ?_
              refine bk_top (nI_add 48 (z / 8 % 10)) ?_
              refine r_i2c (pc := 416) X dL_acts_416 ?_
              refine bk_top (i2c_n (by omega)) ?_
              refine ca_L_42 (pc := 417) X (c_ty (by first | omega | (simp only [jty]; omega)) _ (by omega)) xW_o rfl rfl rfl dL_acts_417 (fun r417 M417 hp417 => ?_)
              obtain ⟨rfl, rfl⟩ := hp417
              refine r_istore_n (pc := 420) X rfl rfl dL_acts_420 ?_
              refine r_iload (pc := 421) X rfl dL_acts_421 ?_
              refine r_iconst (pc := 423) (v := 4) X rfl dL_acts_423 ?_
              refine r_irem (pc := 424) X (by decide) dL_acts_424 ?_
              refine bk_top ((pk_rem (a := z) (d := 4) (by omega) (by omega) (by omega)).trans (congrArg nI hz)) ?_
              refine r_iconst (pc := 425) (v := 2) X rfl dL_acts_425 ?_
              refine r_icmp_ge (pc := 426) X 448 (by decide) dL_acts_426 (fun q426 => ?_) (fun q426 => ?_)
              · skip
                exact absurd q426 (by decide)
              · skip
                refine r_aload_n (pc := 429) X rfl dL_acts_429 ?_
                refine r_bipush (pc := 430) (v := 48) X rfl dL_acts_430 ?_
                refine r_iload (pc := 432) X rfl dL_acts_432 ?_
                refine r_bipush (pc := 434) (v := 64) X rfl dL_acts_434 ?_
                refine r_idiv (pc := 436) X (by decide) dL_acts_436 ?_
                refine bk_top (pk_div (a := z) (d := 64) (by omega) (by omega) (by omega)) ?_
                refine r_bipush (pc := 437) (v := 10) X rfl dL_acts_437 ?_
                refine r_irem (pc := 439) X (by decide) dL_acts_439 ?_
                refine bk_top (pk_rem (a := z / 64) (d := 10) (by omega) (by omega) (by omega)) ?_
                refine r_iadd (pc := 440) X dL_acts_440 ?_
                refine bk_top (nI_add 48 (z / 64 % 10)) ?_
                refine r_i2c (pc := 441) X dL_acts_441 ?_
                refine bk_top (i2c_n (by omega)) ?_
                refine ca_L_42 (pc := 442) X (c_ty (by first | omega | (simp only [jty]; omega)) _ (by omega)) xW_o rfl rfl rfl dL_acts_442 (fun r442 M442 hp442 => ?_)
                obtain ⟨rfl, rfl⟩ := hp442
                refine r_goto (pc := 445) X 476 (by decide) dL_acts_445 ?_
                refine r_istore_n (pc := 476) X rfl rfl dL_acts_476 ?_
                refine r_iload (pc := 477) X rfl dL_acts_477 ?_
                refine r_iconst (pc := 479) (v := 4) X rfl dL_acts_479 ?_
                refine r_irem (pc := 480) X (by decide) dL_acts_480 ?_
                refine bk_top ((pk_rem (a := z) (d := 4) (by omega) (by omega) (by omega)).trans (congrArg nI hz)) ?_
                refine r_iconst (pc := 481) (v := 1) X rfl dL_acts_481 ?_
                refine r_icmp_ne (pc := 482) X 494 (by decide) dL_acts_482 (fun q482 => ?_) (fun q482 => ?_)
                · skip
                  exact absurd q482 (by decide)
                · skip
                  refine r_aload_n (pc := 485) X rfl dL_acts_485 ?_
                  refine r_bipush (pc := 486) (v := 62) X rfl dL_acts_486 ?_
                  refine ca_L_42 (pc := 488) X (c_ty (by first | omega | (simp only [jty]; omega)) 62 (by omega)) xW_o rfl rfl rfl dL_acts_488 (fun r488 M488 hp488 => ?_)
                  obtain ⟨rfl, rfl⟩ := hp488
                  refine r_goto (pc := 491) X 495 (by decide) dL_acts_491 ?_
                  refine r_istore_n (pc := 495) X rfl rfl dL_acts_495 ?_
                  refine r_iload (pc := 496) X rfl dL_acts_496 ?_
                  refine r_iconst (pc := 498) (v := 4) X rfl dL_acts_498 ?_
                  refine r_irem (pc := 499) X (by decide) dL_acts_499 ?_
                  refine bk_top ((pk_rem (a := z) (d := 4) (by omega) (by omega) (by omega)).trans (congrArg nI hz)) ?_
                  refine r_iconst (pc := 500) (v := 1) X rfl dL_acts_500 ?_
                  refine r_icmp_ne (pc := 501) X 523 (by decide) dL_acts_501 (fun q501 => ?_) (fun q501 => ?_)
                  · skip
                    exact absurd q501 (by decide)
                  · skip
                    refine r_aload_n (pc := 504) X rfl dL_acts_504 ?_
                    refine r_bipush (pc := 505) (v := 48) X rfl dL_acts_505 ?_
                    refine r_iload (pc := 507) X rfl dL_acts_507 ?_
                    refine r_bipush (pc := 509) (v := 16) X rfl dL_acts_509 ?_
                    refine r_idiv (pc := 511) X (by decide) dL_acts_511 ?_
                    refine bk_top (pk_div (a := z) (d := 16) (by omega) (by omega) (by omega)) ?_
                    refine r_bipush (pc := 512) (v := 10) X rfl dL_acts_512 ?_
                    refine r_irem (pc := 514) X (by decide) dL_acts_514 ?_
                    refine bk_top (pk_rem (a := z / 16) (d := 10) (by omega) (by omega) (by omega)) ?_
                    refine r_iadd (pc := 515) X dL_acts_515 ?_
                    refine bk_top (nI_add 48 (z / 16 % 10)) ?_
                    refine r_i2c (pc := 516) X dL_acts_516 ?_
                    refine bk_top (i2c_n (by omega)) ?_
                    refine ca_L_42 (pc := 517) X (c_ty (by first | omega | (simp only [jty]; omega)) _ (by omega)) xW_o rfl rfl rfl dL_acts_517 (fun r517 M517 hp517 => ?_)
                    obtain ⟨rfl, rfl⟩ := hp517
                    refine r_goto (pc := 520) X 524 (by decide) dL_acts_520 ?_
                    refine r_istore_n (pc := 524) X rfl rfl dL_acts_524 ?_
                    refine r_iload (pc := 525) X rfl dL_acts_525 ?_
                    refine r_iconst (pc := 527) (v := 4) X rfl dL_acts_527 ?_
                    refine r_irem (pc := 528) X (by decide) dL_acts_528 ?_
                    refine bk_top ((pk_rem (a := z) (d := 4) (by omega) (by omega) (by omega)).trans (congrArg nI hz)) ?_
                    refine r_iconst (pc := 529) (v := 1) X rfl dL_acts_529 ?_
                    refine r_icmp_ne (pc := 530) X 552 (by decide) dL_acts_530 (fun q530 => ?_) (fun q530 => ?_)
                    · skip
                      exact absurd q530 (by decide)
                    · skip
                      refine r_aload_n (pc := 533) X rfl dL_acts_533 ?_
                      refine r_bipush (pc := 534) (v := 48) X rfl dL_acts_534 ?_
                      refine r_iload (pc := 536) X rfl dL_acts_536 ?_
                      refine r_bipush (pc := 538) (v := 32) X rfl dL_acts_538 ?_
                      refine r_idiv (pc := 540) X (by decide) dL_acts_540 ?_
                      refine bk_top (pk_div (a := z) (d := 32) (by omega) (by omega) (by omega)) ?_
                      refine r_bipush (pc := 541) (v := 10) X rfl dL_acts_541 ?_
                      refine r_irem (pc := 543) X (by decide) dL_acts_543 ?_
                      refine bk_top (pk_rem (a := z / 32) (d := 10) (by omega) (by omega) (by omega)) ?_
                      refine r_iadd (pc := 544) X dL_acts_544 ?_
                      refine bk_top (nI_add 48 (z / 32 % 10)) ?_
                      refine r_i2c (pc := 545) X dL_acts_545 ?_
                      refine bk_top (i2c_n (by omega)) ?_
                      refine ca_L_42 (pc := 546) X (c_ty (by first | omega | (simp only [jty]; omega)) _ (by omega)) xW_o rfl rfl rfl dL_acts_546 (fun r546 M546 hp546 => ?_)
                      obtain ⟨rfl, rfl⟩ := hp546
                      refine r_goto (pc := 549) X 553 (by decide) dL_acts_549 ?_
                      refine r_istore_n (pc := 553) X rfl rfl dL_acts_553 ?_
                      exact K
            · skip
              exact absurd q388 (by decide)
          · skip
            exact absurd q367 (by decide)
  · skip
    exact absurd q274 (by decide)

set_option maxHeartbeats 1000000 in
set_option maxRecDepth 100000 in
theorem tx_2 {E : bkEnv} {G : bkG} {Z : Nat → Prop} {x c y j z np : Nat} {M : bkM} {S O : Nat → Nat → Int32} {od : Nat → Nat} {kp pc pl : Int32} {pf : Nat → Nat → Int32} {x1 : (Nat → Int32) × Nat} (X : bkX E G RL cL_acts 6 (some .int) (bkR 8 0 0)) (hz : z % 4 = 2) (hz2 : z < 2 ^ 31) (hl : x1.2 + 8 < 60) (K : bkV E G Z 0 0 (xW G x S O od (nI np) kp ((jzc z).foldl jty x1).1 (nI ((jzc z).foldl jty x1).2) pc pl pf M) 554 [some (.ref x), some (.int (nI c)), some (.int (nI y)), some (.int (nI ((jzc z).foldl jty x1).2)), some (.int (nI j)), some (.int (nI z))] []) : bkV E G Z 0 0 (xW G x S O od (nI np) kp x1.1 (nI x1.2) pc pl pf M) 269 [some (.ref x), some (.int (nI c)), some (.int (nI y)), some (.int (nI x1.2)), some (.int (nI j)), some (.int (nI z))] [] := by
  have ez : jzc z = [100, 48 + z / 8 % 4, 48 + z / 64 % 8] := (if_neg (by omega)).trans ((if_neg (by omega)).trans (if_pos hz))
  rw [ez] at K
  refine r_aload_n (pc := 269) X rfl dL_acts_269 ?_
  refine r_iload (pc := 270) X rfl dL_acts_270 ?_
  refine r_iconst (pc := 272) (v := 4) X rfl dL_acts_272 ?_
  refine r_irem (pc := 273) X (by decide) dL_acts_273 ?_
  refine bk_top ((pk_rem (a := z) (d := 4) (by omega) (by omega) (by omega)).trans (congrArg nI hz)) ?_
  refine r_if_ne (pc := 274) X 282 (by decide) dL_acts_274 (fun q274 => ?_) (fun q274 => ?_)
  · skip
    refine r_iload (pc := 282) X rfl dL_acts_282 ?_
    refine r_iconst (pc := 284) (v := 4) X rfl dL_acts_284 ?_
    refine r_irem (pc := 285) X (by decide) dL_acts_285 ?_
    refine bk_top ((pk_rem (a := z) (d := 4) (by omega) (by omega) (by omega)).trans (congrArg nI hz)) ?_
    refine r_iconst (pc := 286) (v := 1) X rfl dL_acts_286 ?_
    refine r_icmp_ne (pc := 287) X 295 (by decide) dL_acts_287 (fun q287 => ?_) (fun q287 => ?_)
    · skip
      refine r_iload (pc := 295) X rfl dL_acts_295 ?_
      refine r_iconst (pc := 297) (v := 4) X rfl dL_acts_297 ?_
      refine r_irem (pc := 298) X (by decide) dL_acts_298 ?_
      refine bk_top ((pk_rem (a := z) (d := 4) (by omega) (by omega) (by omega)).trans (congrArg nI hz)) ?_
      refine r_iconst (pc := 299) (v := 2) X rfl dL_acts_299 ?_
      refine r_icmp_ne (pc := 300) X 308 (by decide) dL_acts_300 (fun q300 => ?_) (fun q300 => ?_)
      · skip
        exact absurd q300 (by decide)
      · skip
        refine r_bipush (pc := 303) (v := 100) X rfl dL_acts_303 ?_
        refine r_goto (pc := 305) X 310 (by decide) dL_acts_305 ?_
        refine ca_L_42 (pc := 310) X (c_ty (by first | omega | (simp only [jty]; omega)) 100 (by omega)) xW_o rfl rfl rfl dL_acts_310 (fun r310 M310 hp310 => ?_)
        obtain ⟨rfl, rfl⟩ := hp310
        refine r_istore_n (pc := 313) X rfl rfl dL_acts_313 ?_
        refine r_iload (pc := 314) X rfl dL_acts_314 ?_
        refine r_iconst (pc := 316) (v := 4) X rfl dL_acts_316 ?_
        refine r_irem (pc := 317) X (by decide) dL_acts_317 ?_
        refine bk_top ((pk_rem (a := z) (d := 4) (by omega) (by omega) (by omega)).trans (congrArg nI hz)) ?_
        refine r_iconst (pc := 318) (v := 1) X rfl dL_acts_318 ?_
        refine r_icmp_ne (pc := 319) X 340 (by decide) dL_acts_319 (fun q319 => ?_) (fun q319 => ?_)
        · skip
          refine r_iload_n (pc := 340) X rfl dL_acts_340 ?_
          refine r_istore_n (pc := 341) X rfl rfl dL_acts_341 ?_
          refine r_iload (pc := 342) X rfl dL_acts_342 ?_
          refine r_iconst (pc := 344) (v := 4) X rfl dL_acts_344 ?_
          refine r_irem (pc := 345) X (by decide) dL_acts_345 ?_
          refine bk_top ((pk_rem (a := z) (d := 4) (by omega) (by omega) (by omega)).trans (congrArg nI hz)) ?_
          refine r_iconst (pc := 346) (v := 1) X rfl dL_acts_346 ?_
          refine r_icmp_ne (pc := 347) X 359 (by decide) dL_acts_347 (fun q347 => ?_) (fun q347 => ?_)
          · skip
            refine r_iload_n (pc := 359) X rfl dL_acts_359 ?_
            refine r_istore_n (pc := 360) X rfl rfl dL_acts_360 ?_
            refine r_aload_n (pc := 361) X rfl dL_acts_361 ?_
            refine r_iload (pc := 362) X rfl dL_acts_362 ?_
            refine r_iconst (pc := 364) (v := 4) X rfl dL_acts_364 ?_
            refine r_irem (pc := 365) X (by decide) dL_acts_365 ?_
            refine bk_top ((pk_rem (a := z) (d := 4) (by omega) (by omega) (by omega)).trans (congrArg nI hz)) ?_
            refine r_iconst (pc := 366) (v := 2) X rfl dL_acts_366 ?_
            refine r_icmp_ne (pc := 367) X 383 (by decide) dL_acts_367 (fun q367 => ?_) (fun q367 => ?_)
            · skip
              exact absurd q367 (by decide)
            · skip
              refine r_bipush (pc := 370) (v := 48) X rfl dL_acts_370 ?_
              refine r_iload (pc := 372) X rfl dL_acts_372 ?_
              refine r_bipush (pc := 374) (v := 8) X rfl dL_acts_374 ?_
              refine r_idiv (pc := 376) X (by decide) dL_acts_376 ?_
              refine bk_top (pk_div (a := z) (d := 8) (by omega) (by omega) (by omega)) ?_
              refine r_iconst (pc := 377) (v := 4) X rfl dL_acts_377 ?_
              refine r_irem (pc := 378) X (by decide) dL_acts_378 ?_
              refine bk_top (pk_rem (a := z / 8) (d := 4) (by omega) (by omega) (by omega)) ?_
              refine r_iadd (pc := 379) X dL_acts_379 ?_
              refine bk_top (nI_add 48 (z / 8 % 4)) ?_
              refine r_goto (pc := 380) X 416 (by decide) dL_acts_380 ?_
              refine r_i2c (pc := 416) X dL_acts_416 ?_
              refine bk_top (i2c_n (by omega)) ?_
              refine ca_L_42 (pc := 417) X (c_ty (by first | omega | (simp only [jty]; omega)) _ (by omega)) xW_o rfl rfl rfl dL_acts_417 (fun r417 M417 hp417 => ?_)
              obtain ⟨rfl, rfl⟩ := hp417
              refine r_istore_n (pc := 420) X rfl rfl dL_acts_420 ?_
              refine r_iload (pc := 421) X rfl dL_acts_421 ?_
              refine r_iconst (pc := 423) (v := 4) X rfl dL_acts_423 ?_
              refine r_irem (pc := 424) X (by decide) dL_acts_424 ?_
              refine bk_top ((pk_rem (a := z) (d := 4) (by omega) (by omega) (by omega)).trans (congrArg nI hz)) ?_
              refine r_iconst (pc := 425) (v := 2) X rfl dL_acts_425 ?_
              refine r_icmp_ge (pc := 426) X 448 (by decide) dL_acts_426 (fun q426 => ?_) (fun q426 => ?_)
              · skip
                refine r_iload (pc := 448) X rfl dL_acts_448 ?_
                refine r_iconst (pc := 450) (v := 4) X rfl dL_acts_450 ?_
                refine r_irem (pc := 451) X (by decide) dL_acts_451 ?_
                refine bk_top ((pk_rem (a := z) (d := 4) (by omega) (by omega) (by omega)).trans (congrArg nI hz)) ?_
                refine r_iconst (pc := 452) (v := 2) X rfl dL_acts_452 ?_
                refine r_icmp_ne (pc := 453) X 475 (by decide) dL_acts_453 (fun q453 => ?_) (fun q453 => ?_)
                · skip
                  exact absurd q453 (by decide)
                · skip
                  refine r_aload_n (pc := 456) X rfl dL_acts_456 ?_
                  refine r_bipush (pc := 457) (v := 48) X rfl dL_acts_457 ?_
                  refine r_iload (pc := 459) X rfl dL_acts_459 ?_
                  refine r_bipush (pc := 461) (v := 64) X rfl dL_acts_461 ?_
                  refine r_idiv (pc := 463) X (by decide) dL_acts_463 ?_
                  refine bk_top (pk_div (a := z) (d := 64) (by omega) (by omega) (by omega)) ?_
                  refine r_bipush (pc := 464) (v := 8) X rfl dL_acts_464 ?_
                  refine r_irem (pc := 466) X (by decide) dL_acts_466 ?_
                  refine bk_top (pk_rem (a := z / 64) (d := 8) (by omega) (by omega) (by omega)) ?_
                  refine r_iadd (pc := 467) X dL_acts_467 ?_
                  refine bk_top (nI_add 48 (z / 64 % 8)) ?_
                  refine r_i2c (pc := 468) X dL_acts_468 ?_
                  refine bk_top (i2c_n (by omega)) ?_
                  refine ca_L_42 (pc := 469) X (c_ty (by first | omega | (simp only [jty]; omega)) _ (by omega)) xW_o rfl rfl rfl dL_acts_469 (fun r469 M469 hp469 => ?_)
                  obtain ⟨rfl, rfl⟩ := hp469
                  refine r_goto (pc := 472) X 476 (by decide) dL_acts_472 ?_
                  refine r_istore_n (pc := 476) X rfl rfl dL_acts_476 ?_
                  refine r_iload (pc := 477) X rfl dL_acts_477 ?_
                  refine r_iconst (pc := 479) (v := 4) X rfl dL_acts_479 ?_
                  refine r_irem (pc := 480) X (by decide) dL_acts_480 ?_
                  refine bk_top ((pk_rem (a := z) (d := 4) (by omega) (by omega) (by omega)).trans (congrArg nI hz)) ?_
                  refine r_iconst (pc := 481) (v := 1) X rfl dL_acts_481 ?_
                  refine r_icmp_ne (pc := 482) X 494 (by decide) dL_acts_482 (fun q482 => ?_) (fun q482 => ?_)
                  · skip
                    refine r_iload_n (pc := 494) X rfl dL_acts_494 ?_
                    refine r_istore_n (pc := 495) X rfl rfl dL_acts_495 ?_
                    refine r_iload (pc := 496) X rfl dL_acts_496 ?_
                    refine r_iconst (pc := 498) (v := 4) X rfl dL_acts_498 ?_
                    refine r_irem (pc := 499) X (by decide) dL_acts_499 ?_
                    refine bk_top ((pk_rem (a := z) (d := 4) (by omega) (by omega) (by omega)).trans (congrArg nI hz)) ?_
                    refine r_iconst (pc := 500) (v := 1) X rfl dL_acts_500 ?_
                    refine r_icmp_ne (pc := 501) X 523 (by decide) dL_acts_501 (fun q501 => ?_) (fun q501 => ?_)
                    · skip
                      refine r_iload_n (pc := 523) X rfl dL_acts_523 ?_
                      refine r_istore_n (pc := 524) X rfl rfl dL_acts_524 ?_
                      refine r_iload (pc := 525) X rfl dL_acts_525 ?_
                      refine r_iconst (pc := 527) (v := 4) X rfl dL_acts_527 ?_
                      refine r_irem (pc := 528) X (by decide) dL_acts_528 ?_
                      refine bk_top ((pk_rem (a := z) (d := 4) (by omega) (by omega) (by omega)).trans (congrArg nI hz)) ?_
                      refine r_iconst (pc := 529) (v := 1) X rfl dL_acts_529 ?_
                      refine r_icmp_ne (pc := 530) X 552 (by decide) dL_acts_530 (fun q530 => ?_) (fun q530 => ?_)
                      · skip
                        refine r_iload_n (pc := 552) X rfl dL_acts_552 ?_
                        refine r_istore_n (pc := 553) X rfl rfl dL_acts_553 ?_
                        exact K
                      · skip
                        exact absurd q530 (by decide)
                    · skip
                      exact absurd q501 (by decide)
                  · skip
                    exact absurd q482 (by decide)
              · skip
                exact absurd q426 (by decide)
          · skip
            exact absurd q347 (by decide)
        · skip
          exact absurd q319 (by decide)
    · skip
      exact absurd q287 (by decide)
  · skip
    exact absurd q274 (by decide)

set_option maxHeartbeats 1000000 in
set_option maxRecDepth 100000 in
theorem tx_3 {E : bkEnv} {G : bkG} {Z : Nat → Prop} {x c y j z np : Nat} {M : bkM} {S O : Nat → Nat → Int32} {od : Nat → Nat} {kp pc pl : Int32} {pf : Nat → Nat → Int32} {x1 : (Nat → Int32) × Nat} (X : bkX E G RL cL_acts 6 (some .int) (bkR 8 0 0)) (hz : z % 4 = 3) (hz2 : z < 2 ^ 31) (hl : x1.2 + 8 < 60) (K : bkV E G Z 0 0 (xW G x S O od (nI np) kp ((jzc z).foldl jty x1).1 (nI ((jzc z).foldl jty x1).2) pc pl pf M) 554 [some (.ref x), some (.int (nI c)), some (.int (nI y)), some (.int (nI ((jzc z).foldl jty x1).2)), some (.int (nI j)), some (.int (nI z))] []) : bkV E G Z 0 0 (xW G x S O od (nI np) kp x1.1 (nI x1.2) pc pl pf M) 269 [some (.ref x), some (.int (nI c)), some (.int (nI y)), some (.int (nI x1.2)), some (.int (nI j)), some (.int (nI z))] [] := by
  have ez : jzc z = [104, 49 + z / 8 % 9] := (if_neg (by omega)).trans ((if_neg (by omega)).trans (if_neg (by omega)))
  rw [ez] at K
  refine r_aload_n (pc := 269) X rfl dL_acts_269 ?_
  refine r_iload (pc := 270) X rfl dL_acts_270 ?_
  refine r_iconst (pc := 272) (v := 4) X rfl dL_acts_272 ?_
  refine r_irem (pc := 273) X (by decide) dL_acts_273 ?_
  refine bk_top ((pk_rem (a := z) (d := 4) (by omega) (by omega) (by omega)).trans (congrArg nI hz)) ?_
  refine r_if_ne (pc := 274) X 282 (by decide) dL_acts_274 (fun q274 => ?_) (fun q274 => ?_)
  · skip
    refine r_iload (pc := 282) X rfl dL_acts_282 ?_
    refine r_iconst (pc := 284) (v := 4) X rfl dL_acts_284 ?_
    refine r_irem (pc := 285) X (by decide) dL_acts_285 ?_
    refine bk_top ((pk_rem (a := z) (d := 4) (by omega) (by omega) (by omega)).trans (congrArg nI hz)) ?_
    refine r_iconst (pc := 286) (v := 1) X rfl dL_acts_286 ?_
    refine r_icmp_ne (pc := 287) X 295 (by decide) dL_acts_287 (fun q287 => ?_) (fun q287 => ?_)
    · skip
      refine r_iload (pc := 295) X rfl dL_acts_295 ?_
      refine r_iconst (pc := 297) (v := 4) X rfl dL_acts_297 ?_
      refine r_irem (pc := 298) X (by decide) dL_acts_298 ?_
      refine bk_top ((pk_rem (a := z) (d := 4) (by omega) (by omega) (by omega)).trans (congrArg nI hz)) ?_
      refine r_iconst (pc := 299) (v := 2) X rfl dL_acts_299 ?_
      refine r_icmp_ne (pc := 300) X 308 (by decide) dL_acts_300 (fun q300 => ?_) (fun q300 => ?_)
      · skip
        refine r_bipush (pc := 308) (v := 104) X rfl dL_acts_308 ?_
        refine ca_L_42 (pc := 310) X (c_ty (by first | omega | (simp only [jty]; omega)) 104 (by omega)) xW_o rfl rfl rfl dL_acts_310 (fun r310 M310 hp310 => ?_)
        obtain ⟨rfl, rfl⟩ := hp310
        refine r_istore_n (pc := 313) X rfl rfl dL_acts_313 ?_
        refine r_iload (pc := 314) X rfl dL_acts_314 ?_
        refine r_iconst (pc := 316) (v := 4) X rfl dL_acts_316 ?_
        refine r_irem (pc := 317) X (by decide) dL_acts_317 ?_
        refine bk_top ((pk_rem (a := z) (d := 4) (by omega) (by omega) (by omega)).trans (congrArg nI hz)) ?_
        refine r_iconst (pc := 318) (v := 1) X rfl dL_acts_318 ?_
        refine r_icmp_ne (pc := 319) X 340 (by decide) dL_acts_319 (fun q319 => ?_) (fun q319 => ?_)
        · skip
          refine r_iload_n (pc := 340) X rfl dL_acts_340 ?_
          refine r_istore_n (pc := 341) X rfl rfl dL_acts_341 ?_
          refine r_iload (pc := 342) X rfl dL_acts_342 ?_
          refine r_iconst (pc := 344) (v := 4) X rfl dL_acts_344 ?_
          refine r_irem (pc := 345) X (by decide) dL_acts_345 ?_
          refine bk_top ((pk_rem (a := z) (d := 4) (by omega) (by omega) (by omega)).trans (congrArg nI hz)) ?_
          refine r_iconst (pc := 346) (v := 1) X rfl dL_acts_346 ?_
          refine r_icmp_ne (pc := 347) X 359 (by decide) dL_acts_347 (fun q347 => ?_) (fun q347 => ?_)
          · skip
            refine r_iload_n (pc := 359) X rfl dL_acts_359 ?_
            refine r_istore_n (pc := 360) X rfl rfl dL_acts_360 ?_
            refine r_aload_n (pc := 361) X rfl dL_acts_361 ?_
            refine r_iload (pc := 362) X rfl dL_acts_362 ?_
            refine r_iconst (pc := 364) (v := 4) X rfl dL_acts_364 ?_
            refine r_irem (pc := 365) X (by decide) dL_acts_365 ?_
            refine bk_top ((pk_rem (a := z) (d := 4) (by omega) (by omega) (by omega)).trans (congrArg nI hz)) ?_
            refine r_iconst (pc := 366) (v := 2) X rfl dL_acts_366 ?_
            refine r_icmp_ne (pc := 367) X 383 (by decide) dL_acts_367 (fun q367 => ?_) (fun q367 => ?_)
            · skip
              refine r_iload (pc := 383) X rfl dL_acts_383 ?_
              refine r_iconst (pc := 385) (v := 4) X rfl dL_acts_385 ?_
              refine r_irem (pc := 386) X (by decide) dL_acts_386 ?_
              refine bk_top ((pk_rem (a := z) (d := 4) (by omega) (by omega) (by omega)).trans (congrArg nI hz)) ?_
              refine r_iconst (pc := 387) (v := 3) X rfl dL_acts_387 ?_
              refine r_icmp_ne (pc := 388) X 405 (by decide) dL_acts_388 (fun q388 => ?_) (fun q388 => ?_)
              · skip
                exact absurd q388 (by decide)
              · skip
                refine r_bipush (pc := 391) (v := 49) X rfl dL_acts_391 ?_
                refine r_iload (pc := 393) X rfl dL_acts_393 ?_
                refine r_bipush (pc := 395) (v := 8) X rfl dL_acts_395 ?_
                refine r_idiv (pc := 397) X (by decide) dL_acts_397 ?_
                refine bk_top (pk_div (a := z) (d := 8) (by omega) (by omega) (by omega)) ?_
                refine r_bipush (pc := 398) (v := 9) X rfl dL_acts_398 ?_
                refine r_irem (pc := 400) X (by decide) dL_acts_400 ?_
                refine bk_top (pk_rem (a := z / 8) (d := 9) (by omega) (by omega) (by omega)) ?_
                refine r_iadd (pc := 401) X dL_acts_401 ?_
                refine bk_top (nI_add 49 (z / 8 % 9)) ?_
                refine r_goto (pc := 402) X 416 (by decide) dL_acts_402 ?_
                refine r_i2c (pc := 416) X dL_acts_416 ?_
                refine bk_top (i2c_n (by omega)) ?_
                refine ca_L_42 (pc := 417) X (c_ty (by first | omega | (simp only [jty]; omega)) _ (by omega)) xW_o rfl rfl rfl dL_acts_417 (fun r417 M417 hp417 => ?_)
                obtain ⟨rfl, rfl⟩ := hp417
                refine r_istore_n (pc := 420) X rfl rfl dL_acts_420 ?_
                refine r_iload (pc := 421) X rfl dL_acts_421 ?_
                refine r_iconst (pc := 423) (v := 4) X rfl dL_acts_423 ?_
                refine r_irem (pc := 424) X (by decide) dL_acts_424 ?_
                refine bk_top ((pk_rem (a := z) (d := 4) (by omega) (by omega) (by omega)).trans (congrArg nI hz)) ?_
                refine r_iconst (pc := 425) (v := 2) X rfl dL_acts_425 ?_
                refine r_icmp_ge (pc := 426) X 448 (by decide) dL_acts_426 (fun q426 => ?_) (fun q426 => ?_)
                · skip
                  refine r_iload (pc := 448) X rfl dL_acts_448 ?_
                  refine r_iconst (pc := 450) (v := 4) X rfl dL_acts_450 ?_
                  refine r_irem (pc := 451) X (by decide) dL_acts_451 ?_
                  refine bk_top ((pk_rem (a := z) (d := 4) (by omega) (by omega) (by omega)).trans (congrArg nI hz)) ?_
                  refine r_iconst (pc := 452) (v := 2) X rfl dL_acts_452 ?_
                  refine r_icmp_ne (pc := 453) X 475 (by decide) dL_acts_453 (fun q453 => ?_) (fun q453 => ?_)
                  · skip
                    refine r_iload_n (pc := 475) X rfl dL_acts_475 ?_
                    refine r_istore_n (pc := 476) X rfl rfl dL_acts_476 ?_
                    refine r_iload (pc := 477) X rfl dL_acts_477 ?_
                    refine r_iconst (pc := 479) (v := 4) X rfl dL_acts_479 ?_
                    refine r_irem (pc := 480) X (by decide) dL_acts_480 ?_
                    refine bk_top ((pk_rem (a := z) (d := 4) (by omega) (by omega) (by omega)).trans (congrArg nI hz)) ?_
                    refine r_iconst (pc := 481) (v := 1) X rfl dL_acts_481 ?_
                    refine r_icmp_ne (pc := 482) X 494 (by decide) dL_acts_482 (fun q482 => ?_) (fun q482 => ?_)
                    · skip
                      refine r_iload_n (pc := 494) X rfl dL_acts_494 ?_
                      refine r_istore_n (pc := 495) X rfl rfl dL_acts_495 ?_
                      refine r_iload (pc := 496) X rfl dL_acts_496 ?_
                      refine r_iconst (pc := 498) (v := 4) X rfl dL_acts_498 ?_
                      refine r_irem (pc := 499) X (by decide) dL_acts_499 ?_
                      refine bk_top ((pk_rem (a := z) (d := 4) (by omega) (by omega) (by omega)).trans (congrArg nI hz)) ?_
                      refine r_iconst (pc := 500) (v := 1) X rfl dL_acts_500 ?_
                      refine r_icmp_ne (pc := 501) X 523 (by decide) dL_acts_501 (fun q501 => ?_) (fun q501 => ?_)
                      · skip
                        refine r_iload_n (pc := 523) X rfl dL_acts_523 ?_
                        refine r_istore_n (pc := 524) X rfl rfl dL_acts_524 ?_
                        refine r_iload (pc := 525) X rfl dL_acts_525 ?_
                        refine r_iconst (pc := 527) (v := 4) X rfl dL_acts_527 ?_
                        refine r_irem (pc := 528) X (by decide) dL_acts_528 ?_
                        refine bk_top ((pk_rem (a := z) (d := 4) (by omega) (by omega) (by omega)).trans (congrArg nI hz)) ?_
                        refine r_iconst (pc := 529) (v := 1) X rfl dL_acts_529 ?_
                        refine r_icmp_ne (pc := 530) X 552 (by decide) dL_acts_530 (fun q530 => ?_) (fun q530 => ?_)
                        · skip
                          refine r_iload_n (pc := 552) X rfl dL_acts_552 ?_
                          refine r_istore_n (pc := 553) X rfl rfl dL_acts_553 ?_
                          exact K
                        · skip
                          exact absurd q530 (by decide)
                      · skip
                        exact absurd q501 (by decide)
                    · skip
                      exact absurd q482 (by decide)
                  · skip
                    exact absurd q453 (by decide)
                · skip
                  exact absurd q426 (by decide)
            · skip
              exact absurd q367 (by decide)
          · skip
            exact absurd q347 (by decide)
        · skip
          exact absurd q319 (by decide)
      · skip
        exact absurd q300 (by decide)
    · skip
      exact absurd q287 (by decide)
  · skip
    exact absurd q274 (by decide)

