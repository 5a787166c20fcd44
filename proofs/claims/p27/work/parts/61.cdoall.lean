theorem jdl_s {t : Nat → Int32} {len : Nat} {x : JX} {L : List JX} {s : Nat → Int32} (h : (jdo s (jpl t len x) (jpa t len x) (jpb t len x 0) (jpd t len x 0)).1 = 0) : jdl t len (x :: L) s = jdl t len L (jdo s (jpl t len x) (jpa t len x) (jpb t len x 0) (jpd t len x 0)).2 := if_pos h
theorem jdl_e {t : Nat → Int32} {len : Nat} {x : JX} {L : List JX} {s : Nat → Int32} (h : ¬ (jdo s (jpl t len x) (jpa t len x) (jpb t len x 0) (jpd t len x 0)).1 = 0) : jdl t len (x :: L) s = jdo s (jpl t len x) (jpa t len x) (jpb t len x 0) (jpd t len x 0) := if_neg h
theorem cmin_20 {m : Nat} (h : m ≤ 20) : cmin (nI m) 20 = nI m := by
  unfold cmin
  exact if_neg (Int32.not_lt.mpr ((nI_leI (a := m) (b := 20) (by omega) (by omega)).mpr h))
theorem pt5 {f : Nat → Int32} {l : Int32} (h : f 0 = l) : ptF f = [.int l, .int (f 1), .int (f 2), .int (f 3), .int (f 4)] := by unfold ptF; rw [h]

theorem jrd_le {t : Nat → Int32} {len : Nat} : ∀ (d : Nat) (x : JX), x.1 ≤ len → (jrd t len d x).1.1 ≤ len
  | 0, _, h => h
  | d + 1, x, h => by
    have h2 := jpx_le (t := t) h
    by_cases h1 : (jpx t len x).2 = true ∨ ¬ (jpx t len x).1 < len
    · rw [jrd_s1 h1]; exact h2
    · have hp : (jpx t len x).2 = false := by
        cases e : (jpx t len x).2
        · rfl
        · exact absurd (Or.inl e) h1
      have hl : (jpx t len x).1 < len := by
        rcases Nat.lt_or_ge (jpx t len x).1 len with q | q
        · exact q
        · exact absurd (Or.inr (Nat.not_lt.mpr q)) h1
      have h3 := jsg_le (t := t) (c := 59) (by decide) h2
      cases e : (jsg t len 59 (jpx t len x)).2
      · rw [jrd_s3 hp hl e]; exact jrd_le d _ h3
      · rw [jrd_s2 hp hl e]; exact h3
theorem jRd_le (t : Nat → Int32) (len : Nat) : (jRd t len).1.1 ≤ len := jrd_le 61 (0, false) (Nat.zero_le _)

set_option maxHeartbeats 8000000 in
set_option maxRecDepth 100000 in
theorem c_X8_doAll {G : bkG} {Z : Nat → Prop} {M : bkM} {x : Nat} {S O : Nat → Nat → Int32} {od : Nat → Nat} {kp : Int32} {t : Nat → Int32} {pc pl : Int32} {pf : Nat → Nat → Int32} {np len : Nat} (h60 : len ≤ 60) (ht : tOK t) (hnp : np ≤ 4) (h0 : hOK od) {n : Nat} (hk : cOK (S 0) n (O 0)) : bkCi G Z Z yX8_doAll cX8_doAll 5 (some .int) 7 0 0 [.ref x] (xW G x S O od (nI np) kp t (nI len) pc pl pf M) (fun v M' => v = (jdoAll t len (S 0)).1 ∧ ∃ s1 g1 pc' pl' pf' go, M' = xA G x (pfu S 1 s1) (pfu O 1 g1) od np kp t (nI len) pc' pl' pf' M go (jdoAll t len (S 0)).2 ∧ xG (jdoAll t len (S 0)).2 go) := by
  refine bk_meti [some (.ref x), none, none, none, none] rfl pf_X8_doAll rfl rfl (fun E X K => ?_)
  refine r_aload_n (pc := 0) X rfl dX8_doAll_0 ?_
  refine gt_X8_45 (pc := 1) X xW_o rfl dX8_doAll_1 ?_
  refine bkV.eq xW_tx ?_
  refine ca_X8_98 (pc := 4) X (c_X7_read h60 ht) tW_o rfl rfl rfl dX8_doAll_4 (fun r4 M4 hp4 => ?_)
  obtain ⟨rfl, pc2, pl2, pf2, rfl, hg⟩ := hp4
  refine bkV.eq xW_setT ?_
  refine r_istore_n (pc := 7) X rfl rfl dX8_doAll_7 ?_
  refine r_iload_n (pc := 8) X rfl dX8_doAll_8 ?_
  refine r_bipush (pc := 9) (v := (-5)) X rfl dX8_doAll_9 ?_
  refine r_icmp_eq (pc := 11) X 19 (by decide) dX8_doAll_11 (fun q11 => ?_) (fun q11 => ?_)
  · skip
    have hz : (jRd t len).1.2 = false := by
      cases hz : (jRd t len).1.2
      · rfl
      · exfalso
        have ef : jfault t len = nI (jRd t len).1.1 := if_pos hz
        rw [ef] at q11
        have h2 : (0 : Int32) ≤ nI (jRd t len).1.1 := nI_pos' (by have := jRd_le t len; omega)
        rw [q11] at h2
        exact absurd h2 (by decide)
    obtain ⟨rfl, hcg⟩ := hg hz
    have h20 := jRd_20 h60 hz
    have hch : jch t len (jRd t len).2 := jrd_ch t len 61 (0, false) (Nat.zero_le _) (by show len - 0 < 61; omega) hz
    refine r_aload_n (pc := 19) X rfl dX8_doAll_19 ?_
    refine gt_X8_25 (pc := 20) X xW_o rfl dX8_doAll_20 ?_
    refine r_aload_n (pc := 23) X rfl dX8_doAll_23 ?_
    refine gt_X8_21 (pc := 24) X xW_o rfl dX8_doAll_24 ?_
    refine ca_X8_101 (pc := 27) X (c_x_copy (k := 1) (j := 0) (by decide) (by decide) (by decide)) xW_1o rfl rfl rfl dX8_doAll_27 (fun M27 hp27 => ?_)
    obtain rfl := hp27
    refine bkV.eq (xW_cp (by decide) (by decide)) ?_
    refine r_aload_n (pc := 30) X rfl dX8_doAll_30 ?_
    refine gt_X8_45 (pc := 31) X xW_o rfl dX8_doAll_31 ?_
    refine gt_X8_104 (pc := 34) X xW_t rfl dX8_doAll_34 ?_
    refine r_bipush (pc := 37) (v := 20) X rfl dX8_doAll_37 ?_
    refine ca_X8_107 (pc := 39) X (c_J9_min_7cf53 (nI (jRd t len).2.length) 20) rfl rfl rfl dX8_doAll_39 (fun r39 M39 hp39 => ?_)
    obtain ⟨rfl, rfl⟩ := hp39
    refine bk_top (cmin_20 h20) ?_
    refine r_istore_n (pc := 42) X rfl rfl dX8_doAll_42 ?_
    refine r_iconst (pc := 43) (v := 0) X rfl dX8_doAll_43 ?_
    refine r_istore_n (pc := 44) X rfl rfl dX8_doAll_44 ?_
    have lp45 : ∀ (L : List JX) (i m : Nat) (y : Int32) (s1 g1 : Nat → Int32), L = (jRd t len).2.drop i → i ≤ (jRd t len).2.length → jdl t len (jRd t len).2 (S 0) = jdl t len L s1 → cOK s1 m g1 → y = nI i → bkV E G Z 0 0 (xW G x (pfu S 1 s1) (pfu O 1 g1) od (nI np) kp t (nI len) (nI (jRd t len).2.length) pl2 pf2 M) 45 [some (.ref x), some (.int (jfault t len)), some (.int (nI (jRd t len).2.length)), some (.int y), none] [] := by
      intro L
      induction L with
      | nil =>
        intro i m y s1 g1 eL hi e1 hk1 ey
        subst ey
        have hie : i = (jRd t len).2.length := by have h := congrArg List.length eL; rw [List.length_drop] at h; simp only [List.length_nil] at h; omega
        have e : (jdoAll t len (S 0)) = (nI (jRd t len).2.length, some s1) := by unfold jdoAll; rw [if_neg (by rw [hz]; decide), e1]; exact if_pos (Int32.le_refl 0)
        refine r_iload_n (pc := 45) X rfl dX8_doAll_45 ?_
        refine r_iload_n (pc := 46) X rfl dX8_doAll_46 ?_
        refine r_icmpN_ge (pc := 47) X 82 i (jRd t len).2.length rfl rfl (by omega) (by omega) (by decide) dX8_doAll_47 (fun q47 => ?_) (fun q47 => absurd q47 (by omega))
        refine r_aload_n (pc := 82) X rfl dX8_doAll_82 ?_
        refine gt_X8_38 (pc := 83) X xW_o rfl dX8_doAll_83 ?_
        refine r_aload_n (pc := 86) X rfl dX8_doAll_86 ?_
        refine gt_X8_21 (pc := 87) X xW_o rfl dX8_doAll_87 ?_
        refine ca_X8_53 (pc := 90) X (c_X1_record hnp h0) xW_h rfl rfl rfl dX8_doAll_90 (fun M90 hp90 => ?_)
        obtain rfl := hp90
        refine r_aload_n (pc := 93) X rfl dX8_doAll_93 ?_
        refine gt_X8_21 (pc := 94) X xW_o rfl dX8_doAll_94 ?_
        refine r_aload_n (pc := 97) X rfl dX8_doAll_97 ?_
        refine gt_X8_25 (pc := 98) X xW_o rfl dX8_doAll_98 ?_
        refine ca_X8_101 (pc := 101) X (c_x_copy (k := 0) (j := 1) (by decide) (by decide) (by decide)) xW_0o rfl rfl rfl dX8_doAll_101 (fun M101 hp101 => ?_)
        obtain rfl := hp101
        refine bkV.eq (xW_cp (by decide) (by decide)) ?_
        have hb1 : 1 ≠ jbk od np := by have h3 := (h0.od np (jrn np - 1) (by have := jrn_rng hnp; omega)).1; unfold jbk; omega
        rw [pfu_ne hb1, pfu_ne hb1, pfu_at, pfu_at]
        refine r_iload_n (pc := 104) X rfl dX8_doAll_104 ?_
        exact K dX8_doAll_105 ⟨by rw [e], s1, g1, _, _, _, _, by rw [e]; rfl, by rw [e]; exact xG.some hk1.m⟩
      | cons xx L ih =>
        intro i m y s1 g1 eL hi e1 hk1 ey
        subst ey
        have hil : i < (jRd t len).2.length := by have h := congrArg List.length eL; rw [List.length_drop] at h; simp only [List.length_cons] at h; omega
        have hxx : (jRd t len).2[i] = xx := by
          have h := List.drop_eq_getElem_cons hil
          rw [← eL] at h
          exact (List.cons.inj h).1.symm
        have hL : L = (jRd t len).2.drop (i + 1) := by
          have h := List.drop_eq_getElem_cons hil
          rw [← eL] at h
          exact (List.cons.inj h).2
        have hok := jch_at _ hch xx (by rw [← hxx]; exact List.getElem_mem hil)
        have hp := jpx_ok hok
        have hc0 := hcg i hil
        rw [hxx] at hc0
        refine r_iload_n (pc := 45) X rfl dX8_doAll_45 ?_
        refine r_iload_n (pc := 46) X rfl dX8_doAll_46 ?_
        refine r_icmpN_ge (pc := 47) X 82 i (jRd t len).2.length rfl rfl (by omega) (by omega) (by decide) dX8_doAll_47 (fun q47 => absurd q47 (by omega)) (fun q47 => ?_)
        refine r_aload_n (pc := 50) X rfl dX8_doAll_50 ?_
        refine gt_X8_25 (pc := 51) X xW_o rfl dX8_doAll_51 ?_
        refine r_aload_n (pc := 54) X rfl dX8_doAll_54 ?_
        refine gt_X8_45 (pc := 55) X xW_o rfl dX8_doAll_55 ?_
        refine gt_X8_112 (pc := 58) X xW_t rfl dX8_doAll_58 ?_
        refine r_iload_n (pc := 61) X rfl dX8_doAll_61 ?_
        refine r_aald (pc := 62) X xW_tp rfl rfl (i) rfl (by omega) (by decide) rfl dX8_doAll_62 ?_
        refine bkV.eq xQ_b1 ?_
        refine ca_X8_116 (pc := 63) X (c_X6_doPart xW_bB (by omega) hk1 (Or.inr (by omega)) ((xW_tq (i := i) (by omega)).trans (congrArg (fun z => some (Sum.inr (4, z))) (pt5 hc0.1))) hc0.2 hp.2.2.2.2) sW_o rfl rfl rfl dX8_doAll_63 (fun r63 M63 hp63 => ?_)
        obtain ⟨rfl, g2, m2, rfl, hk2⟩ := hp63
        refine bkV.eq xT_s1 ?_
        refine r_istore (pc := 66) X rfl rfl dX8_doAll_66 ?_
        refine r_iload (pc := 68) X rfl dX8_doAll_68 ?_
        refine r_if_eq (pc := 70) X 76 (by decide) dX8_doAll_70 (fun q70 => ?_) (fun q70 => ?_)
        · skip
          refine r_iinc (pc := 76) X rfl rfl rfl dX8_doAll_76 ?_
          refine r_goto (pc := 79) X 45 (by decide) dX8_doAll_79 ?_
          exact bkV.drop 4 (ih (i + 1) m2 _ _ _ hL (by omega) (by rw [e1]; exact jdl_s q70) hk2 (nI_1 i))
        · skip
          have e : (jdoAll t len (S 0)) = ((jdo s1 (jpl t len xx) (jpa t len xx) (jpb t len xx 0) (jpd t len xx 0)).1, none) := by
            have hlt := jdo_z.resolve_left q70
            unfold jdoAll
            rw [if_neg (by rw [hz]; decide), e1, jdl_e q70]
            exact if_neg (Int32.not_le.mpr hlt)
          refine r_iload (pc := 73) X rfl dX8_doAll_73 ?_
          exact K dX8_doAll_75 ⟨by rw [e], _, _, _, _, _, O 0, by rw [e]; rfl, by rw [e]; exact xG.none⟩
    exact lp45 (jRd t len).2 0 n 0 (S 0) _ rfl (Nat.zero_le _) rfl hk.m rfl
  · skip
    have hz : (jRd t len).1.2 = true := by
      cases hz : (jRd t len).1.2
      · exact absurd (if_neg (by rw [hz]; decide)) q11
      · rfl
    have e : (jdoAll t len (S 0)) = (-100 - nI (jRd t len).1.1, none) := if_pos hz
    have ef : jfault t len = nI (jRd t len).1.1 := if_pos hz
    refine r_bipush (pc := 14) (v := (-100)) X rfl dX8_doAll_14 ?_
    refine r_iload_n (pc := 16) X rfl dX8_doAll_16 ?_
    refine r_isub (pc := 17) X dX8_doAll_17 ?_
    exact K dX8_doAll_18 ⟨by rw [e, ← ef], S 1, O 1, pc2, pl2, pf2, O 0, by rw [e, pfu_self, pfu_self]; rfl, by rw [e]; exact xG.none⟩

