/-! the law: its entry -/
set_option maxHeartbeats 4000000 in
set_option maxRecDepth 100000 in
theorem lw_s {E : bkEnv} {G : bkG} {x : Nat} {M : bkM} {S O : Nat → Nat → Int32} {od : Nat → Nat} {t : Nat → Int32} {pc pl : Int32} {pf : Nat → Nat → Int32} {Sq Oq : Nat → Nat → Int32} {odq : Nat → Nat} {tq : Nat → Int32} {pcq plq : Int32} {pfq : Nat → Nat → Int32} (X : bkX E G RL cL_law 7 ret room_1) (hL : G.2.2.2.2.1 < 1000) (hO : LJ S O od t 0 jA0) (hQ : LJ Sq Oq odq tq 0 jA0) (KF : ∀ (M2 : bkM) (Z2 : Nat → Prop) (L2 : List (Option Value)), bkV E G Z2 600000 7302249 M2 375 L2 [.int 1]) : bkV E G (fun z => z = x + 370) 370 4094 (xW G x S O od (nI (jaN jA0)) (jaK jA0) t (nI 0) pc pl pf (xW G (x + 185) Sq Oq odq (nI (jaN jA0)) (jaK jA0) tq (nI 0) pcq plq pfq M)) 16 [some (.ref (G.2.2.2.1 3)), some (.ref x), some (.ref (x + 185)), none, none, none, none] [] := by
  have hw : jwf (jaS jA0) 0 := jwf_start
  refine r_aload_n (pc := 16) X rfl dL_law_16 ?_
  refine ca_L_29 (pc := 17) X (c_X8_undo hO.np.1 hO.np.2.1) xW_o (bk_rm rfl rfl (by show _ ≤ 600000; omega) (by show _ ≤ 7302249; omega)) rfl rfl dL_law_17 (fun r17 M17 hp17 => ?_)
  obtain ⟨e1, e2⟩ := hp17
  rw [if_pos (show jaN jA0 = 0 from rfl)] at e1 e2
  subst e1
  subst e2
  refine r_bipush (pc := 20) (v := (-5)) X rfl dL_law_20 ?_
  refine r_icmp_ne (pc := 22) X 61 (by decide) dL_law_22 (fun q22 => ?_) (fun q22 => ?_)
  · skip
    exact absurd rfl q22
  · skip
    refine r_aload_n (pc := 25) X rfl dL_law_25 ?_
    refine ca_L_36 (pc := 26) X (c_X8_restore hO.np.1 hO.np.2.1 hO.snap) xW_o (bk_rm rfl rfl (by show _ ≤ 600000; omega) (by show _ ≤ 7302249; omega)) rfl rfl dL_law_26 (fun r26 M26 hp26 => ?_)
    obtain ⟨e1, go, e2, -⟩ := hp26
    rw [show jRest (S 2) (jaK jA0) = (-5, none) from if_pos rfl] at e1 e2
    obtain rfl : r26 = -5 := e1
    obtain rfl : M26 = (xW G x S O od (nI (jaN jA0)) (jaK jA0) t (nI 0) pc pl pf (xW G (x + 185) Sq Oq odq (nI (jaN jA0)) (jaK jA0) tq (nI 0) pcq plq pfq M)) := e2
    refine r_bipush (pc := 29) (v := (-5)) X rfl dL_law_29 ?_
    refine r_icmp_ne (pc := 31) X 61 (by decide) dL_law_31 (fun q31 => ?_) (fun q31 => ?_)
    · skip
      exact absurd rfl q31
    · skip
      refine r_aload_n (pc := 34) X rfl dL_law_34 ?_
      refine ca_L_46 (pc := 35) X (c_X8_fault hO.np.2.2.1 hO.np.2.2.2) xW_o (bk_rm rfl rfl (by show _ ≤ 600000; omega) (by show _ ≤ 7302249; omega)) rfl rfl dL_law_35 (fun r35 M35 hp35 => ?_)
      obtain ⟨e1, pc2, pl2, pf2, rfl⟩ := hp35
      rw [(no_text t).1] at e1
      obtain rfl : r35 = 0 := e1
      refine r_if_ne (pc := 38) X 61 (by decide) dL_law_38 (fun q38 => ?_) (fun q38 => ?_)
      · skip
        exact absurd rfl q38
      · skip
        refine r_aload_n (pc := 41) X rfl dL_law_41 ?_
        refine bkV.eq hO.eq ?_
        refine ca_L_49 (pc := 42) X (c_X8_doAll hO.np.2.2.1 hO.np.2.2.2 hO.np.1 hO.np.2.1 (hO.cok2 hw)) xW_o (bk_rm rfl rfl (by show _ ≤ 600000; omega) (by show _ ≤ 7302249; omega)) rfl rfl dL_law_42 (fun r42 M42 hp42 => ?_)
        obtain ⟨e1, s1, g1, pc3, pl3, pf3, go, e2, -⟩ := hp42
        rw [(no_text t).2] at e1 e2
        obtain rfl : r42 = -100 := e1
        have hO3 := hO.strict.trial (s1 := s1) (g1 := g1)
        obtain rfl : M42 = (xW G x (pfu (pfu S 0 (jaS jA0)) 1 s1) (pfu O 1 g1) od (nI (jaN jA0)) (jaK jA0) t (nI 0) pc3 pl3 pf3 (xW G (x + 185) Sq Oq odq (nI (jaN jA0)) (jaK jA0) tq (nI 0) pcq plq pfq M)) := e2
        generalize pfu (pfu S 0 (jaS jA0)) 1 s1 = S3 at hO3 ⊢
        generalize pfu O 1 g1 = O3 at hO3 ⊢
        refine r_bipush (pc := 45) (v := (-100)) X rfl dL_law_45 ?_
        refine r_icmp_ne (pc := 47) X 61 (by decide) dL_law_47 (fun q47 => ?_) (fun q47 => ?_)
        · skip
          exact absurd rfl q47
        · skip
          refine r_aload_n (pc := 50) X rfl dL_law_50 ?_
          refine bkV.eq hO3.eq ?_
          refine ca_L_92 (pc := 51) X (c_L_hangs (S := pfu S3 0 (jaS jA0)) (O := O3) (hO3.cok2 hw) (by rw [pfu_at]; exact jI.start) (by omega) (by omega) hO3.np.1) (bk_rm rfl rfl (by show _ ≤ 600000; omega) (by show _ ≤ 7302249; omega)) rfl rfl dL_law_51 (fun r51 M51 hp51 => ?_)
          obtain ⟨rfl, s4, g4, rfl⟩ := hp51
          have hO4 := hO3.strict.trial (s1 := s4) (g1 := g4)
          refine r_if_eq (pc := 54) X 61 (by decide) dL_law_54 (fun q54 => ?_) (fun q54 => ?_)
          · skip
            exact absurd q54 (by decide)
          · skip
            refine r_iconst (pc := 57) (v := 1) X rfl dL_law_57 ?_
            refine r_goto (pc := 58) X 62 (by decide) dL_law_58 ?_
            refine r_istore_n (pc := 62) X rfl rfl dL_law_62 ?_
            refine r_iconst (pc := 63) (v := 0) X rfl dL_law_63 ?_
            refine r_istore (pc := 64) X rfl rfl dL_law_64 ?_
            exact bkV.widen (by omega) (by omega) (lw_loop X hL KF 45 0 0 jA0 _ _ _ _ _ _ _ _ _ _ _ _ _ _ _ _ (x + 370 + 1) (by omega) (by omega) rfl hO4 hQ JJ.start (by omega))

set_option maxHeartbeats 4000000 in
set_option maxRecDepth 100000 in
theorem lw_main {E : bkEnv} {G : bkG} {x : Nat} {M : bkM} (X : bkX E G RL cL_law 7 ret room_1) (hL : G.2.2.2.2.1 < 1000) (KF : ∀ (M2 : bkM) (Z2 : Nat → Prop) (L2 : List (Option Value)), bkV E G Z2 600000 7302249 M2 375 L2 [.int 1]) : bkV E G (fun z => z = x) 0 0 M 0 [some (.ref (G.2.2.2.1 3)), none, none, none, none, none, none] [] := by
  refine r_new (pc := 0) X (a := x) (ci := 8) rfl inX8 tyX8 tyX8_ok dfX8 dfX8_ok cl_L_10 ins_X8 ini_X8 ⟨Nat.le_of_ble_eq_true rfl, Nat.le_of_ble_eq_true rfl⟩ dL_law_0 ?_
  refine r_dup (pc := 3) X rfl dL_law_3 ?_
  refine ca_L_91 (pc := 4) X (c_X8_init) rfl rfl rfl dL_law_4 (fun M4 hp4 => ?_)
  obtain rfl := hp4
  refine r_astore_n (pc := 7) X rfl rfl dL_law_7 ?_
  refine r_new (pc := 8) X (a := (x + 185)) (ci := 8) rfl inX8 tyX8 tyX8_ok dfX8 dfX8_ok cl_L_10 ins_X8 ini_X8 ⟨Nat.le_of_ble_eq_true rfl, Nat.le_of_ble_eq_true rfl⟩ dL_law_8 ?_
  refine r_dup (pc := 11) X rfl dL_law_11 ?_
  refine ca_L_91 (pc := 12) X (c_X8_init) rfl rfl rfl dL_law_12 (fun M12 hp12 => ?_)
  obtain rfl := hp12
  refine bkV.z (Z2 := fun z => z = x + 370) (fun z hz => hz.trans (by omega)) ?_
  refine bkV.eq (xx_comm (Nat.le_refl _)) ?_
  refine r_astore_n (pc := 15) X rfl rfl dL_law_15 ?_
  exact bkV.widen (by omega) (by omega) (lw_s X hL LJ_0 LJ_0 KF)

