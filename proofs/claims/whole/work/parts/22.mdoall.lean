set_option maxHeartbeats 4000000 in
set_option maxRecDepth 100000 in
theorem c_X9_doAll {G : bkG} {Z : Nat → Prop} {M : bkM} {r : Nat} {s a p q t o f : Nat → Int32} {len : Nat} (h7 : f 7 = nI len) (h60 : len ≤ 60) {np : Nat} (hnp : np ≤ 4) (hf : f 3 = nI np) {n : Nat} (hw : jwf s n) : bkCi G Z Z yX9_doAll cX9_doAll 5 (some .int) 9 0 0 [.ref r] (mW G M r s a p q t o f) (fun z M' => z = (jdoAll t len s).1 ∧ ∃ a' o' x' l' u' v' w', M' = mAct G M r s a' p q t o' (jff f x' l' u' v' w') np (jdoAll t len s).2) := by
  refine bk_meti [some (.ref r), none, none, none, none] rfl pf_X9_doAll rfl rfl (fun E X K => ?_)
  refine r_aload_n (pc := 0) X rfl dX9_doAll_0 ?_
  refine ca_X9_191 (pc := 1) X (c_X9_parts h7 h60) mW_0 rfl rfl rfl dX9_doAll_1 (fun r1 M1 hp1 => ?_)
  obtain ⟨rfl, l, u, v, w, rfl⟩ := hp1
  refine r_istore_n (pc := 4) X rfl rfl dX9_doAll_4 ?_
  refine r_iload_n (pc := 5) X rfl dX9_doAll_5 ?_
  refine r_if_ge (pc := 6) X 17 (by decide) dX9_doAll_6 (fun q6 => ?_) (fun q6 => ?_)
  · skip
    have hz : (jRd t len).1.2 = false := by
      cases hz : (jRd t len).1.2
      · rfl
      · rw [hz, if_pos rfl] at q6; exact absurd q6 (by decide)
    rw [if_neg (by rw [hz]; decide)]
    have hlen : (jRd t len).2.length ≤ 61 := jrd_len t len 61 (0, false)
    have hch : jch t len (jRd t len).2 := jrd_ch t len 61 (0, false) (Nat.zero_le _) (by show len - 0 < 61; omega) hz
    refine r_aload_n (pc := 17) X rfl dX9_doAll_17 ?_
    refine ca_X9_194 (pc := 18) X (c_X9_putAside) mW_0 rfl rfl rfl dX9_doAll_18 (fun M18 hp18 => ?_)
    obtain rfl := hp18
    refine r_aload_n (pc := 21) X rfl dX9_doAll_21 ?_
    refine r_iconst (pc := 22) (v := 0) X rfl dX9_doAll_22 ?_
    refine pt_X9_154 (pc := 23) X mW_0  rfl dX9_doAll_23 ?_
    refine bkV.eq mP_9 ?_
    rw [show (0 : Int32) = nI 0 from rfl, jff_9]
    refine r_iconst (pc := 26) (v := 0) X rfl dX9_doAll_26 ?_
    refine r_istore_n (pc := 27) X rfl rfl dX9_doAll_27 ?_
    refine r_iconst (pc := 28) (v := 0) X rfl dX9_doAll_28 ?_
    refine r_istore_n (pc := 29) X rfl rfl dX9_doAll_29 ?_
    have t64 : ∀ (bar y : Int32) (S : Nat → Int32) (x : JX) (l u v w : Int32) (oo : Nat → Int32), (jdl t len (jRd t len).2 s) = (bar, S) → bkV E G Z 0 0 (mW G M r S s p q t oo (jff f x l u v w)) 64 [some (.ref r), some (.int (nI (jRd t len).2.length)), some (.int bar), some (.int y), none] [] := by
      intro bar y S x l u v w oo ed
      refine r_iconst (pc := 64) (v := 0) X rfl dX9_doAll_64 ?_
      refine r_istore_n (pc := 65) X rfl rfl dX9_doAll_65 ?_
      have lp66 : ∀ (d j : Nat) (y : Int32), j ≤ 183 → 183 < j + d → (y = nI j) → bkV E G Z 0 0 (mW G M r (jcp S s j) (jcp s S j) p q t oo (jff f x l u v w)) 66 [some (.ref r), some (.int (nI (jRd t len).2.length)), some (.int bar), some (.int y), none] [] := by
        intro d
        induction d with
        | zero => intro j y; intros; exfalso; omega
        | succ d ih =>
          intro j y hj hd e1
          subst e1
          refine r_iload_n (pc := 66) X rfl dX9_doAll_66 ?_
          refine r_sipush (pc := 67) (v := 183) X rfl dX9_doAll_67 ?_
          refine r_icmpN_ge (pc := 70) X 107 (j) (183) rfl rfl (by omega) (by omega) (by decide) dX9_doAll_70 (fun q70 => ?_) (fun q70 => ?_)
          · skip
            obtain rfl : j = 183 := by omega
            refine bkV.extI mW_1 (g := s) (fun i hi => if_pos hi) ?_
            refine bkV.eq mS_1 ?_
            refine bkV.extI mW_2 (g := S) (fun i hi => if_pos hi) ?_
            refine bkV.eq mS_2 ?_
            refine r_iload_n (pc := 107) X rfl dX9_doAll_107 ?_
            refine r_if_ge (pc := 108) X 113 (by decide) dX9_doAll_108 (fun q108 => ?_) (fun q108 => ?_)
            · skip
              have e9 : jdoAll t len s = (nI (jRd t len).2.length, some S) := by unfold jdoAll; rw [if_neg (by rw [hz]; decide), ed, if_pos q108]
              refine r_aload_n (pc := 113) X rfl dX9_doAll_113 ?_
              refine ca_X9_87 (pc := 114) X (c_X9_records hnp (jff3.trans hf)) mW_0 rfl rfl rfl dX9_doAll_114 (fun M114 hp114 => ?_)
              obtain rfl := hp114
              refine r_aload_n (pc := 117) X rfl dX9_doAll_117 ?_
              refine ca_X9_200 (pc := 118) X (c_X9_putBack) mW_0 rfl rfl rfl dX9_doAll_118 (fun M118 hp118 => ?_)
              obtain rfl := hp118
              refine r_iload_n (pc := 121) X rfl dX9_doAll_121 ?_
              exact K dX9_doAll_122 ⟨by rw [e9], _, oo, x, l, u, v, w, by rw [e9]; rfl⟩
            · skip
              have e9 : jdoAll t len s = (bar, none) := by unfold jdoAll; rw [if_neg (by rw [hz]; decide), ed, if_neg q108]
              refine r_iload_n (pc := 111) X rfl dX9_doAll_111 ?_
              exact K dX9_doAll_112 ⟨by rw [e9], _, oo, x, l, u, v, w, by rw [e9]; rfl⟩
          · skip
            refine r_aload_n (pc := 73) X rfl dX9_doAll_73 ?_
            refine gt_X9_7 (pc := 74) X mW_0 rfl dX9_doAll_74 ?_
            refine r_iload_n (pc := 77) X rfl dX9_doAll_77 ?_
            refine r_iald (pc := 78) X mW_1 (j) rfl (by omega) (by decide) dX9_doAll_78 ?_
            refine bk_top jcp_at ?_
            refine r_istore (pc := 79) X rfl rfl dX9_doAll_79 ?_
            refine r_aload_n (pc := 81) X rfl dX9_doAll_81 ?_
            refine gt_X9_7 (pc := 82) X mW_0 rfl dX9_doAll_82 ?_
            refine r_iload_n (pc := 85) X rfl dX9_doAll_85 ?_
            refine r_aload_n (pc := 86) X rfl dX9_doAll_86 ?_
            refine gt_X9_13 (pc := 87) X mW_0 rfl dX9_doAll_87 ?_
            refine r_iload_n (pc := 90) X rfl dX9_doAll_90 ?_
            refine r_iald (pc := 91) X mW_2 (j) rfl (by omega) (by decide) dX9_doAll_91 ?_
            refine bk_top jcp_at ?_
            refine r_iast (pc := 92) X mW_1 (j) rfl (by omega) (by decide) dX9_doAll_92 ?_
            refine bkV.eq mS_1 ?_
            rw [jcp_up]
            refine r_aload_n (pc := 93) X rfl dX9_doAll_93 ?_
            refine gt_X9_13 (pc := 94) X mW_0 rfl dX9_doAll_94 ?_
            refine r_iload_n (pc := 97) X rfl dX9_doAll_97 ?_
            refine r_iload (pc := 98) X rfl dX9_doAll_98 ?_
            refine r_iast (pc := 100) X mW_2 (j) rfl (by omega) (by decide) dX9_doAll_100 ?_
            refine bkV.eq mS_2 ?_
            rw [jcp_up]
            refine r_iinc (pc := 101) X rfl rfl rfl dX9_doAll_101 ?_
            refine r_goto (pc := 104) X 66 (by decide) dX9_doAll_104 ?_
            exact bkV.drop 4 (ih (j + 1) _ (by omega) (by omega) (nI_1 j))
      refine bkV.eq (show (mW G M r S s p q t oo (jff f x l u v w)) = (mW G M r (jcp S s 0) (jcp s S 0) p q t oo (jff f x l u v w)) by rw [jcp_0, jcp_0]) ?_
      exact lp66 (183 + 1) 0 _ (by omega) (by omega) rfl
    have t30 : ∀ (bar : Int32) (k : Nat) (S : Nat → Int32) (x : JX) (l u v w : Int32) (oo : Nat → Int32), ¬ bar = 0 → (jdl t len (jRd t len).2 s) = (bar, S) → bkV E G Z 0 0 (mW G M r S s p q t oo (jff f x l u v w)) 30 [some (.ref r), some (.int (nI (jRd t len).2.length)), some (.int bar), some (.int (nI (k + 1))), none] [] := by
      intro bar k S x l u v w oo hb ed
      refine r_iload_n (pc := 30) X rfl dX9_doAll_30 ?_
      refine r_iload_n (pc := 31) X rfl dX9_doAll_31 ?_
      refine r_icmp_ge (pc := 32) X 64 (by decide) dX9_doAll_32 (fun q32 => t64 _ _ _ _ _ _ _ _ _ ed) (fun q32 => ?_)
      refine r_iload_n (pc := 35) X rfl dX9_doAll_35 ?_
      refine r_if_ne (pc := 36) X 64 (by decide) dX9_doAll_36 (fun q36 => t64 _ _ _ _ _ _ _ _ _ ed) (fun q36 => absurd q36 hb)
    have lp30 : ∀ (L : List JX) (k n : Nat) (y : Int32) (S : Nat → Int32) (x : JX) (l u v w : Int32) (oo : Nat → Int32), (jRd t len).2.length = k + L.length → (jdl t len (jRd t len).2 s) = jdl t len L S → jwf S n → jch t len L → (∀ z ∈ L.head?, x = z) → y = nI k → bkV E G Z 0 0 (mW G M r S s p q t oo (jff f x l u v w)) 30 [some (.ref r), some (.int (nI (jRd t len).2.length)), some (.int 0), some (.int y), none] [] := by
      intro L
      induction L with
      | nil =>
        intro k n y S x l u v w oo e1 e2 hw _ _ e5
        subst e5
        refine r_iload_n (pc := 30) X rfl dX9_doAll_30 ?_
        refine r_iload_n (pc := 31) X rfl dX9_doAll_31 ?_
        refine r_icmpN_ge (pc := 32) X 64 k (jRd t len).2.length rfl rfl (by omega) (by omega) (by decide) dX9_doAll_32 (fun q32 => t64 _ _ _ _ _ _ _ _ _ e2) (fun q32 => absurd e1 (by simp only [List.length_nil]; omega))
      | cons z L ih =>
        intro k n y S x l u v w oo e1 e2 hw hc hx0 e5
        subst e5
        have ex : x = z := hx0 z rfl
        subst ex
        rw [List.length_cons] at e1
        obtain ⟨hok, hx, hnx, hc2⟩ := hc
        have hp := jpx_ok hok
        refine r_iload_n (pc := 30) X rfl dX9_doAll_30 ?_
        refine r_iload_n (pc := 31) X rfl dX9_doAll_31 ?_
        refine r_icmpN_ge (pc := 32) X 64 k (jRd t len).2.length rfl rfl (by omega) (by omega) (by decide) dX9_doAll_32 (fun q32 => absurd e1 (by omega)) (fun q32 => ?_)
        refine r_iload_n (pc := 35) X rfl dX9_doAll_35 ?_
        refine r_if_ne (pc := 36) X 64 (by decide) dX9_doAll_36 (fun q36 => absurd rfl q36) (fun q36 => ?_)
        refine r_aload_n (pc := 39) X rfl dX9_doAll_39 ?_
        refine ca_X9_188 (pc := 40) X (c_X9_part h7 h60 hx) mW_0 rfl rfl rfl dX9_doAll_40 (fun M40 hp40 => ?_)
        obtain rfl := hp40
        refine r_aload_n (pc := 43) X rfl dX9_doAll_43 ?_
        refine r_dup (pc := 44) X rfl dX9_doAll_44 ?_
        refine gt_X9_154 (pc := 45) X mW_0 rfl dX9_doAll_45 ?_
        refine bk_top jff9 ?_
        refine r_iconst (pc := 48) (v := 1) X rfl dX9_doAll_48 ?_
        refine r_iadd (pc := 49) X dX9_doAll_49 ?_
        refine pt_X9_154 (pc := 50) X mW_0  rfl dX9_doAll_50 ?_
        refine bkV.eq mP_9 ?_
        first | rw [jff_9a] | rw [jff_9b]
        refine r_aload_n (pc := 53) X rfl dX9_doAll_53 ?_
        refine ca_X9_197 (pc := 54) X (c_X9_does hw hp.2.2.2.2) mW_0 rfl rfl rfl dX9_doAll_54 (fun r54 M54 hp54 => ?_)
        obtain ⟨rfl, o2, rfl⟩ := hp54
        rw [jdo_nrm]
        refine r_istore_n (pc := 57) X rfl rfl dX9_doAll_57 ?_
        refine r_iinc (pc := 58) X rfl rfl rfl dX9_doAll_58 ?_
        refine r_goto (pc := 61) X 30 (by decide) dX9_doAll_61 ?_
        by_cases hb : (jdo S (jpl t len x) (jpa t len x) (jpb t len x 0) (jpd t len x 0)).1 = 0
        · obtain ⟨m, hm⟩ := jdo_wf (b := jpb t len x 0) (c := jpd t len x 0) hw hp.2.2.2.2
          rw [hb]
          refine ih (k + 1) m _ _ _ _ _ _ _ _ (by omega) (by rw [e2]; exact if_pos hb) hm hc2 (fun z hz2 => (hnx z hz2).symm) (nI_1 k)
        · rw [show nI k + Int32.ofInt 1 = nI (k + 1) from nI_1 k]
          exact t30 _ k _ _ _ _ _ _ _ hb (by rw [e2]; exact if_neg hb)
    exact lp30 (jRd t len).2 0 n 0 s (0, (jRd t len).1.2) _ _ _ _ o (by rw [Nat.zero_add]) rfl hw hch (by intro z hz2; rw [show (jRd t len).2.head? = some (0, false) from jrd_head t len 60 (0, false)] at hz2; cases hz2; rw [hz]) rfl
  · skip
    have hz : (jRd t len).1.2 = true := by
      cases hz : (jRd t len).1.2
      · rw [hz, if_neg (by decide)] at q6; exact absurd (nI_pos' (by have := jrd_len t len 61 (0, false); unfold jRd; omega)) q6
      · rfl
    have ed : jdoAll t len s = (-100 - nI (jRd t len).1.1, none) := if_pos hz
    refine r_bipush (pc := 9) (v := (-100)) X rfl dX9_doAll_9 ?_
    refine r_aload_n (pc := 11) X rfl dX9_doAll_11 ?_
    refine gt_X9_154 (pc := 12) X mW_0 rfl dX9_doAll_12 ?_
    refine bk_top jff9 ?_
    refine r_isub (pc := 15) X dX9_doAll_15 ?_
    exact K dX9_doAll_16 ⟨by rw [ed], a, o, _, l, u, v, w, by rw [ed]; rfl⟩

