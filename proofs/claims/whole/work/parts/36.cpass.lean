theorem jct_none : ∀ n, jct (fun _ => false) n = 0
  | 0 => rfl
  | n + 1 => by show jct _ n + 0 = 0; rw [jct_none n]
set_option maxHeartbeats 4000000 in
set_option maxRecDepth 100000 in
theorem c_X6_passHours {G : bkG} {Z : Nat → Prop} {M : bkM} {B b : Nat} {s go : Nat → Int32} (hB : bB G B M) (hs : B + 12 ≤ b) (hf : jlf s) {n : Nat} (hw : jwf s n) (hg : cjall s n go) (h : Nat) (hh : h ≤ 40) : bkCi G Z Z yX6_passHours cX6_passHours 8 (some .int) 4 0 0 [.ref b, .int (nI h)] (sW G B b s go M) (fun v M' => v = nI (jwc s (jhrs s n h) n) ∧ M' = (sW G B b (jhrs s n h) go M)) := by
  refine bk_meti [some (.ref b), some (.int (nI h)), none, none, none, none, none, none] rfl pf_X6_passHours rfl rfl (fun E X K => ?_)
  refine r_iconst (pc := 0) (v := 0) X rfl dX6_passHours_0 ?_
  refine r_istore_n (pc := 1) X rfl rfl dX6_passHours_1 ?_
  refine r_iconst (pc := 2) (v := 0) X rfl dX6_passHours_2 ?_
  refine r_istore_n (pc := 3) X rfl rfl dX6_passHours_3 ?_
  have lp4 : ∀ (da i : Nat) (x : Int32) (y : Int32), i ≤ h → h < i + da → (x = nI (jwc s (jhrs s n i) n)) → (y = nI i) → (jmon s (jhrs s n i)) → bkV E G Z 0 0 (sW G B b (jhrs s n i) go M) 4 [some (.ref b), some (.int (nI h)), some (.int x), some (.int y), none, none, none, none] [] := by
    intro da
    induction da with
    | zero => intro i x y; intros; exfalso; omega
    | succ da iha =>
      intro i x y hja hda ea1 ea2 ea3
      subst ea1
      subst ea2
      refine r_iload_n (pc := 4) X rfl dX6_passHours_4 ?_
      refine r_iload_n (pc := 5) X rfl dX6_passHours_5 ?_
      refine r_icmpN_ge (pc := 6) X 147 (i) (h) rfl rfl (by omega) (by omega) (by decide) dX6_passHours_6 (fun q6 => ?_) (fun q6 => ?_)
      · skip
        refine r_iload_n (pc := 147) X rfl dX6_passHours_147 ?_
        exact K dX6_passHours_148 ⟨by rw [show i = h by omega], by rw [show i = h by omega]⟩
      · skip
        have hwi := hw.hrs i
        have hfi := jhrs_lf (n := n) hf i
        have hgi : cjall (jhrs s n i) n go := cjall_congr (fun k hk => jhrs_worth s n i k (by have := hw.1; omega)) hg
        have hn8 := hw.1
        refine r_iconst (pc := 9) (v := 0) X rfl dX6_passHours_9 ?_
        refine r_istore (pc := 10) X rfl rfl dX6_passHours_10 ?_
        have lp12 : ∀ (db j : Nat) (x : Int32) (y : Int32), j ≤ n → n < j + db → (x = nI (jwc s (jgf (jhrs s n i) n ((jall (jwn (jhrs s n i)) n).take j)) n)) → (y = nI j) → (jmon s (jgf (jhrs s n i) n ((jall (jwn (jhrs s n i)) n).take j))) → bkV E G Z 0 0 (sW G B b (jgf (jhrs s n i) n ((jall (jwn (jhrs s n i)) n).take j)) go M) 12 [some (.ref b), some (.int (nI h)), some (.int x), some (.int (nI i)), some (.int y), none, none, none] [] := by
          intro db
          induction db with
          | zero => intro j x y; intros; exfalso; omega
          | succ db ihb =>
            intro j x y hjb hdb eb1 eb2 eb3
            subst eb1
            subst eb2
            refine r_iload (pc := 12) X rfl dX6_passHours_12 ?_
            refine r_aload_n (pc := 14) X rfl dX6_passHours_14 ?_
            refine gt_X6_36 (pc := 15) X sW_o rfl dX6_passHours_15 ?_
            refine bk_top (jgf_o (m := 180) (fun k => by omega) (fun l hl => by omega) ((jall (jwn (jhrs s n i)) n).take j) (jhrs s n i)) ?_
            refine r_icmpN_ge (pc := 18) X 49 (j) (n) rfl hwi.2.1 (by omega) (by omega) (by decide) dX6_passHours_18 (fun q18 => ?_) (fun q18 => ?_)
            · skip
              have eT : jgf (jhrs s n i) n ((jall (jwn (jhrs s n i)) n).take j) = (jgoA (jhrs s n i) n) := by rw [List.take_of_length_le (by rw [jall_len]; omega), jgf_A]
              rw [eT]
              rw [eT] at eb3
              refine r_aload_n (pc := 49) X rfl dX6_passHours_49 ?_
              refine gt_X6_23 (pc := 50) X sW_o rfl dX6_passHours_50 ?_
              refine r_astore (pc := 53) X rfl rfl dX6_passHours_53 ?_
              refine r_aload (pc := 55) X rfl dX6_passHours_55 ?_
              refine r_alen (pc := 57) (t := 0) X sW_k 4 rfl dX6_passHours_57 ?_
              refine r_istore (pc := 58) X rfl rfl dX6_passHours_58 ?_
              refine r_iconst (pc := 60) (v := 0) X rfl dX6_passHours_60 ?_
              refine r_istore (pc := 61) X rfl rfl dX6_passHours_61 ?_
              have lp63 : ∀ (dc j : Nat) (y : Int32), j ≤ 4 → 4 < j + dc → (y = nI j) → bkV E G Z 0 0 (sW G B b (ckes (jgoA (jhrs s n i) n) j) go M) 63 [some (.ref b), some (.int (nI h)), some (.int (nI (jwc s (jgoA (jhrs s n i) n) n))), some (.int (nI i)), some (.ref (b + 3)), some (.int (nI 4)), some (.int y), none] [] := by
                intro dc
                induction dc with
                | zero => intro j y; intros; exfalso; omega
                | succ dc ihc =>
                  intro j y hjc hdc ec1
                  subst ec1
                  refine r_iload (pc := 63) X rfl dX6_passHours_63 ?_
                  refine r_iload (pc := 65) X rfl dX6_passHours_65 ?_
                  refine r_icmpN_ge (pc := 67) X 92 (j) (4) rfl rfl (by omega) (by omega) (by decide) dX6_passHours_67 (fun q67 => ?_) (fun q67 => ?_)
                  · skip
                    obtain rfl : j = 4 := by omega
                    refine r_aload_n (pc := 92) X rfl dX6_passHours_92 ?_
                    refine gt_X6_17 (pc := 93) X sW_o rfl dX6_passHours_93 ?_
                    refine r_astore (pc := 96) X rfl rfl dX6_passHours_96 ?_
                    refine r_aload (pc := 98) X rfl dX6_passHours_98 ?_
                    refine r_alen (pc := 100) (t := 0) X sW_l 3 rfl dX6_passHours_100 ?_
                    refine r_istore (pc := 101) X rfl rfl dX6_passHours_101 ?_
                    refine r_iconst (pc := 103) (v := 0) X rfl dX6_passHours_103 ?_
                    refine r_istore (pc := 104) X rfl rfl dX6_passHours_104 ?_
                    have lp106 : ∀ (dd j : Nat) (y : Int32), j ≤ 4 → 4 < j + dd → (y = nI j) → bkV E G Z 0 0 (sW G B b (cfgs (ckes (jgoA (jhrs s n i) n) 4) j) go M) 106 [some (.ref b), some (.int (nI h)), some (.int (nI (jwc s (jgoA (jhrs s n i) n) n))), some (.int (nI i)), some (.ref (b + 2)), some (.int (nI 4)), some (.int y), none] [] := by
                      intro dd
                      induction dd with
                      | zero => intro j y; intros; exfalso; omega
                      | succ dd ihd =>
                        intro j y hjd hdd ed1
                        subst ed1
                        refine r_iload (pc := 106) X rfl dX6_passHours_106 ?_
                        refine r_iload (pc := 108) X rfl dX6_passHours_108 ?_
                        refine r_icmpN_ge (pc := 110) X 131 (j) (4) rfl rfl (by omega) (by omega) (by decide) dX6_passHours_110 (fun q110 => ?_) (fun q110 => ?_)
                        · skip
                          obtain rfl : j = 4 := by omega
                          refine r_aload_n (pc := 131) X rfl dX6_passHours_131 ?_
                          refine r_dup (pc := 132) X rfl dX6_passHours_132 ?_
                          refine gt_X6_43 (pc := 133) X sW_o rfl dX6_passHours_133 ?_
                          refine r_iconst (pc := 136) (v := 1) X rfl dX6_passHours_136 ?_
                          refine r_iadd (pc := 137) X dX6_passHours_137 ?_
                          refine pt_X6_43 (pc := 138) X sW_o  rfl dX6_passHours_138 ?_
                          refine bkV.eq ((congrArg (fun z => bku _ _ (.inr (6, z))) sO_8).trans (sS_o (fun m _ hm => upd_n (fun e => hm (by rw [e]; exact jow_o (by omega)))))) ?_
                          rw [jhour_ef]
                          refine r_iinc (pc := 141) X rfl rfl rfl dX6_passHours_141 ?_
                          refine r_goto (pc := 144) X 4 (by decide) dX6_passHours_144 ?_
                          refine bkV.drop 4 (bkV.drop 5 (bkV.drop 6 (iha (i + 1) _ _ (by omega) (by omega) ?_ (nI_1 i) ?_)))
                          · exact congrArg nI (jwc_congr hn8 (fun k hk => jhour_st k hk)).symm
                          · intro k hk8 hk
                            show jst (jhour (jhrs s n i) n) 2 k = true
                            rw [jhour_st k hk8]
                            exact eb3 k hk8 hk
                        · skip
                          refine r_aload (pc := 113) X rfl dX6_passHours_113 ?_
                          refine r_iload (pc := 115) X rfl dX6_passHours_115 ?_
                          refine r_aald (pc := 117) X sW_l rfl rfl (j) rfl (by omega) (by decide) rfl dX6_passHours_117 ?_
                          refine r_astore (pc := 118) X rfl rfl dX6_passHours_118 ?_
                          refine r_aload (pc := 120) X rfl dX6_passHours_120 ?_
                          refine ca_X6_131 (pc := 122) X (c_X3_thinFog (sW_lt (by omega))) (sW_lt (by omega)) rfl rfl rfl dX6_passHours_122 (fun M122 hp122 => ?_)
                          obtain rfl := hp122
                          refine bkV.eq (sS_lt (s' := cfg (cfgs (ckes (jgoA (jhrs s n i) n) 4) j) j) (by omega) (fun m _ hm => cfg_o (fun e => hm (by rw [e]; exact jow_l (by omega) (by omega))))) ?_
                          refine r_iinc (pc := 125) X rfl rfl rfl dX6_passHours_125 ?_
                          refine r_goto (pc := 128) X 106 (by decide) dX6_passHours_128 ?_
                          exact bkV.drop 7 (ihd (j + 1) _ (by omega) (by omega) (nI_1 j))
                    exact lp106 (4 + 1) 0 _ (by omega) (by omega) rfl
                  · skip
                    refine r_aload (pc := 70) X rfl dX6_passHours_70 ?_
                    refine r_iload (pc := 72) X rfl dX6_passHours_72 ?_
                    refine r_aald (pc := 74) X sW_k rfl rfl (j) rfl (by omega) (by decide) rfl dX6_passHours_74 ?_
                    refine r_astore (pc := 75) X rfl rfl dX6_passHours_75 ?_
                    refine r_aload (pc := 77) X rfl dX6_passHours_77 ?_
                    refine r_aload_n (pc := 79) X rfl dX6_passHours_79 ?_
                    refine gt_X6_40 (pc := 80) X sW_o rfl dX6_passHours_80 ?_
                    refine ca_X6_127 (pc := 83) X (c_X2_earn (sW_kp (by omega)) (ckes (jgoA (jhrs s n i) n) j 182) rfl) (sW_kp (by omega)) rfl rfl rfl dX6_passHours_83 (fun M83 hp83 => ?_)
                    obtain rfl := hp83
                    refine bkV.eq (sS_kp (s' := cke (ckes (jgoA (jhrs s n i) n) j) j) (by omega) (fun m _ hm => cke_o (fun e => hm (by rw [e]; exact jow_k (by omega) (by omega))) (fun e => hm (by rw [e]; exact jow_k (by omega) (by omega))) (fun e => hm (by rw [e]; exact jow_k (by omega) (by omega))))) ?_
                    refine r_iinc (pc := 86) X rfl rfl rfl dX6_passHours_86 ?_
                    refine r_goto (pc := 89) X 63 (by decide) dX6_passHours_89 ?_
                    exact bkV.drop 7 (ihc (j + 1) _ (by omega) (by omega) (nI_1 j))
              exact lp63 (4 + 1) 0 _ (by omega) (by omega) rfl
            · skip
              have hj2 : j < (jall (jwn (jhrs s n i)) n).length := by rw [jall_len]; exact q18
              have hj3 : (jall (jwn (jhrs s n i)) n)[j] < n := jall_mem.mp (List.getElem_mem hj2)
              have hwj := jgf_wf ((jall (jwn (jhrs s n i)) n).take j) (jhrs s n i) (fun k hk => jall8 hwi k (List.mem_of_mem_take hk)) hwi
              have hfj := jgf_lf (n := n) ((jall (jwn (jhrs s n i)) n).take j) (jhrs s n i) hfi
              refine r_aload_n (pc := 21) X rfl dX6_passHours_21 ?_
              refine r_aload_n (pc := 22) X rfl dX6_passHours_22 ?_
              refine gt_X6_29 (pc := 23) X sW_o rfl dX6_passHours_23 ?_
              refine r_aload_n (pc := 26) X rfl dX6_passHours_26 ?_
              refine gt_X6_33 (pc := 27) X sW_o rfl dX6_passHours_27 ?_
              refine r_iload (pc := 30) X rfl dX6_passHours_30 ?_
              refine r_iald (pc := 32) X sW_g (j) rfl (by omega) (by decide) dX6_passHours_32 ?_
              refine bk_top (hgi j hj2) ?_
              refine r_aald (pc := 33) X sW_s rfl rfl ((jall (jwn (jhrs s n i)) n)[j]) rfl (by omega) (by decide) rfl dX6_passHours_33 ?_
              refine ca_X6_123 (pc := 34) X (c_X6_goesToWreck hB hs hfj hwj ((jall (jwn (jhrs s n i)) n)[j]) (by omega)) sW_o rfl rfl rfl dX6_passHours_34 (fun r34 M34 hp34 => ?_)
              obtain ⟨rfl, rfl⟩ := hp34
              refine r_if_eq (pc := 37) X 43 (by decide) dX6_passHours_37 (fun q37 => ?_) (fun q37 => ?_)
              · skip
                refine r_iinc (pc := 43) X rfl rfl rfl dX6_passHours_43 ?_
                refine r_goto (pc := 46) X 12 (by decide) dX6_passHours_46 ?_
                rw [← jgf_snoc _ _ _ _ hj2]
                refine ihb (j + 1) _ _ (by omega) (by omega) ?_ (nI_1 j) (by rw [jgf_snoc _ _ _ _ hj2]; exact jgx_mon eb3 hwj (by omega))
                rw [jgf_snoc _ _ _ _ hj2, jgx_wc eb3 hwj hj3]
                first | (rw [if_pos (bi_n0.mp q37)]; exact nI_1 _) | (rw [if_neg (by rw [bi_0.mp q37]; decide), Nat.add_zero])
              · skip
                refine r_iinc (pc := 40) X rfl rfl rfl dX6_passHours_40 ?_
                refine r_iinc (pc := 43) X rfl rfl rfl dX6_passHours_43 ?_
                refine r_goto (pc := 46) X 12 (by decide) dX6_passHours_46 ?_
                rw [← jgf_snoc _ _ _ _ hj2]
                refine ihb (j + 1) _ _ (by omega) (by omega) ?_ (nI_1 j) (by rw [jgf_snoc _ _ _ _ hj2]; exact jgx_mon eb3 hwj (by omega))
                rw [jgf_snoc _ _ _ _ hj2, jgx_wc eb3 hwj hj3]
                first | (rw [if_pos (bi_n0.mp q37)]; exact nI_1 _) | (rw [if_neg (by rw [bi_0.mp q37]; decide), Nat.add_zero])
        exact lp12 (n + 1) 0 _ _ (by omega) (by omega) rfl rfl ea3
  exact lp4 (h + 1) 0 _ _ (by omega) (by omega) (by show (0 : Int32) = nI (jct _ n); rw [jct_cong (q := fun _ => false) (fun k _ => by show (jst s 2 k && !jst s 2 k) = false; cases jst s 2 k <;> rfl), jct_none]; rfl) rfl (fun k _ hk => hk)

