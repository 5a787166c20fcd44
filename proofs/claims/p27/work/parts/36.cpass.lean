theorem jct_none : ∀ n, jct (fun _ => false) n = 0
  | 0 => rfl
  | n + 1 => by show jct _ n + 0 = 0; rw [jct_none n]
set_option maxHeartbeats 4000000 in
set_option maxRecDepth 100000 in
theorem c_X6_passHours {G : bkG} {Z : Nat → Prop} {M : bkM} {B b : Nat} {s go : Nat → Int32} (hB : bB G B M) (hs : B + 12 ≤ b) (hf : jlf s) {n : Nat} (hw : jwf s n) (hgo : cgo s n go) (h : Nat) (hh : h ≤ 40) : bkCi G Z Z yX6_passHours cX6_passHours 8 (some .int) 4 0 0 [.ref b, .int (nI h)] (sW G B b s go M) (fun v M' => v = nI (jwc s (jhrs s n h) n) ∧ ∃ g', M' = (sW G B b (jhrs s n h) g' M) ∧ cgo (jhrs s n h) n g') := by
  refine bk_meti [some (.ref b), some (.int (nI h)), none, none, none, none, none, none] rfl pf_X6_passHours rfl rfl (fun E X K => ?_)
  refine r_iconst (pc := 0) (v := 0) X rfl dX6_passHours_0 ?_
  refine r_istore_n (pc := 1) X rfl rfl dX6_passHours_1 ?_
  refine r_iconst (pc := 2) (v := 0) X rfl dX6_passHours_2 ?_
  refine r_istore_n (pc := 3) X rfl rfl dX6_passHours_3 ?_
  have lp4 : ∀ (da i : Nat) (x : Int32) (y : Int32) (g : Nat → Int32), i ≤ h → h < i + da → (x = nI (jwc s (jhrs s n i) n)) → (y = nI i) → (jmon s (jhrs s n i)) → (cgo (jhrs s n i) n g) → bkV E G Z 0 0 (sW G B b (jhrs s n i) g M) 4 [some (.ref b), some (.int (nI h)), some (.int x), some (.int y), none, none, none, none] [] := by
    intro da
    induction da with
    | zero => intro i x y g; intros; exfalso; omega
    | succ da iha =>
      intro i x y g hja hda ea1 ea2 ea3 ea4
      subst ea1
      subst ea2
      refine r_iload_n (pc := 4) X rfl dX6_passHours_4 ?_
      refine r_iload_n (pc := 5) X rfl dX6_passHours_5 ?_
      refine r_icmpN_ge (pc := 6) X 177 (i) (h) rfl rfl (by omega) (by omega) (by decide) dX6_passHours_6 (fun q6 => ?_) (fun q6 => ?_)
      · skip
        refine r_iload_n (pc := 177) X rfl dX6_passHours_177 ?_
        exact K dX6_passHours_178 ⟨by rw [show i = h by omega], g, by rw [show i = h by omega], by rw [← show i = h by omega]; exact ea4⟩
      · skip
        have hwi := hw.hrs i
        have hfi := jhrs_lf (n := n) hf i
        have hn8 := hw.1
        refine r_aload_n (pc := 9) X rfl dX6_passHours_9 ?_
        refine gt_X6_29 (pc := 10) X sW_o rfl dX6_passHours_10 ?_
        refine r_astore (pc := 13) X rfl rfl dX6_passHours_13 ?_
        refine r_aload (pc := 15) X rfl dX6_passHours_15 ?_
        refine r_alen (pc := 17) (t := 0) X sW_s 5 rfl dX6_passHours_17 ?_
        refine r_istore (pc := 18) X rfl rfl dX6_passHours_18 ?_
        refine r_iconst (pc := 20) (v := 0) X rfl dX6_passHours_20 ?_
        refine r_istore (pc := 21) X rfl rfl dX6_passHours_21 ?_
        have lp23 : ∀ (db j : Nat) (y : Int32) (g : Nat → Int32), j ≤ 8 → 8 < j + db → (y = nI j) → (∀ k, k < j → g k = 0) → (cgo (jhrs s n i) n g) → bkV E G Z 0 0 (sW G B b (jhrs s n i) g M) 23 [some (.ref b), some (.int (nI h)), some (.int (nI (jwc s (jhrs s n i) n))), some (.int (nI i)), some (.ref (b + 4)), some (.int (nI 8)), some (.int y), none] [] := by
          intro db
          induction db with
          | zero => intro j y g; intros; exfalso; omega
          | succ db ihb =>
            intro j y g hjb hdb eb1 eb2 eb3
            subst eb1
            refine r_iload (pc := 23) X rfl dX6_passHours_23 ?_
            refine r_iload (pc := 25) X rfl dX6_passHours_25 ?_
            refine r_icmpN_ge (pc := 27) X 49 (j) (8) rfl rfl (by omega) (by omega) (by decide) dX6_passHours_27 (fun q27 => ?_) (fun q27 => ?_)
            · skip
              obtain rfl : j = 8 := by omega
              refine r_iconst (pc := 49) (v := 0) X rfl dX6_passHours_49 ?_
              refine r_istore (pc := 50) X rfl rfl dX6_passHours_50 ?_
              have lp52 : ∀ (de t : Nat) (x : Int32) (y : Int32) (g : Nat → Int32), t ≤ 8 → 8 < t + de → (x = nI (jwc s (jgf (jhrs s n i) n ((jord (jhrs s n i) n).take t)) n)) → (y = nI t) → (jmon s (jgf (jhrs s n i) n ((jord (jhrs s n i) n).take t))) → (∀ k, k < 8 → g k = if k ∈ (jord (jhrs s n i) n).take t then 1 else 0) → (cgo (jgf (jhrs s n i) n ((jord (jhrs s n i) n).take t)) n g) → bkV E G Z 0 0 (sW G B b (jgf (jhrs s n i) n ((jord (jhrs s n i) n).take t)) g M) 52 [some (.ref b), some (.int (nI h)), some (.int x), some (.int (nI i)), some (.int y), some (.int (nI 8)), some (.int (nI 8)), none] [] := by
                intro de
                induction de with
                | zero => intro t x y g; intros; exfalso; omega
                | succ de ihe =>
                  intro t x y g hje hde ee1 ee2 ee3 ee4 ee5
                  subst ee1
                  subst ee2
                  refine r_iload (pc := 52) X rfl dX6_passHours_52 ?_
                  refine r_bipush (pc := 54) (v := 8) X rfl dX6_passHours_54 ?_
                  refine r_icmpN_ge (pc := 56) X 79 (t) (8) rfl rfl (by omega) (by omega) (by decide) dX6_passHours_56 (fun q56 => ?_) (fun q56 => ?_)
                  · skip
                    obtain rfl : t = 8 := by omega
                    have eT : jgf (jhrs s n i) n ((jord (jhrs s n i) n).take 8) = (jgoA (jhrs s n i) n) := by rw [List.take_of_length_le (jord_len8 hn8), jgf_O]
                    rw [eT]
                    rw [eT] at ee3 ee5
                    refine r_aload_n (pc := 79) X rfl dX6_passHours_79 ?_
                    refine gt_X6_23 (pc := 80) X sW_o rfl dX6_passHours_80 ?_
                    refine r_astore (pc := 83) X rfl rfl dX6_passHours_83 ?_
                    refine r_aload (pc := 85) X rfl dX6_passHours_85 ?_
                    refine r_alen (pc := 87) (t := 0) X sW_k 4 rfl dX6_passHours_87 ?_
                    refine r_istore (pc := 88) X rfl rfl dX6_passHours_88 ?_
                    refine r_iconst (pc := 90) (v := 0) X rfl dX6_passHours_90 ?_
                    refine r_istore (pc := 91) X rfl rfl dX6_passHours_91 ?_
                    have lp93 : ∀ (dc j : Nat) (y : Int32), j ≤ 4 → 4 < j + dc → (y = nI j) → bkV E G Z 0 0 (sW G B b (ckes (jgoA (jhrs s n i) n) j) g M) 93 [some (.ref b), some (.int (nI h)), some (.int (nI (jwc s (jgoA (jhrs s n i) n) n))), some (.int (nI i)), some (.ref (b + 3)), some (.int (nI 4)), some (.int y), none] [] := by
                      intro dc
                      induction dc with
                      | zero => intro j y; intros; exfalso; omega
                      | succ dc ihc =>
                        intro j y hjc hdc ec1
                        subst ec1
                        refine r_iload (pc := 93) X rfl dX6_passHours_93 ?_
                        refine r_iload (pc := 95) X rfl dX6_passHours_95 ?_
                        refine r_icmpN_ge (pc := 97) X 122 (j) (4) rfl rfl (by omega) (by omega) (by decide) dX6_passHours_97 (fun q97 => ?_) (fun q97 => ?_)
                        · skip
                          obtain rfl : j = 4 := by omega
                          refine r_aload_n (pc := 122) X rfl dX6_passHours_122 ?_
                          refine gt_X6_17 (pc := 123) X sW_o rfl dX6_passHours_123 ?_
                          refine r_astore (pc := 126) X rfl rfl dX6_passHours_126 ?_
                          refine r_aload (pc := 128) X rfl dX6_passHours_128 ?_
                          refine r_alen (pc := 130) (t := 0) X sW_l 3 rfl dX6_passHours_130 ?_
                          refine r_istore (pc := 131) X rfl rfl dX6_passHours_131 ?_
                          refine r_iconst (pc := 133) (v := 0) X rfl dX6_passHours_133 ?_
                          refine r_istore (pc := 134) X rfl rfl dX6_passHours_134 ?_
                          have lp136 : ∀ (dd j : Nat) (y : Int32), j ≤ 4 → 4 < j + dd → (y = nI j) → bkV E G Z 0 0 (sW G B b (cfgs (ckes (jgoA (jhrs s n i) n) 4) j) g M) 136 [some (.ref b), some (.int (nI h)), some (.int (nI (jwc s (jgoA (jhrs s n i) n) n))), some (.int (nI i)), some (.ref (b + 2)), some (.int (nI 4)), some (.int y), none] [] := by
                            intro dd
                            induction dd with
                            | zero => intro j y; intros; exfalso; omega
                            | succ dd ihd =>
                              intro j y hjd hdd ed1
                              subst ed1
                              refine r_iload (pc := 136) X rfl dX6_passHours_136 ?_
                              refine r_iload (pc := 138) X rfl dX6_passHours_138 ?_
                              refine r_icmpN_ge (pc := 140) X 161 (j) (4) rfl rfl (by omega) (by omega) (by decide) dX6_passHours_140 (fun q140 => ?_) (fun q140 => ?_)
                              · skip
                                obtain rfl : j = 4 := by omega
                                refine r_aload_n (pc := 161) X rfl dX6_passHours_161 ?_
                                refine r_dup (pc := 162) X rfl dX6_passHours_162 ?_
                                refine gt_X6_40 (pc := 163) X sW_o rfl dX6_passHours_163 ?_
                                refine r_iconst (pc := 166) (v := 1) X rfl dX6_passHours_166 ?_
                                refine r_iadd (pc := 167) X dX6_passHours_167 ?_
                                refine pt_X6_40 (pc := 168) X sW_o  rfl dX6_passHours_168 ?_
                                refine bkV.eq ((congrArg (fun z => bku _ _ (.inr (6, z))) sO_7).trans (sS_o (fun m _ hm => upd_n (fun e => hm (by rw [e]; exact jow_o (by omega)))))) ?_
                                rw [jhour_ef]
                                refine r_iinc (pc := 171) X rfl rfl rfl dX6_passHours_171 ?_
                                refine r_goto (pc := 174) X 4 (by decide) dX6_passHours_174 ?_
                                refine bkV.drop 4 (bkV.drop 5 (bkV.drop 6 (iha (i + 1) _ _ _ (by omega) (by omega) ?_ (nI_1 i) ?_ (ee5.hour hn8))))
                                · exact congrArg nI (jwc_congr hn8 (fun k hk => jhour_st k hk)).symm
                                · intro k hk8 hk
                                  show jst (jhour (jhrs s n i) n) 2 k = true
                                  rw [jhour_st k hk8]
                                  exact ee3 k hk8 hk
                              · skip
                                refine r_aload (pc := 143) X rfl dX6_passHours_143 ?_
                                refine r_iload (pc := 145) X rfl dX6_passHours_145 ?_
                                refine r_aald (pc := 147) X sW_l rfl rfl (j) rfl (by omega) (by decide) rfl dX6_passHours_147 ?_
                                refine r_astore (pc := 148) X rfl rfl dX6_passHours_148 ?_
                                refine r_aload (pc := 150) X rfl dX6_passHours_150 ?_
                                refine ca_X6_139 (pc := 152) X (c_X3_thinFog (sW_lt (by omega))) (sW_lt (by omega)) rfl rfl rfl dX6_passHours_152 (fun M152 hp152 => ?_)
                                obtain rfl := hp152
                                refine bkV.eq (sS_lt (s' := cfg (cfgs (ckes (jgoA (jhrs s n i) n) 4) j) j) (by omega) (fun m _ hm => cfg_o (fun e => hm (by rw [e]; exact jow_l (by omega) (by omega))))) ?_
                                refine r_iinc (pc := 155) X rfl rfl rfl dX6_passHours_155 ?_
                                refine r_goto (pc := 158) X 136 (by decide) dX6_passHours_158 ?_
                                exact bkV.drop 7 (ihd (j + 1) _ (by omega) (by omega) (nI_1 j))
                          exact lp136 (4 + 1) 0 _ (by omega) (by omega) rfl
                        · skip
                          refine r_aload (pc := 100) X rfl dX6_passHours_100 ?_
                          refine r_iload (pc := 102) X rfl dX6_passHours_102 ?_
                          refine r_aald (pc := 104) X sW_k rfl rfl (j) rfl (by omega) (by decide) rfl dX6_passHours_104 ?_
                          refine r_astore (pc := 105) X rfl rfl dX6_passHours_105 ?_
                          refine r_aload (pc := 107) X rfl dX6_passHours_107 ?_
                          refine r_aload_n (pc := 109) X rfl dX6_passHours_109 ?_
                          refine gt_X6_37 (pc := 110) X sW_o rfl dX6_passHours_110 ?_
                          refine ca_X6_135 (pc := 113) X (c_X2_earn (sW_kp (by omega)) (ckes (jgoA (jhrs s n i) n) j 182) rfl) (sW_kp (by omega)) rfl rfl rfl dX6_passHours_113 (fun M113 hp113 => ?_)
                          obtain rfl := hp113
                          refine bkV.eq (sS_kp (s' := cke (ckes (jgoA (jhrs s n i) n) j) j) (by omega) (fun m _ hm => cke_o (fun e => hm (by rw [e]; exact jow_k (by omega) (by omega))) (fun e => hm (by rw [e]; exact jow_k (by omega) (by omega))) (fun e => hm (by rw [e]; exact jow_k (by omega) (by omega))))) ?_
                          refine r_iinc (pc := 116) X rfl rfl rfl dX6_passHours_116 ?_
                          refine r_goto (pc := 119) X 93 (by decide) dX6_passHours_119 ?_
                          exact bkV.drop 7 (ihc (j + 1) _ (by omega) (by omega) (nI_1 j))
                    exact lp93 (4 + 1) 0 _ (by omega) (by omega) rfl
                  · skip
                    have hL8 : ∀ k ∈ (jord (jhrs s n i) n).take t, k < 8 := fun k hk => by have := (jord_mem.mp (List.mem_of_mem_take hk)).1; omega
                    have hwt := jgf_wf (n := n) ((jord (jhrs s n i) n).take t) (jhrs s n i) hL8 hwi
                    have hft := jgf_lf (n := n) ((jord (jhrs s n i) n).take t) (jhrs s n i) hfi
                    refine r_aload_n (pc := 59) X rfl dX6_passHours_59 ?_
                    refine r_aload_n (pc := 60) X rfl dX6_passHours_60 ?_
                    refine ca_X6_127 (pc := 61) X (c_X6_nextToGo hwt) sW_o rfl rfl rfl dX6_passHours_61 (fun r61 M61 hp61 => ?_)
                    obtain ⟨o, rfl, hpk, rfl⟩ := hp61
                    obtain rfl := jpk_next hn8 ee5 ee4 hpk
                    have hok : ∀ k, (jord (jhrs s n i) n)[t]? = some k → k < n ∧ (jgf (jhrs s n i) n ((jord (jhrs s n i) n).take t)) (140 + 5 * k + 3) = 0 := by
                      intro k hk
                      rw [hk] at hpk
                      have h1 := hpk.2.1
                      have h2 : g (8 + k) = 0 := by simpa using (Bool.and_eq_true_iff.mp h1).1
                      exact (ee5.eq hpk.1 (by decide)).mp h2
                    refine ca_X6_131 (pc := 64) X (c_X6_goesToWreck hB hs hft hwt ee5 (jord (jhrs s n i) n)[t]? hok) sW_o rfl rfl rfl dX6_passHours_64 (fun r64 M64 hp64 => ?_)
                    obtain ⟨rfl, g2, rfl, hg2, hg3⟩ := hp64
                    rw [jgv_take] at hg3 ⊢
                    refine r_if_eq (pc := 67) X 73 (by decide) dX6_passHours_67 (fun q67 => ?_) (fun q67 => ?_)
                    · skip
                      refine r_iinc (pc := 73) X rfl rfl rfl dX6_passHours_73 ?_
                      refine r_goto (pc := 76) X 52 (by decide) dX6_passHours_76 ?_
                      refine ihe (t + 1) _ _ _ (by omega) (by omega) ?_ (nI_1 t) ?_ (fun k hk => (hg2 k hk).trans (jgu_take ee4 k hk)) hg3
                      · rw [← jgv_take, jwv_wc ee3 hwt (fun k hk => (hok k hk).1)]
                        first | (rw [if_pos (bi_n0.mp q67)]; exact nI_1 _) | (rw [if_neg (by rw [bi_0.mp q67]; decide), Nat.add_zero])
                      · rw [← jgv_take]
                        exact jgv_mon ee3 hwt (fun k hk => (hok k hk).1)
                    · skip
                      refine r_iinc (pc := 70) X rfl rfl rfl dX6_passHours_70 ?_
                      refine r_iinc (pc := 73) X rfl rfl rfl dX6_passHours_73 ?_
                      refine r_goto (pc := 76) X 52 (by decide) dX6_passHours_76 ?_
                      refine ihe (t + 1) _ _ _ (by omega) (by omega) ?_ (nI_1 t) ?_ (fun k hk => (hg2 k hk).trans (jgu_take ee4 k hk)) hg3
                      · rw [← jgv_take, jwv_wc ee3 hwt (fun k hk => (hok k hk).1)]
                        first | (rw [if_pos (bi_n0.mp q67)]; exact nI_1 _) | (rw [if_neg (by rw [bi_0.mp q67]; decide), Nat.add_zero])
                      · rw [← jgv_take]
                        exact jgv_mon ee3 hwt (fun k hk => (hok k hk).1)
              exact lp52 (8 + 1) 0 _ _ _ (by omega) (by omega) rfl rfl ea3 (fun k hk => by rw [eb2 k hk]; rfl) eb3
            · skip
              refine r_aload (pc := 30) X rfl dX6_passHours_30 ?_
              refine r_iload (pc := 32) X rfl dX6_passHours_32 ?_
              refine r_aald (pc := 34) X sW_s rfl rfl (j) rfl (by omega) (by decide) rfl dX6_passHours_34 ?_
              refine r_astore (pc := 35) X rfl rfl dX6_passHours_35 ?_
              refine r_aload (pc := 37) X rfl dX6_passHours_37 ?_
              refine r_iconst (pc := 39) (v := 0) X rfl dX6_passHours_39 ?_
              refine pt_X6_123 (pc := 40) X (sW_sh (i := j) (by omega)) (Or.inl rfl) rfl dX6_passHours_40 ?_
              refine bkV.eq ((congrArg (fun z => bku _ _ (.inr (5, z))) shF_5).trans (sS_sh (i := j) (by omega) (fun _ _ _ => rfl) (fun k hne _ => ⟨upd_n hne, upd_n (by omega)⟩))) ?_
              refine r_iinc (pc := 43) X rfl rfl rfl dX6_passHours_43 ?_
              refine r_goto (pc := 46) X 23 (by decide) dX6_passHours_46 ?_
              exact bkV.drop 7 (ihb (j + 1) _ _ (by omega) (by omega) (nI_1 j) (fun k hk => by
                by_cases z : k = j
                · rw [z, upd_s]
                · rw [upd_n z]; exact eb2 k (by omega)) (eb3.gone (by omega)))
        exact lp23 (8 + 1) 0 _ _ (by omega) (by omega) rfl (fun k hk => absurd hk (Nat.not_lt_zero k)) ea4
  exact lp4 (h + 1) 0 _ _ _ (by omega) (by omega) (by show (0 : Int32) = nI (jct _ n); rw [jct_cong (q := fun _ => false) (fun k _ => by show (jst s 2 k && !jst s 2 k) = false; cases jst s 2 k <;> rfl), jct_none]; rfl) rfl (fun k _ hk => hk) hgo

