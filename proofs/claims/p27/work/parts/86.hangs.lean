set_option maxHeartbeats 4000000 in
set_option maxRecDepth 100000 in
theorem hg_4 {E : bkEnv} {G : bkG} {Z : Nat → Prop} {M : bkM} {x a : Nat} {S O : Nat → Nat → Int32} {od : Nat → Nat} {np : Nat} {kp : Int32} {t : Nat → Int32} {ln pc pl : Int32} {pf : Nat → Nat → Int32} {n h : Nat} {s1 g1 f : Nat → Int32} (X : bkX E G RL cL_hangs 20 (some .boolean) (bkR 7 1 4)) (hk : cOK (S 0) n (O 0)) (hI : jI (S 0) n h) (hh : h ≤ 50000) (ha : x + 185 ≤ a) (hnp : np ≤ 4) (KK : ∀ s1 g1 : Nat → Int32, bkV E G Z 1 4 (xW G x (pfu S 1 s1) (pfu O 1 g1) od (nI np) kp t ln pc pl pf (bku M a (aI G 4 f))) 1145 [some (.ref x), some (.int (jsm (S 0) 100)), some (.int (nI (jct (fun c => decide (S 0 c = 1) && decide (¬ nI (jlz (S 0) c) ≤ 0)) 100))), some (.int (nI (jct (fun c => decide (¬ nI (jlz (S 0) c) ≤ 0)) 100))), some (.int (nI (jct (fun c => decide (¬ jsin (S 0) n (nI c) = -5)) 100))), some (.ref a), some (.int 1), some (.int (jsm (fun l => S 0 (120 + 5 * l + 1)) 4)), some (.int (jsm (fun l => S 0 (120 + 5 * l + 4)) 4)), some (.int (jsm (fun l => S 0 (120 + 5 * l + 3)) 4)), some (.int (nI n)), some (.int (nI (jct (jst (S 0) 2) n))), some (.int (nI (jnw (S 0) n))), some (.int (jworth (S 0) (jst (S 0) 1) n)), some (.int (nI (jct (jst (S 0) 0) n))), some (.int (nI (jrs (S 0) n n))), some (.int (jifp (S 0) n 12)), none, none, none] [.int 1]) : bkV E G Z 1 4 (xW G x (pfu S 1 s1) (pfu O 1 g1) od (nI np) kp t ln pc pl pf (bku M a (aI G 4 f))) 933 [some (.ref x), some (.int (jsm (S 0) 100)), some (.int (nI (jct (fun c => decide (S 0 c = 1) && decide (¬ nI (jlz (S 0) c) ≤ 0)) 100))), some (.int (nI (jct (fun c => decide (¬ nI (jlz (S 0) c) ≤ 0)) 100))), some (.int (nI (jct (fun c => decide (¬ jsin (S 0) n (nI c) = -5)) 100))), some (.ref a), some (.int 1), some (.int (jsm (fun l => S 0 (120 + 5 * l + 1)) 4)), some (.int (jsm (fun l => S 0 (120 + 5 * l + 4)) 4)), some (.int (jsm (fun l => S 0 (120 + 5 * l + 3)) 4)), some (.int (nI n)), some (.int (nI (jct (jst (S 0) 2) n))), some (.int (nI (jnw (S 0) n))), some (.int (jworth (S 0) (jst (S 0) 1) n)), some (.int (nI (jct (jst (S 0) 0) n))), some (.int (nI (jrs (S 0) n n))), some (.int (nI n)), none, none, none] [] := by
  have hn8 := hk.1.1
  have ht2 : jset (jwr (S 0) n 12) n < 2 ^ n := jset_lt _ n
  have ht3 : 2 ^ n ≤ 2 ^ 8 := Nat.pow_le_pow_right (by omega) hn8
  obtain ⟨hR, ⟨hH, hwg⟩, hK, hS, hD⟩ := hI
  refine r_aload_n (pc := 933) X rfl dL_hangs_933 ?_
  refine r_bipush (pc := 934) (v := 12) X rfl dL_hangs_934 ?_
  refine ca_L_83 (pc := 936) X (ct_ifPassed hk 12) xW_o rfl rfl rfl dL_hangs_936 (fun r936 M936 hp936 => ?_)
  obtain ⟨rfl, s2, g2, rfl⟩ := hp936
  refine r_istore (pc := 939) X rfl rfl dL_hangs_939 ?_
  refine r_iload (pc := 941) X rfl dL_hangs_941 ?_
  refine r_if_eq (pc := 943) X 1144 (by decide) dL_hangs_943 (fun q943 => ?_) (fun q943 => ?_)
  · skip
    exact absurd q943 (by decide)
  · skip
    refine r_iload_n (pc := 946) X rfl dL_hangs_946 ?_
    refine r_aload_n (pc := 947) X rfl dL_hangs_947 ?_
    refine r_iconst (pc := 948) (v := 1) X rfl dL_hangs_948 ?_
    refine ca_L_80 (pc := 949) X (ct_count hk 1) xW_o rfl rfl rfl dL_hangs_949 (fun r949 M949 hp949 => ?_)
    obtain ⟨rfl, rfl⟩ := hp949
    refine bk_top (cn_1) ?_
    refine r_icmp_ne (pc := 952) X 1144 (by decide) dL_hangs_952 (fun q952 => ?_) (fun q952 => ?_)
    · skip
      exact absurd rfl q952
    · skip
      refine r_iload_n (pc := 955) X rfl dL_hangs_955 ?_
      refine r_aload_n (pc := 956) X rfl dL_hangs_956 ?_
      refine r_bipush (pc := 957) (v := 6) X rfl dL_hangs_957 ?_
      refine ca_L_80 (pc := 959) X (ct_count hk 6) xW_o rfl rfl rfl dL_hangs_959 (fun r959 M959 hp959 => ?_)
      obtain ⟨rfl, rfl⟩ := hp959
      refine bk_top (cn_6) ?_
      refine r_icmp_ne (pc := 962) X 1144 (by decide) dL_hangs_962 (fun q962 => ?_) (fun q962 => ?_)
      · skip
        exact absurd (congrArg nI hf_lit.2) q962
      · skip
        refine r_iload_n (pc := 965) X rfl dL_hangs_965 ?_
        refine r_aload_n (pc := 966) X rfl dL_hangs_966 ?_
        refine r_bipush (pc := 967) (v := 7) X rfl dL_hangs_967 ?_
        refine ca_L_80 (pc := 969) X (ct_count hk 7) xW_o rfl rfl rfl dL_hangs_969 (fun r969 M969 hp969 => ?_)
        obtain ⟨rfl, rfl⟩ := hp969
        refine bk_top (cn_7) ?_
        refine r_icmp_ne (pc := 972) X 1144 (by decide) dL_hangs_972 (fun q972 => ?_) (fun q972 => ?_)
        · skip
          exact absurd (congrArg nI hf_lit.1) q972
        · skip
          refine r_iload (pc := 975) X rfl dL_hangs_975 ?_
          refine r_iload (pc := 977) X rfl dL_hangs_977 ?_
          refine r_icmp_ne (pc := 979) X 1144 (by decide) dL_hangs_979 (fun q979 => ?_) (fun q979 => ?_)
          · skip
            exact absurd (congrArg nI (hf_ships hk.1 hD)) q979
          · skip
            refine r_iload (pc := 982) X rfl dL_hangs_982 ?_
            refine r_aload_n (pc := 984) X rfl dL_hangs_984 ?_
            refine r_iconst (pc := 985) (v := 3) X rfl dL_hangs_985 ?_
            refine ca_L_80 (pc := 986) X (ct_count hk 3) xW_o rfl rfl rfl dL_hangs_986 (fun r986 M986 hp986 => ?_)
            obtain ⟨rfl, rfl⟩ := hp986
            refine bk_top (cn_3 hn8) ?_
            refine r_icmp_ne (pc := 989) X 1144 (by decide) dL_hangs_989 (fun q989 => ?_) (fun q989 => ?_)
            · skip
              exact absurd rfl q989
            · skip
              refine r_iload (pc := 992) X rfl dL_hangs_992 ?_
              refine r_iconst (pc := 994) (v := 1) X rfl dL_hangs_994 ?_
              refine r_iload (pc := 995) X rfl dL_hangs_995 ?_
              refine r_ishl (pc := 997) X dL_hangs_997 ?_
              refine r_iconst (pc := 998) (v := 1) X rfl dL_hangs_998 ?_
              refine r_isub (pc := 999) X dL_hangs_999 ?_
              refine r_icmp_ne (pc := 1000) X 1144 (by decide) dL_hangs_1000 (fun q1000 => ?_) (fun q1000 => ?_)
              · skip
                exact absurd ((congrArg nI (jrs_end hk.1)).trans (jb_sh8 _ (Nat.le_trans (jct_le _ n) hn8)).2.symm) q1000
              · skip
                refine r_iload (pc := 1003) X rfl dL_hangs_1003 ?_
                refine r_aload_n (pc := 1005) X rfl dL_hangs_1005 ?_
                refine r_bipush (pc := 1006) (v := 10) X rfl dL_hangs_1006 ?_
                refine ca_L_80 (pc := 1008) X (ct_count hk 10) xW_o rfl rfl rfl dL_hangs_1008 (fun r1008 M1008 hp1008 => ?_)
                obtain ⟨rfl, rfl⟩ := hp1008
                refine bk_top (cn_10) ?_
                refine r_icmp_ne (pc := 1011) X 1144 (by decide) dL_hangs_1011 (fun q1011 => ?_) (fun q1011 => ?_)
                · skip
                  exact absurd rfl q1011
                · skip
                  refine r_iload (pc := 1014) X rfl dL_hangs_1014 ?_
                  refine r_aload_n (pc := 1016) X rfl dL_hangs_1016 ?_
                  refine r_iconst (pc := 1017) (v := 5) X rfl dL_hangs_1017 ?_
                  refine ca_L_80 (pc := 1018) X (ct_count hk 5) xW_o rfl rfl rfl dL_hangs_1018 (fun r1018 M1018 hp1018 => ?_)
                  obtain ⟨rfl, rfl⟩ := hp1018
                  refine bk_top (cn_5 hn8) ?_
                  refine r_icmp_ne (pc := 1021) X 1144 (by decide) dL_hangs_1021 (fun q1021 => ?_) (fun q1021 => ?_)
                  · skip
                    exact absurd rfl q1021
                  · skip
                    refine r_iload (pc := 1024) X rfl dL_hangs_1024 ?_
                    refine r_iload (pc := 1026) X rfl dL_hangs_1026 ?_
                    refine r_icmp_ne (pc := 1028) X 1144 (by decide) dL_hangs_1028 (fun q1028 => ?_) (fun q1028 => ?_)
                    · skip
                      exact absurd (hf_wrecks hK).symm q1028
                    · skip
                      refine r_aload_n (pc := 1031) X rfl dL_hangs_1031 ?_
                      refine r_iconst (pc := 1032) (v := 3) X rfl dL_hangs_1032 ?_
                      refine ca_L_80 (pc := 1033) X (ct_count hk 3) xW_o rfl rfl rfl dL_hangs_1033 (fun r1033 M1033 hp1033 => ?_)
                      obtain ⟨rfl, rfl⟩ := hp1033
                      refine bk_top (cn_3 hn8) ?_
                      refine r_aload_n (pc := 1036) X rfl dL_hangs_1036 ?_
                      refine r_iconst (pc := 1037) (v := 4) X rfl dL_hangs_1037 ?_
                      refine ca_L_80 (pc := 1038) X (ct_count hk 4) xW_o rfl rfl rfl dL_hangs_1038 (fun r1038 M1038 hp1038 => ?_)
                      obtain ⟨rfl, rfl⟩ := hp1038
                      refine bk_top (cn_4 hn8) ?_
                      refine r_iadd (pc := 1041) X dL_hangs_1041 ?_
                      refine bk_top (nI_add _ _) ?_
                      refine r_aload_n (pc := 1042) X rfl dL_hangs_1042 ?_
                      refine r_iconst (pc := 1043) (v := 5) X rfl dL_hangs_1043 ?_
                      refine ca_L_80 (pc := 1044) X (ct_count hk 5) xW_o rfl rfl rfl dL_hangs_1044 (fun r1044 M1044 hp1044 => ?_)
                      obtain ⟨rfl, rfl⟩ := hp1044
                      refine bk_top (cn_5 hn8) ?_
                      refine r_iadd (pc := 1047) X dL_hangs_1047 ?_
                      refine bk_top (nI_add _ _) ?_
                      refine r_iload (pc := 1048) X rfl dL_hangs_1048 ?_
                      refine r_icmp_ne (pc := 1050) X 1144 (by decide) dL_hangs_1050 (fun q1050 => ?_) (fun q1050 => ?_)
                      · skip
                        exact absurd (congrArg nI (hf_all n (fun k hk9 => by obtain ⟨-, -, hst⟩ := hS k hk9; rcases hst with ⟨e0, -⟩ | ⟨e0, -⟩ | e0; exact Or.inl e0; exact Or.inr (Or.inl e0); exact Or.inr (Or.inr e0)))) q1050
                      · skip
                        refine r_iload (pc := 1053) X rfl dL_hangs_1053 ?_
                        refine r_aload_n (pc := 1055) X rfl dL_hangs_1055 ?_
                        refine r_bipush (pc := 1056) (v := 8) X rfl dL_hangs_1056 ?_
                        refine ca_L_80 (pc := 1058) X (ct_count hk 8) xW_o rfl rfl rfl dL_hangs_1058 (fun r1058 M1058 hp1058 => ?_)
                        obtain ⟨rfl, rfl⟩ := hp1058
                        refine bk_top (cn_8) ?_
                        refine r_icmp_ne (pc := 1061) X 1144 (by decide) dL_hangs_1061 (fun q1061 => ?_) (fun q1061 => ?_)
                        · skip
                          exact absurd rfl q1061
                        · skip
                          refine r_iload (pc := 1064) X rfl dL_hangs_1064 ?_
                          refine r_aload_n (pc := 1066) X rfl dL_hangs_1066 ?_
                          refine r_bipush (pc := 1067) (v := 9) X rfl dL_hangs_1067 ?_
                          refine ca_L_80 (pc := 1069) X (ct_count hk 9) xW_o rfl rfl rfl dL_hangs_1069 (fun r1069 M1069 hp1069 => ?_)
                          obtain ⟨rfl, rfl⟩ := hp1069
                          refine bk_top (cn_9) ?_
                          refine r_icmp_ne (pc := 1072) X 1144 (by decide) dL_hangs_1072 (fun q1072 => ?_) (fun q1072 => ?_)
                          · skip
                            exact absurd rfl q1072
                          · skip
                            refine r_iload (pc := 1075) X rfl dL_hangs_1075 ?_
                            refine r_iload (pc := 1077) X rfl dL_hangs_1077 ?_
                            refine r_iadd (pc := 1079) X dL_hangs_1079 ?_
                            refine r_iload (pc := 1080) X rfl dL_hangs_1080 ?_
                            refine r_icmp_ne (pc := 1082) X 1144 (by decide) dL_hangs_1082 (fun q1082 => ?_) (fun q1082 => ?_)
                            · skip
                              exact absurd (hf_owed hK) q1082
                            · skip
                              refine r_iload (pc := 1085) X rfl dL_hangs_1085 ?_
                              refine r_if_lt (pc := 1087) X 1144 (by decide) dL_hangs_1087 (fun q1087 => ?_) (fun q1087 => ?_)
                              · skip
                                exact absurd (show nI (jset (jwr (S 0) n 12) n) < 0 by rw [← hw_12.1]; exact q1087) (nI_pos (by omega))
                              · skip
                                refine r_iload (pc := 1090) X rfl dL_hangs_1090 ?_
                                refine r_iconst (pc := 1092) (v := 1) X rfl dL_hangs_1092 ?_
                                refine r_iload (pc := 1093) X rfl dL_hangs_1093 ?_
                                refine r_ishl (pc := 1095) X dL_hangs_1095 ?_
                                refine r_icmp_ge (pc := 1096) X 1144 (by decide) dL_hangs_1096 (fun q1096 => ?_) (fun q1096 => ?_)
                                · skip
                                  exact absurd (show (1 : Int32) <<< (nI n &&& 31) ≤ nI (jset (jwr (S 0) n 12) n) by rw [← hw_12.1]; exact q1096) (by rw [(jb_sh8 n hn8).1]; intro z; have := (nI_leI (by omega) (by omega)).mp z; omega)
                                · skip
                                  refine r_aload_n (pc := 1099) X rfl dL_hangs_1099 ?_
                                  refine r_iconst (pc := 1100) (v := 3) X rfl dL_hangs_1100 ?_
                                  refine ca_L_83 (pc := 1101) X (ct_ifPassed hk 3) xW_o rfl rfl rfl dL_hangs_1101 (fun r1101 M1101 hp1101 => ?_)
                                  obtain ⟨rfl, s3, g3, rfl⟩ := hp1101
                                  refine r_iload (pc := 1104) X rfl dL_hangs_1104 ?_
                                  refine r_iconst (pc := 1106) (v := (-1)) X rfl dL_hangs_1106 ?_
                                  refine r_ixor (pc := 1107) X dL_hangs_1107 ?_
                                  refine r_iand (pc := 1108) X dL_hangs_1108 ?_
                                  refine r_if_ne (pc := 1109) X 1144 (by decide) dL_hangs_1109 (fun q1109 => ?_) (fun q1109 => ?_)
                                  · skip
                                    exact absurd (hw_and hn8) q1109
                                  · skip
                                    refine bkV.join 1121 (stT := []) ?_ (fun j1121 => ?_)
                                    · skip
                                      refine r_aload_n (pc := 1121) X rfl dL_hangs_1121 ?_
                                      refine r_bipush (pc := 1122) (v := 11) X rfl dL_hangs_1122 ?_
                                      refine ca_L_80 (pc := 1124) X (ct_count hk 11) xW_o rfl rfl rfl dL_hangs_1124 (fun r1124 M1124 hp1124 => ?_)
                                      obtain ⟨rfl, rfl⟩ := hp1124
                                      refine bk_top (cn_11) ?_
                                      refine r_if_lt (pc := 1127) X 1144 (by decide) dL_hangs_1127 (fun q1127 => ?_) (fun q1127 => ?_)
                                      · skip
                                        exact absurd q1127 (nI_pos (by omega))
                                      · skip
                                        refine r_aload_n (pc := 1130) X rfl dL_hangs_1130 ?_
                                        refine r_bipush (pc := 1131) (v := 11) X rfl dL_hangs_1131 ?_
                                        refine ca_L_80 (pc := 1133) X (ct_count hk 11) xW_o rfl rfl rfl dL_hangs_1133 (fun r1133 M1133 hp1133 => ?_)
                                        obtain ⟨rfl, rfl⟩ := hp1133
                                        refine bk_top (cn_11) ?_
                                        refine r_iconst (pc := 1136) (v := 5) X rfl dL_hangs_1136 ?_
                                        refine r_icmpN_ge (pc := 1137) X 1144 (np) (5) rfl rfl (by omega) (by omega) (by decide) dL_hangs_1137 (fun q1137 => ?_) (fun q1137 => ?_)
                                        · skip
                                          exact absurd q1137 (by omega)
                                        · skip
                                          refine r_iconst (pc := 1140) (v := 1) X rfl dL_hangs_1140 ?_
                                          refine r_goto (pc := 1141) X 1145 (by decide) dL_hangs_1141 ?_
                                          exact KK _ _
                                    refine r_iload_n (pc := 1112) X rfl dL_hangs_1112 ?_
                                    refine r_if_gt (pc := 1113) X 1121 (by decide) dL_hangs_1113 (fun q1113 => ?_) (fun q1113 => ?_)
                                    · skip
                                      exact j1121
                                    · skip
                                      refine r_iload (pc := 1116) X rfl dL_hangs_1116 ?_
                                      refine r_if_ne (pc := 1118) X 1144 (by decide) dL_hangs_1118 (fun q1118 => ?_) (fun q1118 => ?_)
                                      · skip
                                        exact absurd (hw_none hk.1 q1113) q1118
                                      · skip
                                        exact j1121

set_option maxHeartbeats 4000000 in
set_option maxRecDepth 100000 in
theorem c_L_hangs {G : bkG} {M : bkM} {x a : Nat} {S O : Nat → Nat → Int32} {od : Nat → Nat} {np : Nat} {kp : Int32} {t : Nat → Int32} {ln pc pl : Int32} {pf : Nat → Nat → Int32} {n h : Nat} (hk : cOK (S 0) n (O 0)) (hI : jI (S 0) n h) (hh : h ≤ 50000) (ha : x + 185 ≤ a) (hnp : np ≤ 4) : bkCi G (fun z => z = a) (fun z => z = a + 1) yL_hangs cL_hangs 20 (some .boolean) 7 1 4 [.ref x] (xW G x S O od (nI np) kp t ln pc pl pf M) (fun v M' => v = 1 ∧ ∃ s1 g1, M' = (xW G x (pfu S 1 s1) (pfu O 1 g1) od (nI np) kp t ln pc pl pf M)) := by
  refine bk_metz [some (.ref x), none, none, none, none, none, none, none, none, none, none, none, none, none, none, none, none, none, none, none] rfl pf_L_hangs rfl rfl (fun E X K => ?_)
  refine bkV.fresh fun hM0 => ?_
  have hM : M a = none := by rw [← hM0]; exact (xW_out (Or.inr ha)).symm
  refine bkV.eq xT_self ?_
  refine r_iconst (pc := 0) (v := 0) X rfl dL_hangs_0 ?_
  refine r_istore_n (pc := 1) X rfl rfl dL_hangs_1 ?_
  refine r_iconst (pc := 2) (v := 0) X rfl dL_hangs_2 ?_
  refine r_istore_n (pc := 3) X rfl rfl dL_hangs_3 ?_
  refine r_iconst (pc := 4) (v := 0) X rfl dL_hangs_4 ?_
  refine r_istore_n (pc := 5) X rfl rfl dL_hangs_5 ?_
  refine r_iconst (pc := 6) (v := 0) X rfl dL_hangs_6 ?_
  refine r_istore (pc := 7) X rfl rfl dL_hangs_7 ?_
  refine r_iconst (pc := 9) (v := 4) X rfl dL_hangs_9 ?_
  refine r_newI (pc := 10) X (a := a) 4 rfl (by decide) ac_int ⟨Nat.le_of_ble_eq_true rfl, Nat.le_of_ble_eq_true rfl⟩ dL_hangs_10 ?_
  refine bkV.eq (ux_xW (Or.inr ha)) ?_
  refine r_astore (pc := 12) X rfl rfl dL_hangs_12 ?_
  refine r_iconst (pc := 14) (v := 1) X rfl dL_hangs_14 ?_
  refine r_istore (pc := 15) X rfl rfl dL_hangs_15 ?_
  refine r_iconst (pc := 17) (v := 0) X rfl dL_hangs_17 ?_
  refine r_istore (pc := 18) X rfl rfl dL_hangs_18 ?_
  refine hg_1 X hk hI hh ha (fun f hf => hg_2 X hk hI hh ha hf (fun s1 g1 => hg_3 X hk hI hh ha (hg_4 X hk hI hh ha hnp (fun s2 g2 => ?_))))
  refine bkV.less (xW_mono (bku_new hM)) ?_
  exact K dL_hangs_1145 (Or.inr rfl) ⟨rfl, s2, g2, rfl⟩

