set_option maxHeartbeats 4000000 in
set_option maxRecDepth 100000 in
theorem h3_0 {E : bkEnv} {G : bkG} {Z : Nat → Prop} {M : bkM} {x a : Nat} {S O : Nat → Nat → Int32} {od : Nat → Nat} {np : Nat} {kp : Int32} {t : Nat → Int32} {ln pc pl : Int32} {pf : Nat → Nat → Int32} {n h : Nat} {s1 g1 f : Nat → Int32} {j u : Nat} (X : bkX E G RL cL_hangs 20 (some .boolean) (bkR 7 1 4)) (hk : cOK (S 0) n (O 0)) (hh : h ≤ 50000) (ha : x + 185 ≤ a) (hH : S 0 181 = nI h) (hD : jiD (S 0) n) (hj : j < n) (h1w : 1 ≤ jwn (S 0) j) (hu : u ≤ h) (eu : S 0 (140 + 5 * j + 4) = nI u) (e0 : S 0 (140 + 5 * j + 3) = 0) (hne : S 0 (140 + 5 * j + 1) ≠ S 0 (140 + 5 * j + 2)) (KK : bkV E G Z 1 4 (xW G x (pfu S 1 s1) (pfu O 1 g1) od (nI np) kp t ln pc pl pf (bku M a (aI G 4 f))) 927 [some (.ref x), some (.int (jsm (S 0) 100)), some (.int (nI (jct (fun c => decide (S 0 c = 1) && decide (¬ nI (jlz (S 0) c) ≤ 0)) 100))), some (.int (nI (jct (fun c => decide (¬ nI (jlz (S 0) c) ≤ 0)) 100))), some (.int (nI (jct (fun c => decide (¬ jsin (S 0) n (nI c) = -5)) 100))), some (.ref a), some (.int 1), some (.int (jsm (fun l => S 0 (120 + 5 * l + 1)) 4)), some (.int (jsm (fun l => S 0 (120 + 5 * l + 4)) 4)), some (.int (jsm (fun l => S 0 (120 + 5 * l + 3)) 4)), some (.int (nI n)), some (.int (nI (jct (jst (S 0) 2) (j + 1)))), some (.int (nI (jnw (S 0) (j + 1)))), some (.int (jworth (S 0) (jst (S 0) 1) (j + 1))), some (.int (nI (jct (jst (S 0) 0) (j + 1)))), some (.int (nI (jrs (S 0) n (j + 1)))), some (.int (nI j)), some (.int 0), some (.int (nI (jrk (S 0) n j))), some (.int (S 0 (140 + 5 * j + 1)))] []) : bkV E G Z 1 4 (xW G x (pfu S 1 s1) (pfu O 1 g1) od (nI np) kp t ln pc pl pf (bku M a (aI G 4 f))) 660 [some (.ref x), some (.int (jsm (S 0) 100)), some (.int (nI (jct (fun c => decide (S 0 c = 1) && decide (¬ nI (jlz (S 0) c) ≤ 0)) 100))), some (.int (nI (jct (fun c => decide (¬ nI (jlz (S 0) c) ≤ 0)) 100))), some (.int (nI (jct (fun c => decide (¬ jsin (S 0) n (nI c) = -5)) 100))), some (.ref a), some (.int 1), some (.int (jsm (fun l => S 0 (120 + 5 * l + 1)) 4)), some (.int (jsm (fun l => S 0 (120 + 5 * l + 4)) 4)), some (.int (jsm (fun l => S 0 (120 + 5 * l + 3)) 4)), some (.int (nI n)), some (.int (nI (jct (jst (S 0) 2) j))), some (.int (nI (jnw (S 0) j))), some (.int (jworth (S 0) (jst (S 0) 1) j)), some (.int (nI (jct (jst (S 0) 0) j))), some (.int (nI (jrs (S 0) n j))), some (.int (nI j)), none, none, none] [] := by
  have hn8 := hk.1.1
  have s0 : jst (S 0) 0 j = true := decide_eq_true e0
  have s1f : jst (S 0) 1 j = false := by unfold jst; rw [e0]; decide
  have s2f : jst (S 0) 2 j = false := by unfold jst; rw [e0]; decide
  have hrk : jrk (S 0) n j < 8 := by have a1 := jrk_lt hk.1.wo hj s0; have a2 := jct_le (jsea (S 0)) n; omega
  obtain ⟨-, ⟨ce, hce, ec⟩, -⟩ := hk.1.2.2.2 j (by omega)
  refine r_aload_n (pc := 660) X rfl dL_hangs_660 ?_
  refine r_iload (pc := 661) X rfl dL_hangs_661 ?_
  refine r_iconst (pc := 663) (v := 3) X rfl dL_hangs_663 ?_
  refine ca_L_58 (pc := 664) X (ct_shipOf hk _ 3) xW_o rfl rfl rfl dL_hangs_664 (fun r664 M664 hp664 => ?_)
  obtain ⟨rfl, rfl⟩ := hp664
  refine bk_top ((hs_1 (w := 3) hk.1 hj (by omega)).trans e0) ?_
  refine r_istore (pc := 667) X rfl rfl dL_hangs_667 ?_
  refine r_aload_n (pc := 669) X rfl dL_hangs_669 ?_
  refine r_iload (pc := 670) X rfl dL_hangs_670 ?_
  refine r_bipush (pc := 672) (v := 6) X rfl dL_hangs_672 ?_
  refine ca_L_58 (pc := 674) X (ct_shipOf hk _ 6) xW_o rfl rfl rfl dL_hangs_674 (fun r674 M674 hp674 => ?_)
  obtain ⟨rfl, rfl⟩ := hp674
  refine bk_top ((told_s6 hk.1 hj).trans (if_pos e0)) ?_
  refine r_istore (pc := 677) X rfl rfl dL_hangs_677 ?_
  refine r_aload_n (pc := 679) X rfl dL_hangs_679 ?_
  refine r_iload (pc := 680) X rfl dL_hangs_680 ?_
  refine r_iconst (pc := 682) (v := 1) X rfl dL_hangs_682 ?_
  refine ca_L_58 (pc := 683) X (ct_shipOf hk _ 1) xW_o rfl rfl rfl dL_hangs_683 (fun r683 M683 hp683 => ?_)
  obtain ⟨rfl, rfl⟩ := hp683
  refine bk_top (hs_1 (w := 1) hk.1 hj (by omega)) ?_
  refine r_istore (pc := 686) X rfl rfl dL_hangs_686 ?_
  refine r_iload (pc := 688) X rfl dL_hangs_688 ?_
  refine r_if_lt (pc := 690) X 831 (by decide) dL_hangs_690 (fun q690 => ?_) (fun q690 => ?_)
  · skip
    exact absurd q690 (by decide)
  · skip
    refine r_iload (pc := 693) X rfl dL_hangs_693 ?_
    refine r_iconst (pc := 695) (v := 3) X rfl dL_hangs_695 ?_
    refine r_icmp_ge (pc := 696) X 831 (by decide) dL_hangs_696 (fun q696 => ?_) (fun q696 => ?_)
    · skip
      exact absurd q696 (by decide)
    · skip
      refine r_iload (pc := 699) X rfl dL_hangs_699 ?_
      refine r_if_ne (pc := 701) X 708 (by decide) dL_hangs_701 (fun q701 => ?_) (fun q701 => ?_)
      · skip
        exact absurd rfl q701
      · skip
        refine r_iconst (pc := 704) (v := 1) X rfl dL_hangs_704 ?_
        refine r_goto (pc := 705) X 709 (by decide) dL_hangs_705 ?_
        refine r_iload (pc := 709) X rfl dL_hangs_709 ?_
        refine r_if_lt (pc := 711) X 718 (by decide) dL_hangs_711 (fun q711 => ?_) (fun q711 => ?_)
        · skip
          exact absurd q711 (nI_pos (by omega))
        · skip
          refine r_iconst (pc := 714) (v := 1) X rfl dL_hangs_714 ?_
          refine r_goto (pc := 715) X 719 (by decide) dL_hangs_715 ?_
          refine r_icmp_ne (pc := 719) X 831 (by decide) dL_hangs_719 (fun q719 => ?_) (fun q719 => ?_)
          · skip
            exact absurd rfl q719
          · skip
            refine r_iload (pc := 722) X rfl dL_hangs_722 ?_
            refine r_iconst (pc := 724) (v := 1) X rfl dL_hangs_724 ?_
            refine r_icmp_ne (pc := 725) X 732 (by decide) dL_hangs_725 (fun q725 => ?_) (fun q725 => ?_)
            · skip
              refine r_iconst (pc := 732) (v := 0) X rfl dL_hangs_732 ?_
              refine r_aload_n (pc := 733) X rfl dL_hangs_733 ?_
              refine r_iload (pc := 734) X rfl dL_hangs_734 ?_
              refine r_iconst (pc := 736) (v := 5) X rfl dL_hangs_736 ?_
              refine ca_L_58 (pc := 737) X (ct_shipOf hk _ 5) xW_o rfl rfl rfl dL_hangs_737 (fun r737 M737 hp737 => ?_)
              obtain ⟨rfl, rfl⟩ := hp737
              refine r_if_ne (pc := 740) X 753 (by decide) dL_hangs_740 (fun q740 => ?_) (fun q740 => ?_)
              · skip
                refine r_iconst (pc := 753) (v := 0) X rfl dL_hangs_753 ?_
                refine r_icmp_ne (pc := 754) X 831 (by decide) dL_hangs_754 (fun q754 => ?_) (fun q754 => ?_)
                · skip
                  exact absurd rfl q754
                · skip
                  refine r_iload (pc := 757) X rfl dL_hangs_757 ?_
                  refine r_iconst (pc := 759) (v := 1) X rfl dL_hangs_759 ?_
                  refine r_icmp_ne (pc := 760) X 775 (by decide) dL_hangs_760 (fun q760 => ?_) (fun q760 => ?_)
                  · skip
                    refine r_aload_n (pc := 775) X rfl dL_hangs_775 ?_
                    refine r_iload (pc := 776) X rfl dL_hangs_776 ?_
                    refine r_iconst (pc := 778) (v := 4) X rfl dL_hangs_778 ?_
                    refine ca_L_58 (pc := 779) X (ct_shipOf hk _ 4) xW_o rfl rfl rfl dL_hangs_779 (fun r779 M779 hp779 => ?_)
                    obtain ⟨rfl, rfl⟩ := hp779
                    refine bk_top ((hs_1 (w := 4) hk.1 hj (by omega)).trans eu) ?_
                    refine r_if_lt (pc := 782) X 831 (by decide) dL_hangs_782 (fun q782 => ?_) (fun q782 => ?_)
                    · skip
                      exact absurd q782 (nI_pos (by omega))
                    · skip
                      refine r_aload_n (pc := 785) X rfl dL_hangs_785 ?_
                      refine r_iload (pc := 786) X rfl dL_hangs_786 ?_
                      refine r_iconst (pc := 788) (v := 4) X rfl dL_hangs_788 ?_
                      refine ca_L_58 (pc := 789) X (ct_shipOf hk _ 4) xW_o rfl rfl rfl dL_hangs_789 (fun r789 M789 hp789 => ?_)
                      obtain ⟨rfl, rfl⟩ := hp789
                      refine bk_top ((hs_1 (w := 4) hk.1 hj (by omega)).trans eu) ?_
                      refine r_aload_n (pc := 792) X rfl dL_hangs_792 ?_
                      refine r_iconst (pc := 793) (v := 0) X rfl dL_hangs_793 ?_
                      refine ca_L_80 (pc := 794) X (ct_count hk 0) xW_o rfl rfl rfl dL_hangs_794 (fun r794 M794 hp794 => ?_)
                      obtain ⟨rfl, rfl⟩ := hp794
                      refine bk_top (cn_0.trans hH) ?_
                      refine r_icmpN_gt (pc := 797) X 831 (u) (h) rfl rfl (by omega) (by omega) (by decide) dL_hangs_797 (fun q797 => ?_) (fun q797 => ?_)
                      · skip
                        exact absurd q797 (by omega)
                      · skip
                        refine r_aload_n (pc := 800) X rfl dL_hangs_800 ?_
                        refine r_iload (pc := 801) X rfl dL_hangs_801 ?_
                        refine r_iconst (pc := 803) (v := 0) X rfl dL_hangs_803 ?_
                        refine ca_L_58 (pc := 804) X (ct_shipOf hk _ 0) xW_o rfl rfl rfl dL_hangs_804 (fun r804 M804 hp804 => ?_)
                        obtain ⟨rfl, rfl⟩ := hp804
                        refine bk_top ((hs_1 (w := 0) hk.1 hj (by omega)).trans (jwn_s hk.1 (by omega))) ?_
                        refine r_if_le (pc := 807) X 831 (by decide) dL_hangs_807 (fun q807 => ?_) (fun q807 => ?_)
                        · skip
                          exact absurd q807 (nI_nle h1w (by have := jwn_lt hk.1 (k := j) (by omega); omega))
                        · skip
                          refine r_iload (pc := 810) X rfl dL_hangs_810 ?_
                          refine r_if_ne (pc := 812) X 827 (by decide) dL_hangs_812 (fun q812 => ?_) (fun q812 => ?_)
                          · skip
                            exact absurd rfl q812
                          · skip
                            refine r_aload_n (pc := 815) X rfl dL_hangs_815 ?_
                            refine r_iload (pc := 816) X rfl dL_hangs_816 ?_
                            refine r_iconst (pc := 818) (v := 1) X rfl dL_hangs_818 ?_
                            refine ca_L_55 (pc := 819) X (ct_cellOf hk _ 1) xW_o rfl rfl rfl dL_hangs_819 (fun r819 M819 hp819 => ?_)
                            obtain ⟨rfl, rfl⟩ := hp819
                            refine bk_top (show jcellOf (S 0) n (S 0 (140 + 5 * j + 1)) 1 = nI j from by rw [ec]; exact (hc_1 hce).trans (jsin_at hn8 hj hD e0 ec)) ?_
                            refine r_iload (pc := 822) X rfl dL_hangs_822 ?_
                            refine r_icmp_ne (pc := 824) X 831 (by decide) dL_hangs_824 (fun q824 => ?_) (fun q824 => ?_)
                            · skip
                              exact absurd rfl q824
                            · skip
                              refine r_iconst (pc := 827) (v := 1) X rfl dL_hangs_827 ?_
                              refine r_goto (pc := 828) X 832 (by decide) dL_hangs_828 ?_
                              refine r_istore (pc := 832) X rfl rfl dL_hangs_832 ?_
                              refine r_iload (pc := 834) X rfl dL_hangs_834 ?_
                              refine r_iload (pc := 836) X rfl dL_hangs_836 ?_
                              refine r_if_ne (pc := 838) X 845 (by decide) dL_hangs_838 (fun q838 => ?_) (fun q838 => ?_)
                              · skip
                                exact absurd rfl q838
                              · skip
                                refine r_iconst (pc := 841) (v := 1) X rfl dL_hangs_841 ?_
                                refine r_goto (pc := 842) X 846 (by decide) dL_hangs_842 ?_
                                refine r_iadd (pc := 846) X dL_hangs_846 ?_
                                refine bk_top (jct_t (p := jst (S 0) 0) s0) ?_
                                refine r_istore (pc := 847) X rfl rfl dL_hangs_847 ?_
                                refine r_iload (pc := 849) X rfl dL_hangs_849 ?_
                                refine r_iload (pc := 851) X rfl dL_hangs_851 ?_
                                refine r_if_ne (pc := 853) X 863 (by decide) dL_hangs_853 (fun q853 => ?_) (fun q853 => ?_)
                                · skip
                                  exact absurd rfl q853
                                · skip
                                  refine r_iconst (pc := 856) (v := 1) X rfl dL_hangs_856 ?_
                                  refine r_iload (pc := 857) X rfl dL_hangs_857 ?_
                                  refine r_ishl (pc := 859) X dL_hangs_859 ?_
                                  refine r_goto (pc := 860) X 864 (by decide) dL_hangs_860 ?_
                                  refine r_ior (pc := 864) X dL_hangs_864 ?_
                                  refine bk_top ((jb_or8 _ (jrs_256 hk.1 j (by omega)) _ hrk).trans (congrArg nI (if_pos s0 : jrs (S 0) n (j + 1) = jrs (S 0) n j ||| 2 ^ jrk (S 0) n j).symm)) ?_
                                  refine r_istore (pc := 865) X rfl rfl dL_hangs_865 ?_
                                  refine r_iload (pc := 867) X rfl dL_hangs_867 ?_
                                  refine r_iload (pc := 869) X rfl dL_hangs_869 ?_
                                  refine r_iconst (pc := 871) (v := 1) X rfl dL_hangs_871 ?_
                                  refine r_icmp_ne (pc := 872) X 885 (by decide) dL_hangs_872 (fun q872 => ?_) (fun q872 => ?_)
                                  · skip
                                    refine r_iconst (pc := 885) (v := 0) X rfl dL_hangs_885 ?_
                                    refine r_iadd (pc := 886) X dL_hangs_886 ?_
                                    refine bk_top ((Int32.add_zero _).trans (jworth_f (p := jst (S 0) 1) s1f)) ?_
                                    refine r_istore (pc := 887) X rfl rfl dL_hangs_887 ?_
                                    refine r_iload (pc := 889) X rfl dL_hangs_889 ?_
                                    refine r_iload (pc := 891) X rfl dL_hangs_891 ?_
                                    refine r_iconst (pc := 893) (v := 2) X rfl dL_hangs_893 ?_
                                    refine r_icmp_ne (pc := 894) X 901 (by decide) dL_hangs_894 (fun q894 => ?_) (fun q894 => ?_)
                                    · skip
                                      refine r_iconst (pc := 901) (v := 0) X rfl dL_hangs_901 ?_
                                      refine r_iadd (pc := 902) X dL_hangs_902 ?_
                                      refine bk_top (jct_f (p := jst (S 0) 2) s2f) ?_
                                      refine r_istore (pc := 903) X rfl rfl dL_hangs_903 ?_
                                      refine r_iload (pc := 905) X rfl dL_hangs_905 ?_
                                      refine r_iload (pc := 907) X rfl dL_hangs_907 ?_
                                      refine r_iconst (pc := 909) (v := 2) X rfl dL_hangs_909 ?_
                                      refine r_icmp_ne (pc := 910) X 923 (by decide) dL_hangs_910 (fun q910 => ?_) (fun q910 => ?_)
                                      · skip
                                        refine r_iconst (pc := 923) (v := 0) X rfl dL_hangs_923 ?_
                                        refine r_iadd (pc := 924) X dL_hangs_924 ?_
                                        refine bk_top (jnw_f s2f) ?_
                                        refine r_istore (pc := 925) X rfl rfl dL_hangs_925 ?_
                                        exact KK
                                      · skip
                                        exact absurd q910 (by decide)
                                    · skip
                                      exact absurd q894 (by decide)
                                  · skip
                                    exact absurd q872 (by decide)
                  · skip
                    exact absurd q760 (by decide)
              · skip
                exact absurd ((hs_5 hk.1 hj).mp q740) hne
            · skip
              exact absurd q725 (by decide)

set_option maxHeartbeats 4000000 in
set_option maxRecDepth 100000 in
theorem h3_1 {E : bkEnv} {G : bkG} {Z : Nat → Prop} {M : bkM} {x a : Nat} {S O : Nat → Nat → Int32} {od : Nat → Nat} {np : Nat} {kp : Int32} {t : Nat → Int32} {ln pc pl : Int32} {pf : Nat → Nat → Int32} {n h : Nat} {s1 g1 f : Nat → Int32} {j u : Nat} (X : bkX E G RL cL_hangs 20 (some .boolean) (bkR 7 1 4)) (hk : cOK (S 0) n (O 0)) (hh : h ≤ 50000) (ha : x + 185 ≤ a) (hH : S 0 181 = nI h) (hD : jiD (S 0) n) (hj : j < n) (h1w : 1 ≤ jwn (S 0) j) (hu : u ≤ h) (eu : S 0 (140 + 5 * j + 4) = nI u) (e0 : S 0 (140 + 5 * j + 3) = 1) (he : S 0 (140 + 5 * j + 1) = S 0 (140 + 5 * j + 2)) (KK : bkV E G Z 1 4 (xW G x (pfu S 1 s1) (pfu O 1 g1) od (nI np) kp t ln pc pl pf (bku M a (aI G 4 f))) 927 [some (.ref x), some (.int (jsm (S 0) 100)), some (.int (nI (jct (fun c => decide (S 0 c = 1) && decide (¬ nI (jlz (S 0) c) ≤ 0)) 100))), some (.int (nI (jct (fun c => decide (¬ nI (jlz (S 0) c) ≤ 0)) 100))), some (.int (nI (jct (fun c => decide (¬ jsin (S 0) n (nI c) = -5)) 100))), some (.ref a), some (.int 1), some (.int (jsm (fun l => S 0 (120 + 5 * l + 1)) 4)), some (.int (jsm (fun l => S 0 (120 + 5 * l + 4)) 4)), some (.int (jsm (fun l => S 0 (120 + 5 * l + 3)) 4)), some (.int (nI n)), some (.int (nI (jct (jst (S 0) 2) (j + 1)))), some (.int (nI (jnw (S 0) (j + 1)))), some (.int (jworth (S 0) (jst (S 0) 1) (j + 1))), some (.int (nI (jct (jst (S 0) 0) (j + 1)))), some (.int (nI (jrs (S 0) n (j + 1)))), some (.int (nI j)), some (.int 1), some (.int (-5)), some (.int (S 0 (140 + 5 * j + 1)))] []) : bkV E G Z 1 4 (xW G x (pfu S 1 s1) (pfu O 1 g1) od (nI np) kp t ln pc pl pf (bku M a (aI G 4 f))) 660 [some (.ref x), some (.int (jsm (S 0) 100)), some (.int (nI (jct (fun c => decide (S 0 c = 1) && decide (¬ nI (jlz (S 0) c) ≤ 0)) 100))), some (.int (nI (jct (fun c => decide (¬ nI (jlz (S 0) c) ≤ 0)) 100))), some (.int (nI (jct (fun c => decide (¬ jsin (S 0) n (nI c) = -5)) 100))), some (.ref a), some (.int 1), some (.int (jsm (fun l => S 0 (120 + 5 * l + 1)) 4)), some (.int (jsm (fun l => S 0 (120 + 5 * l + 4)) 4)), some (.int (jsm (fun l => S 0 (120 + 5 * l + 3)) 4)), some (.int (nI n)), some (.int (nI (jct (jst (S 0) 2) j))), some (.int (nI (jnw (S 0) j))), some (.int (jworth (S 0) (jst (S 0) 1) j)), some (.int (nI (jct (jst (S 0) 0) j))), some (.int (nI (jrs (S 0) n j))), some (.int (nI j)), none, none, none] [] := by
  have hn8 := hk.1.1
  have s0f : jst (S 0) 0 j = false := by unfold jst; rw [e0]; decide
  have s1 : jst (S 0) 1 j = true := decide_eq_true e0
  have s2f : jst (S 0) 2 j = false := by unfold jst; rw [e0]; decide
  refine r_aload_n (pc := 660) X rfl dL_hangs_660 ?_
  refine r_iload (pc := 661) X rfl dL_hangs_661 ?_
  refine r_iconst (pc := 663) (v := 3) X rfl dL_hangs_663 ?_
  refine ca_L_58 (pc := 664) X (ct_shipOf hk _ 3) xW_o rfl rfl rfl dL_hangs_664 (fun r664 M664 hp664 => ?_)
  obtain ⟨rfl, rfl⟩ := hp664
  refine bk_top ((hs_1 (w := 3) hk.1 hj (by omega)).trans e0) ?_
  refine r_istore (pc := 667) X rfl rfl dL_hangs_667 ?_
  refine r_aload_n (pc := 669) X rfl dL_hangs_669 ?_
  refine r_iload (pc := 670) X rfl dL_hangs_670 ?_
  refine r_bipush (pc := 672) (v := 6) X rfl dL_hangs_672 ?_
  refine ca_L_58 (pc := 674) X (ct_shipOf hk _ 6) xW_o rfl rfl rfl dL_hangs_674 (fun r674 M674 hp674 => ?_)
  obtain ⟨rfl, rfl⟩ := hp674
  refine bk_top ((told_s6 hk.1 hj).trans (if_neg (by rw [e0]; decide))) ?_
  refine r_istore (pc := 677) X rfl rfl dL_hangs_677 ?_
  refine r_aload_n (pc := 679) X rfl dL_hangs_679 ?_
  refine r_iload (pc := 680) X rfl dL_hangs_680 ?_
  refine r_iconst (pc := 682) (v := 1) X rfl dL_hangs_682 ?_
  refine ca_L_58 (pc := 683) X (ct_shipOf hk _ 1) xW_o rfl rfl rfl dL_hangs_683 (fun r683 M683 hp683 => ?_)
  obtain ⟨rfl, rfl⟩ := hp683
  refine bk_top (hs_1 (w := 1) hk.1 hj (by omega)) ?_
  refine r_istore (pc := 686) X rfl rfl dL_hangs_686 ?_
  refine r_iload (pc := 688) X rfl dL_hangs_688 ?_
  refine r_if_lt (pc := 690) X 831 (by decide) dL_hangs_690 (fun q690 => ?_) (fun q690 => ?_)
  · skip
    exact absurd q690 (by decide)
  · skip
    refine r_iload (pc := 693) X rfl dL_hangs_693 ?_
    refine r_iconst (pc := 695) (v := 3) X rfl dL_hangs_695 ?_
    refine r_icmp_ge (pc := 696) X 831 (by decide) dL_hangs_696 (fun q696 => ?_) (fun q696 => ?_)
    · skip
      exact absurd q696 (by decide)
    · skip
      refine r_iload (pc := 699) X rfl dL_hangs_699 ?_
      refine r_if_ne (pc := 701) X 708 (by decide) dL_hangs_701 (fun q701 => ?_) (fun q701 => ?_)
      · skip
        refine r_iconst (pc := 708) (v := 0) X rfl dL_hangs_708 ?_
        refine r_iload (pc := 709) X rfl dL_hangs_709 ?_
        refine r_if_lt (pc := 711) X 718 (by decide) dL_hangs_711 (fun q711 => ?_) (fun q711 => ?_)
        · skip
          refine r_iconst (pc := 718) (v := 0) X rfl dL_hangs_718 ?_
          refine r_icmp_ne (pc := 719) X 831 (by decide) dL_hangs_719 (fun q719 => ?_) (fun q719 => ?_)
          · skip
            exact absurd rfl q719
          · skip
            refine r_iload (pc := 722) X rfl dL_hangs_722 ?_
            refine r_iconst (pc := 724) (v := 1) X rfl dL_hangs_724 ?_
            refine r_icmp_ne (pc := 725) X 732 (by decide) dL_hangs_725 (fun q725 => ?_) (fun q725 => ?_)
            · skip
              exact absurd rfl q725
            · skip
              refine r_iconst (pc := 728) (v := 1) X rfl dL_hangs_728 ?_
              refine r_goto (pc := 729) X 733 (by decide) dL_hangs_729 ?_
              refine r_aload_n (pc := 733) X rfl dL_hangs_733 ?_
              refine r_iload (pc := 734) X rfl dL_hangs_734 ?_
              refine r_iconst (pc := 736) (v := 5) X rfl dL_hangs_736 ?_
              refine ca_L_58 (pc := 737) X (ct_shipOf hk _ 5) xW_o rfl rfl rfl dL_hangs_737 (fun r737 M737 hp737 => ?_)
              obtain ⟨rfl, rfl⟩ := hp737
              refine bk_top ((hs_5 hk.1 hj).mpr he) ?_
              refine r_if_ne (pc := 740) X 753 (by decide) dL_hangs_740 (fun q740 => ?_) (fun q740 => ?_)
              · skip
                exact absurd rfl q740
              · skip
                refine r_iload (pc := 743) X rfl dL_hangs_743 ?_
                refine r_iconst (pc := 745) (v := 2) X rfl dL_hangs_745 ?_
                refine r_icmp_ge (pc := 746) X 753 (by decide) dL_hangs_746 (fun q746 => ?_) (fun q746 => ?_)
                · skip
                  exact absurd q746 (by decide)
                · skip
                  refine r_iconst (pc := 749) (v := 1) X rfl dL_hangs_749 ?_
                  refine r_goto (pc := 750) X 754 (by decide) dL_hangs_750 ?_
                  refine r_icmp_ne (pc := 754) X 831 (by decide) dL_hangs_754 (fun q754 => ?_) (fun q754 => ?_)
                  · skip
                    exact absurd rfl q754
                  · skip
                    refine r_iload (pc := 757) X rfl dL_hangs_757 ?_
                    refine r_iconst (pc := 759) (v := 1) X rfl dL_hangs_759 ?_
                    refine r_icmp_ne (pc := 760) X 775 (by decide) dL_hangs_760 (fun q760 => ?_) (fun q760 => ?_)
                    · skip
                      exact absurd rfl q760
                    · skip
                      refine r_iload (pc := 763) X rfl dL_hangs_763 ?_
                      refine r_aload_n (pc := 765) X rfl dL_hangs_765 ?_
                      refine r_iload (pc := 766) X rfl dL_hangs_766 ?_
                      refine r_iconst (pc := 768) (v := 2) X rfl dL_hangs_768 ?_
                      refine ca_L_58 (pc := 769) X (ct_shipOf hk _ 2) xW_o rfl rfl rfl dL_hangs_769 (fun r769 M769 hp769 => ?_)
                      obtain ⟨rfl, rfl⟩ := hp769
                      refine bk_top (hs_1 (w := 2) hk.1 hj (by omega)) ?_
                      refine r_icmp_ne (pc := 772) X 831 (by decide) dL_hangs_772 (fun q772 => ?_) (fun q772 => ?_)
                      · skip
                        exact absurd he q772
                      · skip
                        refine r_aload_n (pc := 775) X rfl dL_hangs_775 ?_
                        refine r_iload (pc := 776) X rfl dL_hangs_776 ?_
                        refine r_iconst (pc := 778) (v := 4) X rfl dL_hangs_778 ?_
                        refine ca_L_58 (pc := 779) X (ct_shipOf hk _ 4) xW_o rfl rfl rfl dL_hangs_779 (fun r779 M779 hp779 => ?_)
                        obtain ⟨rfl, rfl⟩ := hp779
                        refine bk_top ((hs_1 (w := 4) hk.1 hj (by omega)).trans eu) ?_
                        refine r_if_lt (pc := 782) X 831 (by decide) dL_hangs_782 (fun q782 => ?_) (fun q782 => ?_)
                        · skip
                          exact absurd q782 (nI_pos (by omega))
                        · skip
                          refine r_aload_n (pc := 785) X rfl dL_hangs_785 ?_
                          refine r_iload (pc := 786) X rfl dL_hangs_786 ?_
                          refine r_iconst (pc := 788) (v := 4) X rfl dL_hangs_788 ?_
                          refine ca_L_58 (pc := 789) X (ct_shipOf hk _ 4) xW_o rfl rfl rfl dL_hangs_789 (fun r789 M789 hp789 => ?_)
                          obtain ⟨rfl, rfl⟩ := hp789
                          refine bk_top ((hs_1 (w := 4) hk.1 hj (by omega)).trans eu) ?_
                          refine r_aload_n (pc := 792) X rfl dL_hangs_792 ?_
                          refine r_iconst (pc := 793) (v := 0) X rfl dL_hangs_793 ?_
                          refine ca_L_80 (pc := 794) X (ct_count hk 0) xW_o rfl rfl rfl dL_hangs_794 (fun r794 M794 hp794 => ?_)
                          obtain ⟨rfl, rfl⟩ := hp794
                          refine bk_top (cn_0.trans hH) ?_
                          refine r_icmpN_gt (pc := 797) X 831 (u) (h) rfl rfl (by omega) (by omega) (by decide) dL_hangs_797 (fun q797 => ?_) (fun q797 => ?_)
                          · skip
                            exact absurd q797 (by omega)
                          · skip
                            refine r_aload_n (pc := 800) X rfl dL_hangs_800 ?_
                            refine r_iload (pc := 801) X rfl dL_hangs_801 ?_
                            refine r_iconst (pc := 803) (v := 0) X rfl dL_hangs_803 ?_
                            refine ca_L_58 (pc := 804) X (ct_shipOf hk _ 0) xW_o rfl rfl rfl dL_hangs_804 (fun r804 M804 hp804 => ?_)
                            obtain ⟨rfl, rfl⟩ := hp804
                            refine bk_top ((hs_1 (w := 0) hk.1 hj (by omega)).trans (jwn_s hk.1 (by omega))) ?_
                            refine r_if_le (pc := 807) X 831 (by decide) dL_hangs_807 (fun q807 => ?_) (fun q807 => ?_)
                            · skip
                              exact absurd q807 (nI_nle h1w (by have := jwn_lt hk.1 (k := j) (by omega); omega))
                            · skip
                              refine r_iload (pc := 810) X rfl dL_hangs_810 ?_
                              refine r_if_ne (pc := 812) X 827 (by decide) dL_hangs_812 (fun q812 => ?_) (fun q812 => ?_)
                              · skip
                                refine r_iconst (pc := 827) (v := 1) X rfl dL_hangs_827 ?_
                                refine r_goto (pc := 828) X 832 (by decide) dL_hangs_828 ?_
                                refine r_istore (pc := 832) X rfl rfl dL_hangs_832 ?_
                                refine r_iload (pc := 834) X rfl dL_hangs_834 ?_
                                refine r_iload (pc := 836) X rfl dL_hangs_836 ?_
                                refine r_if_ne (pc := 838) X 845 (by decide) dL_hangs_838 (fun q838 => ?_) (fun q838 => ?_)
                                · skip
                                  refine r_iconst (pc := 845) (v := 0) X rfl dL_hangs_845 ?_
                                  refine r_iadd (pc := 846) X dL_hangs_846 ?_
                                  refine bk_top (jct_f (p := jst (S 0) 0) s0f) ?_
                                  refine r_istore (pc := 847) X rfl rfl dL_hangs_847 ?_
                                  refine r_iload (pc := 849) X rfl dL_hangs_849 ?_
                                  refine r_iload (pc := 851) X rfl dL_hangs_851 ?_
                                  refine r_if_ne (pc := 853) X 863 (by decide) dL_hangs_853 (fun q853 => ?_) (fun q853 => ?_)
                                  · skip
                                    refine r_iconst (pc := 863) (v := 0) X rfl dL_hangs_863 ?_
                                    refine r_ior (pc := 864) X dL_hangs_864 ?_
                                    refine bk_top (Int32.or_zero.trans (congrArg nI (if_neg (by rw [s0f]; decide) : jrs (S 0) n (j + 1) = jrs (S 0) n j).symm)) ?_
                                    refine r_istore (pc := 865) X rfl rfl dL_hangs_865 ?_
                                    refine r_iload (pc := 867) X rfl dL_hangs_867 ?_
                                    refine r_iload (pc := 869) X rfl dL_hangs_869 ?_
                                    refine r_iconst (pc := 871) (v := 1) X rfl dL_hangs_871 ?_
                                    refine r_icmp_ne (pc := 872) X 885 (by decide) dL_hangs_872 (fun q872 => ?_) (fun q872 => ?_)
                                    · skip
                                      exact absurd rfl q872
                                    · skip
                                      refine r_aload_n (pc := 875) X rfl dL_hangs_875 ?_
                                      refine r_iload (pc := 876) X rfl dL_hangs_876 ?_
                                      refine r_iconst (pc := 878) (v := 0) X rfl dL_hangs_878 ?_
                                      refine ca_L_58 (pc := 879) X (ct_shipOf hk _ 0) xW_o rfl rfl rfl dL_hangs_879 (fun r879 M879 hp879 => ?_)
                                      obtain ⟨rfl, rfl⟩ := hp879
                                      refine bk_top (hs_1 (w := 0) hk.1 hj (by omega)) ?_
                                      refine r_goto (pc := 882) X 886 (by decide) dL_hangs_882 ?_
                                      refine r_iadd (pc := 886) X dL_hangs_886 ?_
                                      refine bk_top (jworth_t (p := jst (S 0) 1) s1) ?_
                                      refine r_istore (pc := 887) X rfl rfl dL_hangs_887 ?_
                                      refine r_iload (pc := 889) X rfl dL_hangs_889 ?_
                                      refine r_iload (pc := 891) X rfl dL_hangs_891 ?_
                                      refine r_iconst (pc := 893) (v := 2) X rfl dL_hangs_893 ?_
                                      refine r_icmp_ne (pc := 894) X 901 (by decide) dL_hangs_894 (fun q894 => ?_) (fun q894 => ?_)
                                      · skip
                                        refine r_iconst (pc := 901) (v := 0) X rfl dL_hangs_901 ?_
                                        refine r_iadd (pc := 902) X dL_hangs_902 ?_
                                        refine bk_top (jct_f (p := jst (S 0) 2) s2f) ?_
                                        refine r_istore (pc := 903) X rfl rfl dL_hangs_903 ?_
                                        refine r_iload (pc := 905) X rfl dL_hangs_905 ?_
                                        refine r_iload (pc := 907) X rfl dL_hangs_907 ?_
                                        refine r_iconst (pc := 909) (v := 2) X rfl dL_hangs_909 ?_
                                        refine r_icmp_ne (pc := 910) X 923 (by decide) dL_hangs_910 (fun q910 => ?_) (fun q910 => ?_)
                                        · skip
                                          refine r_iconst (pc := 923) (v := 0) X rfl dL_hangs_923 ?_
                                          refine r_iadd (pc := 924) X dL_hangs_924 ?_
                                          refine bk_top (jnw_f s2f) ?_
                                          refine r_istore (pc := 925) X rfl rfl dL_hangs_925 ?_
                                          exact KK
                                        · skip
                                          exact absurd q910 (by decide)
                                      · skip
                                        exact absurd q894 (by decide)
                                  · skip
                                    exact absurd q853 (by decide)
                                · skip
                                  exact absurd q838 (by decide)
                              · skip
                                exact absurd q812 (by decide)
        · skip
          exact absurd q711 (by decide)
      · skip
        exact absurd q701 (by decide)

set_option maxHeartbeats 4000000 in
set_option maxRecDepth 100000 in
theorem h3_2 {E : bkEnv} {G : bkG} {Z : Nat → Prop} {M : bkM} {x a : Nat} {S O : Nat → Nat → Int32} {od : Nat → Nat} {np : Nat} {kp : Int32} {t : Nat → Int32} {ln pc pl : Int32} {pf : Nat → Nat → Int32} {n h : Nat} {s1 g1 f : Nat → Int32} {j u : Nat} (X : bkX E G RL cL_hangs 20 (some .boolean) (bkR 7 1 4)) (hk : cOK (S 0) n (O 0)) (hh : h ≤ 50000) (ha : x + 185 ≤ a) (hH : S 0 181 = nI h) (hD : jiD (S 0) n) (hj : j < n) (h1w : 1 ≤ jwn (S 0) j) (hu : u ≤ h) (eu : S 0 (140 + 5 * j + 4) = nI u) (e0 : S 0 (140 + 5 * j + 3) = 2) (KK : bkV E G Z 1 4 (xW G x (pfu S 1 s1) (pfu O 1 g1) od (nI np) kp t ln pc pl pf (bku M a (aI G 4 f))) 927 [some (.ref x), some (.int (jsm (S 0) 100)), some (.int (nI (jct (fun c => decide (S 0 c = 1) && decide (¬ nI (jlz (S 0) c) ≤ 0)) 100))), some (.int (nI (jct (fun c => decide (¬ nI (jlz (S 0) c) ≤ 0)) 100))), some (.int (nI (jct (fun c => decide (¬ jsin (S 0) n (nI c) = -5)) 100))), some (.ref a), some (.int 1), some (.int (jsm (fun l => S 0 (120 + 5 * l + 1)) 4)), some (.int (jsm (fun l => S 0 (120 + 5 * l + 4)) 4)), some (.int (jsm (fun l => S 0 (120 + 5 * l + 3)) 4)), some (.int (nI n)), some (.int (nI (jct (jst (S 0) 2) (j + 1)))), some (.int (nI (jnw (S 0) (j + 1)))), some (.int (jworth (S 0) (jst (S 0) 1) (j + 1))), some (.int (nI (jct (jst (S 0) 0) (j + 1)))), some (.int (nI (jrs (S 0) n (j + 1)))), some (.int (nI j)), some (.int 2), some (.int (-5)), some (.int (S 0 (140 + 5 * j + 1)))] []) : bkV E G Z 1 4 (xW G x (pfu S 1 s1) (pfu O 1 g1) od (nI np) kp t ln pc pl pf (bku M a (aI G 4 f))) 660 [some (.ref x), some (.int (jsm (S 0) 100)), some (.int (nI (jct (fun c => decide (S 0 c = 1) && decide (¬ nI (jlz (S 0) c) ≤ 0)) 100))), some (.int (nI (jct (fun c => decide (¬ nI (jlz (S 0) c) ≤ 0)) 100))), some (.int (nI (jct (fun c => decide (¬ jsin (S 0) n (nI c) = -5)) 100))), some (.ref a), some (.int 1), some (.int (jsm (fun l => S 0 (120 + 5 * l + 1)) 4)), some (.int (jsm (fun l => S 0 (120 + 5 * l + 4)) 4)), some (.int (jsm (fun l => S 0 (120 + 5 * l + 3)) 4)), some (.int (nI n)), some (.int (nI (jct (jst (S 0) 2) j))), some (.int (nI (jnw (S 0) j))), some (.int (jworth (S 0) (jst (S 0) 1) j)), some (.int (nI (jct (jst (S 0) 0) j))), some (.int (nI (jrs (S 0) n j))), some (.int (nI j)), none, none, none] [] := by
  have hn8 := hk.1.1
  have s0f : jst (S 0) 0 j = false := by unfold jst; rw [e0]; decide
  have s1f : jst (S 0) 1 j = false := by unfold jst; rw [e0]; decide
  have s2 : jst (S 0) 2 j = true := decide_eq_true e0
  refine r_aload_n (pc := 660) X rfl dL_hangs_660 ?_
  refine r_iload (pc := 661) X rfl dL_hangs_661 ?_
  refine r_iconst (pc := 663) (v := 3) X rfl dL_hangs_663 ?_
  refine ca_L_58 (pc := 664) X (ct_shipOf hk _ 3) xW_o rfl rfl rfl dL_hangs_664 (fun r664 M664 hp664 => ?_)
  obtain ⟨rfl, rfl⟩ := hp664
  refine bk_top ((hs_1 (w := 3) hk.1 hj (by omega)).trans e0) ?_
  refine r_istore (pc := 667) X rfl rfl dL_hangs_667 ?_
  refine r_aload_n (pc := 669) X rfl dL_hangs_669 ?_
  refine r_iload (pc := 670) X rfl dL_hangs_670 ?_
  refine r_bipush (pc := 672) (v := 6) X rfl dL_hangs_672 ?_
  refine ca_L_58 (pc := 674) X (ct_shipOf hk _ 6) xW_o rfl rfl rfl dL_hangs_674 (fun r674 M674 hp674 => ?_)
  obtain ⟨rfl, rfl⟩ := hp674
  refine bk_top ((told_s6 hk.1 hj).trans (if_neg (by rw [e0]; decide))) ?_
  refine r_istore (pc := 677) X rfl rfl dL_hangs_677 ?_
  refine r_aload_n (pc := 679) X rfl dL_hangs_679 ?_
  refine r_iload (pc := 680) X rfl dL_hangs_680 ?_
  refine r_iconst (pc := 682) (v := 1) X rfl dL_hangs_682 ?_
  refine ca_L_58 (pc := 683) X (ct_shipOf hk _ 1) xW_o rfl rfl rfl dL_hangs_683 (fun r683 M683 hp683 => ?_)
  obtain ⟨rfl, rfl⟩ := hp683
  refine bk_top (hs_1 (w := 1) hk.1 hj (by omega)) ?_
  refine r_istore (pc := 686) X rfl rfl dL_hangs_686 ?_
  refine r_iload (pc := 688) X rfl dL_hangs_688 ?_
  refine r_if_lt (pc := 690) X 831 (by decide) dL_hangs_690 (fun q690 => ?_) (fun q690 => ?_)
  · skip
    exact absurd q690 (by decide)
  · skip
    refine r_iload (pc := 693) X rfl dL_hangs_693 ?_
    refine r_iconst (pc := 695) (v := 3) X rfl dL_hangs_695 ?_
    refine r_icmp_ge (pc := 696) X 831 (by decide) dL_hangs_696 (fun q696 => ?_) (fun q696 => ?_)
    · skip
      exact absurd q696 (by decide)
    · skip
      refine r_iload (pc := 699) X rfl dL_hangs_699 ?_
      refine r_if_ne (pc := 701) X 708 (by decide) dL_hangs_701 (fun q701 => ?_) (fun q701 => ?_)
      · skip
        refine r_iconst (pc := 708) (v := 0) X rfl dL_hangs_708 ?_
        refine r_iload (pc := 709) X rfl dL_hangs_709 ?_
        refine r_if_lt (pc := 711) X 718 (by decide) dL_hangs_711 (fun q711 => ?_) (fun q711 => ?_)
        · skip
          refine r_iconst (pc := 718) (v := 0) X rfl dL_hangs_718 ?_
          refine r_icmp_ne (pc := 719) X 831 (by decide) dL_hangs_719 (fun q719 => ?_) (fun q719 => ?_)
          · skip
            exact absurd rfl q719
          · skip
            refine r_iload (pc := 722) X rfl dL_hangs_722 ?_
            refine r_iconst (pc := 724) (v := 1) X rfl dL_hangs_724 ?_
            refine r_icmp_ne (pc := 725) X 732 (by decide) dL_hangs_725 (fun q725 => ?_) (fun q725 => ?_)
            · skip
              refine r_iconst (pc := 732) (v := 0) X rfl dL_hangs_732 ?_
              refine bkV.join 757 (stT := []) ?_ (fun j757 => ?_)
              · skip
                refine r_iload (pc := 757) X rfl dL_hangs_757 ?_
                refine r_iconst (pc := 759) (v := 1) X rfl dL_hangs_759 ?_
                refine r_icmp_ne (pc := 760) X 775 (by decide) dL_hangs_760 (fun q760 => ?_) (fun q760 => ?_)
                · skip
                  refine r_aload_n (pc := 775) X rfl dL_hangs_775 ?_
                  refine r_iload (pc := 776) X rfl dL_hangs_776 ?_
                  refine r_iconst (pc := 778) (v := 4) X rfl dL_hangs_778 ?_
                  refine ca_L_58 (pc := 779) X (ct_shipOf hk _ 4) xW_o rfl rfl rfl dL_hangs_779 (fun r779 M779 hp779 => ?_)
                  obtain ⟨rfl, rfl⟩ := hp779
                  refine bk_top ((hs_1 (w := 4) hk.1 hj (by omega)).trans eu) ?_
                  refine r_if_lt (pc := 782) X 831 (by decide) dL_hangs_782 (fun q782 => ?_) (fun q782 => ?_)
                  · skip
                    exact absurd q782 (nI_pos (by omega))
                  · skip
                    refine r_aload_n (pc := 785) X rfl dL_hangs_785 ?_
                    refine r_iload (pc := 786) X rfl dL_hangs_786 ?_
                    refine r_iconst (pc := 788) (v := 4) X rfl dL_hangs_788 ?_
                    refine ca_L_58 (pc := 789) X (ct_shipOf hk _ 4) xW_o rfl rfl rfl dL_hangs_789 (fun r789 M789 hp789 => ?_)
                    obtain ⟨rfl, rfl⟩ := hp789
                    refine bk_top ((hs_1 (w := 4) hk.1 hj (by omega)).trans eu) ?_
                    refine r_aload_n (pc := 792) X rfl dL_hangs_792 ?_
                    refine r_iconst (pc := 793) (v := 0) X rfl dL_hangs_793 ?_
                    refine ca_L_80 (pc := 794) X (ct_count hk 0) xW_o rfl rfl rfl dL_hangs_794 (fun r794 M794 hp794 => ?_)
                    obtain ⟨rfl, rfl⟩ := hp794
                    refine bk_top (cn_0.trans hH) ?_
                    refine r_icmpN_gt (pc := 797) X 831 (u) (h) rfl rfl (by omega) (by omega) (by decide) dL_hangs_797 (fun q797 => ?_) (fun q797 => ?_)
                    · skip
                      exact absurd q797 (by omega)
                    · skip
                      refine r_aload_n (pc := 800) X rfl dL_hangs_800 ?_
                      refine r_iload (pc := 801) X rfl dL_hangs_801 ?_
                      refine r_iconst (pc := 803) (v := 0) X rfl dL_hangs_803 ?_
                      refine ca_L_58 (pc := 804) X (ct_shipOf hk _ 0) xW_o rfl rfl rfl dL_hangs_804 (fun r804 M804 hp804 => ?_)
                      obtain ⟨rfl, rfl⟩ := hp804
                      refine bk_top ((hs_1 (w := 0) hk.1 hj (by omega)).trans (jwn_s hk.1 (by omega))) ?_
                      refine r_if_le (pc := 807) X 831 (by decide) dL_hangs_807 (fun q807 => ?_) (fun q807 => ?_)
                      · skip
                        exact absurd q807 (nI_nle h1w (by have := jwn_lt hk.1 (k := j) (by omega); omega))
                      · skip
                        refine r_iload (pc := 810) X rfl dL_hangs_810 ?_
                        refine r_if_ne (pc := 812) X 827 (by decide) dL_hangs_812 (fun q812 => ?_) (fun q812 => ?_)
                        · skip
                          refine r_iconst (pc := 827) (v := 1) X rfl dL_hangs_827 ?_
                          refine r_goto (pc := 828) X 832 (by decide) dL_hangs_828 ?_
                          refine r_istore (pc := 832) X rfl rfl dL_hangs_832 ?_
                          refine r_iload (pc := 834) X rfl dL_hangs_834 ?_
                          refine r_iload (pc := 836) X rfl dL_hangs_836 ?_
                          refine r_if_ne (pc := 838) X 845 (by decide) dL_hangs_838 (fun q838 => ?_) (fun q838 => ?_)
                          · skip
                            refine r_iconst (pc := 845) (v := 0) X rfl dL_hangs_845 ?_
                            refine r_iadd (pc := 846) X dL_hangs_846 ?_
                            refine bk_top (jct_f (p := jst (S 0) 0) s0f) ?_
                            refine r_istore (pc := 847) X rfl rfl dL_hangs_847 ?_
                            refine r_iload (pc := 849) X rfl dL_hangs_849 ?_
                            refine r_iload (pc := 851) X rfl dL_hangs_851 ?_
                            refine r_if_ne (pc := 853) X 863 (by decide) dL_hangs_853 (fun q853 => ?_) (fun q853 => ?_)
                            · skip
                              refine r_iconst (pc := 863) (v := 0) X rfl dL_hangs_863 ?_
                              refine r_ior (pc := 864) X dL_hangs_864 ?_
                              refine bk_top (Int32.or_zero.trans (congrArg nI (if_neg (by rw [s0f]; decide) : jrs (S 0) n (j + 1) = jrs (S 0) n j).symm)) ?_
                              refine r_istore (pc := 865) X rfl rfl dL_hangs_865 ?_
                              refine r_iload (pc := 867) X rfl dL_hangs_867 ?_
                              refine r_iload (pc := 869) X rfl dL_hangs_869 ?_
                              refine r_iconst (pc := 871) (v := 1) X rfl dL_hangs_871 ?_
                              refine r_icmp_ne (pc := 872) X 885 (by decide) dL_hangs_872 (fun q872 => ?_) (fun q872 => ?_)
                              · skip
                                refine r_iconst (pc := 885) (v := 0) X rfl dL_hangs_885 ?_
                                refine r_iadd (pc := 886) X dL_hangs_886 ?_
                                refine bk_top ((Int32.add_zero _).trans (jworth_f (p := jst (S 0) 1) s1f)) ?_
                                refine r_istore (pc := 887) X rfl rfl dL_hangs_887 ?_
                                refine r_iload (pc := 889) X rfl dL_hangs_889 ?_
                                refine r_iload (pc := 891) X rfl dL_hangs_891 ?_
                                refine r_iconst (pc := 893) (v := 2) X rfl dL_hangs_893 ?_
                                refine r_icmp_ne (pc := 894) X 901 (by decide) dL_hangs_894 (fun q894 => ?_) (fun q894 => ?_)
                                · skip
                                  exact absurd rfl q894
                                · skip
                                  refine r_iconst (pc := 897) (v := 1) X rfl dL_hangs_897 ?_
                                  refine r_goto (pc := 898) X 902 (by decide) dL_hangs_898 ?_
                                  refine r_iadd (pc := 902) X dL_hangs_902 ?_
                                  refine bk_top (jct_t (p := jst (S 0) 2) s2) ?_
                                  refine r_istore (pc := 903) X rfl rfl dL_hangs_903 ?_
                                  refine r_iload (pc := 905) X rfl dL_hangs_905 ?_
                                  refine r_iload (pc := 907) X rfl dL_hangs_907 ?_
                                  refine r_iconst (pc := 909) (v := 2) X rfl dL_hangs_909 ?_
                                  refine r_icmp_ne (pc := 910) X 923 (by decide) dL_hangs_910 (fun q910 => ?_) (fun q910 => ?_)
                                  · skip
                                    exact absurd rfl q910
                                  · skip
                                    refine r_aload_n (pc := 913) X rfl dL_hangs_913 ?_
                                    refine r_iload (pc := 914) X rfl dL_hangs_914 ?_
                                    refine r_iconst (pc := 916) (v := 0) X rfl dL_hangs_916 ?_
                                    refine ca_L_58 (pc := 917) X (ct_shipOf hk _ 0) xW_o rfl rfl rfl dL_hangs_917 (fun r917 M917 hp917 => ?_)
                                    obtain ⟨rfl, rfl⟩ := hp917
                                    refine bk_top ((hs_1 (w := 0) hk.1 hj (by omega)).trans (jwn_s hk.1 (by omega))) ?_
                                    refine r_goto (pc := 920) X 924 (by decide) dL_hangs_920 ?_
                                    refine r_iadd (pc := 924) X dL_hangs_924 ?_
                                    refine bk_top (jnw_t s2) ?_
                                    refine r_istore (pc := 925) X rfl rfl dL_hangs_925 ?_
                                    exact KK
                              · skip
                                exact absurd q872 (by decide)
                            · skip
                              exact absurd q853 (by decide)
                          · skip
                            exact absurd q838 (by decide)
                        · skip
                          exact absurd q812 (by decide)
                · skip
                  exact absurd q760 (by decide)
              refine r_aload_n (pc := 733) X rfl dL_hangs_733 ?_
              refine r_iload (pc := 734) X rfl dL_hangs_734 ?_
              refine r_iconst (pc := 736) (v := 5) X rfl dL_hangs_736 ?_
              refine ca_L_58 (pc := 737) X (ct_shipOf hk _ 5) xW_o rfl rfl rfl dL_hangs_737 (fun r737 M737 hp737 => ?_)
              obtain ⟨rfl, rfl⟩ := hp737
              refine r_if_ne (pc := 740) X 753 (by decide) dL_hangs_740 (fun q740 => ?_) (fun q740 => ?_)
              · skip
                refine r_iconst (pc := 753) (v := 0) X rfl dL_hangs_753 ?_
                refine r_icmp_ne (pc := 754) X 831 (by decide) dL_hangs_754 (fun q754 => ?_) (fun q754 => ?_)
                · skip
                  exact absurd rfl q754
                · skip
                  exact j757
              · skip
                refine r_iload (pc := 743) X rfl dL_hangs_743 ?_
                refine r_iconst (pc := 745) (v := 2) X rfl dL_hangs_745 ?_
                refine r_icmp_ge (pc := 746) X 753 (by decide) dL_hangs_746 (fun q746 => ?_) (fun q746 => ?_)
                · skip
                  refine r_iconst (pc := 753) (v := 0) X rfl dL_hangs_753 ?_
                  refine r_icmp_ne (pc := 754) X 831 (by decide) dL_hangs_754 (fun q754 => ?_) (fun q754 => ?_)
                  · skip
                    exact absurd rfl q754
                  · skip
                    exact j757
                · skip
                  exact absurd q746 (by decide)
            · skip
              exact absurd q725 (by decide)
        · skip
          exact absurd q711 (by decide)
      · skip
        exact absurd q701 (by decide)

set_option maxHeartbeats 4000000 in
set_option maxRecDepth 100000 in
theorem hg_3 {E : bkEnv} {G : bkG} {Z : Nat → Prop} {M : bkM} {x a : Nat} {S O : Nat → Nat → Int32} {od : Nat → Nat} {np : Nat} {kp : Int32} {t : Nat → Int32} {ln pc pl : Int32} {pf : Nat → Nat → Int32} {n h : Nat} {s1 g1 f : Nat → Int32} (X : bkX E G RL cL_hangs 20 (some .boolean) (bkR 7 1 4)) (hk : cOK (S 0) n (O 0)) (hI : jI (S 0) n h) (hh : h ≤ 50000) (ha : x + 185 ≤ a) (KK : bkV E G Z 1 4 (xW G x (pfu S 1 s1) (pfu O 1 g1) od (nI np) kp t ln pc pl pf (bku M a (aI G 4 f))) 933 [some (.ref x), some (.int (jsm (S 0) 100)), some (.int (nI (jct (fun c => decide (S 0 c = 1) && decide (¬ nI (jlz (S 0) c) ≤ 0)) 100))), some (.int (nI (jct (fun c => decide (¬ nI (jlz (S 0) c) ≤ 0)) 100))), some (.int (nI (jct (fun c => decide (¬ jsin (S 0) n (nI c) = -5)) 100))), some (.ref a), some (.int 1), some (.int (jsm (fun l => S 0 (120 + 5 * l + 1)) 4)), some (.int (jsm (fun l => S 0 (120 + 5 * l + 4)) 4)), some (.int (jsm (fun l => S 0 (120 + 5 * l + 3)) 4)), some (.int (nI n)), some (.int (nI (jct (jst (S 0) 2) n))), some (.int (nI (jnw (S 0) n))), some (.int (jworth (S 0) (jst (S 0) 1) n)), some (.int (nI (jct (jst (S 0) 0) n))), some (.int (nI (jrs (S 0) n n))), some (.int (nI n)), none, none, none] []) : bkV E G Z 1 4 (xW G x (pfu S 1 s1) (pfu O 1 g1) od (nI np) kp t ln pc pl pf (bku M a (aI G 4 f))) 616 [some (.ref x), some (.int (jsm (S 0) 100)), some (.int (nI (jct (fun c => decide (S 0 c = 1) && decide (¬ nI (jlz (S 0) c) ≤ 0)) 100))), some (.int (nI (jct (fun c => decide (¬ nI (jlz (S 0) c) ≤ 0)) 100))), some (.int (nI (jct (fun c => decide (¬ jsin (S 0) n (nI c) = -5)) 100))), some (.ref a), some (.int 1), some (.int (jsm (fun l => S 0 (120 + 5 * l + 1)) 4)), some (.int (jsm (fun l => S 0 (120 + 5 * l + 4)) 4)), some (.int (jsm (fun l => S 0 (120 + 5 * l + 3)) 4)), some (.int (nI 4)), none, none, none, none, none, none, none, none, none] [] := by
  have hn8 := hk.1.1
  obtain ⟨hR, ⟨hH, hwg⟩, hK, hS, hD⟩ := hI
  refine r_aload_n (pc := 616) X rfl dL_hangs_616 ?_
  refine r_iconst (pc := 617) (v := 2) X rfl dL_hangs_617 ?_
  refine ca_L_80 (pc := 618) X (ct_count hk 2) xW_o rfl rfl rfl dL_hangs_618 (fun r618 M618 hp618 => ?_)
  obtain ⟨rfl, rfl⟩ := hp618
  refine bk_top (cn_2.trans hk.1.2.1) ?_
  refine r_istore (pc := 621) X rfl rfl dL_hangs_621 ?_
  refine r_iconst (pc := 623) (v := 0) X rfl dL_hangs_623 ?_
  refine r_istore (pc := 624) X rfl rfl dL_hangs_624 ?_
  refine r_iconst (pc := 626) (v := 0) X rfl dL_hangs_626 ?_
  refine r_istore (pc := 627) X rfl rfl dL_hangs_627 ?_
  refine r_iconst (pc := 629) (v := 0) X rfl dL_hangs_629 ?_
  refine r_istore (pc := 630) X rfl rfl dL_hangs_630 ?_
  refine r_iconst (pc := 632) (v := 0) X rfl dL_hangs_632 ?_
  refine r_istore (pc := 633) X rfl rfl dL_hangs_633 ?_
  refine r_iconst (pc := 635) (v := 0) X rfl dL_hangs_635 ?_
  refine r_istore (pc := 636) X rfl rfl dL_hangs_636 ?_
  refine r_iconst (pc := 638) (v := 0) X rfl dL_hangs_638 ?_
  refine r_istore (pc := 639) X rfl rfl dL_hangs_639 ?_
  have lp641 : ∀ (d j : Nat) (y : Int32), j ≤ n → n < j + d → y = nI j → bkV E G Z 1 4 (xW G x (pfu S 1 s1) (pfu O 1 g1) od (nI np) kp t ln pc pl pf (bku M a (aI G 4 f))) 641 [some (.ref x), some (.int (jsm (S 0) 100)), some (.int (nI (jct (fun c => decide (S 0 c = 1) && decide (¬ nI (jlz (S 0) c) ≤ 0)) 100))), some (.int (nI (jct (fun c => decide (¬ nI (jlz (S 0) c) ≤ 0)) 100))), some (.int (nI (jct (fun c => decide (¬ jsin (S 0) n (nI c) = -5)) 100))), some (.ref a), some (.int 1), some (.int (jsm (fun l => S 0 (120 + 5 * l + 1)) 4)), some (.int (jsm (fun l => S 0 (120 + 5 * l + 4)) 4)), some (.int (jsm (fun l => S 0 (120 + 5 * l + 3)) 4)), some (.int (nI n)), some (.int (nI (jct (jst (S 0) 2) j))), some (.int (nI (jnw (S 0) j))), some (.int (jworth (S 0) (jst (S 0) 1) j)), some (.int (nI (jct (jst (S 0) 0) j))), some (.int (nI (jrs (S 0) n j))), some (.int y), none, none, none] [] := by
    intro d
    induction d with
    | zero => intros; exfalso; omega
    | succ d ih =>
      intro j y hj0 hd ey
      subst ey
      refine r_iload (pc := 641) X rfl dL_hangs_641 ?_
      refine r_iload (pc := 643) X rfl dL_hangs_643 ?_
      refine r_icmpN_ge (pc := 645) X 933 (j) (n) rfl rfl (by omega) (by omega) (by decide) dL_hangs_645 (fun q645 => ?_) (fun q645 => ?_)
      · skip
        have hjn : j = n := by omega
        subst hjn
        exact KK
      · skip
        refine r_iload (pc := 648) X rfl dL_hangs_648 ?_
        refine r_bipush (pc := 650) (v := 8) X rfl dL_hangs_650 ?_
        refine r_icmpN_ge (pc := 652) X 933 (j) (8) rfl rfl (by omega) (by omega) (by decide) dL_hangs_652 (fun q652 => ?_) (fun q652 => ?_)
        · skip
          exact absurd q652 (by omega)
        · skip
          refine r_iload (pc := 655) X rfl dL_hangs_655 ?_
          refine r_if_eq (pc := 657) X 933 (by decide) dL_hangs_657 (fun q657 => ?_) (fun q657 => ?_)
          · skip
            exact absurd q657 (by decide)
          · skip
            have hj : j < n := q645
            obtain ⟨h1w, ⟨u, hu, eu⟩, hst⟩ := hS j hj
            have K927 : ∀ r1 r2 r3 : Int32, bkV E G Z 1 4 (xW G x (pfu S 1 s1) (pfu O 1 g1) od (nI np) kp t ln pc pl pf (bku M a (aI G 4 f))) 927 [some (.ref x), some (.int (jsm (S 0) 100)), some (.int (nI (jct (fun c => decide (S 0 c = 1) && decide (¬ nI (jlz (S 0) c) ≤ 0)) 100))), some (.int (nI (jct (fun c => decide (¬ nI (jlz (S 0) c) ≤ 0)) 100))), some (.int (nI (jct (fun c => decide (¬ jsin (S 0) n (nI c) = -5)) 100))), some (.ref a), some (.int 1), some (.int (jsm (fun l => S 0 (120 + 5 * l + 1)) 4)), some (.int (jsm (fun l => S 0 (120 + 5 * l + 4)) 4)), some (.int (jsm (fun l => S 0 (120 + 5 * l + 3)) 4)), some (.int (nI n)), some (.int (nI (jct (jst (S 0) 2) (j + 1)))), some (.int (nI (jnw (S 0) (j + 1)))), some (.int (jworth (S 0) (jst (S 0) 1) (j + 1))), some (.int (nI (jct (jst (S 0) 0) (j + 1)))), some (.int (nI (jrs (S 0) n (j + 1)))), some (.int (nI j)), some (.int r1), some (.int r2), some (.int r3)] [] := by
              intro r1 r2 r3
              refine r_iinc (pc := 927) X rfl rfl rfl dL_hangs_927 ?_
              refine r_goto (pc := 930) X 641 (by decide) dL_hangs_930 ?_
              exact bkV.drop 17 (bkV.drop 18 (bkV.drop 19 (ih (j + 1) _ (by omega) (by omega) (nI_1 j))))
            rcases hst with ⟨e0, hne⟩ | ⟨e0, he⟩ | e0
            · exact h3_0 X hk hh ha hH hD hj h1w hu eu e0 hne (K927 _ _ _)
            · exact h3_1 X hk hh ha hH hD hj h1w hu eu e0 he (K927 _ _ _)
            · exact h3_2 X hk hh ha hH hD hj h1w hu eu e0 (K927 _ _ _)
  exact lp641 (n + 1) 0 0 (by omega) (by omega) rfl

