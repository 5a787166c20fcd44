set_option maxHeartbeats 4000000 in
set_option maxRecDepth 100000 in
theorem c_X6_goesToWreck {G : bkG} {Z : Nat → Prop} {M : bkM} {B b : Nat} {s go : Nat → Int32} (hB : bB G B M) (hs : B + 12 ≤ b) (hf : jlf s) {n : Nat} (hw : jwf s n) (k : Nat) (hk : k < 8) : bkCi G Z Z yX6_goesToWreck cX6_goesToWreck 4 (some .boolean) 3 0 0 [.ref b, .ref (b + 14 + k)] (sW G B b s go M) (fun v M' => v = bi (jwk s n k) ∧ M' = sW G B b (jgx s n k) go M) := by
  refine bk_metz [some (.ref b), some (.ref (b + 14 + k)), none, none] rfl pf_X6_goesToWreck rfl rfl (fun E X K => ?_)
  obtain ⟨-, ⟨ce, hce, ec⟩, ⟨h, hh, eh⟩⟩ := hw.2.2.2 k hk
  have hx := jnx_lt hce hh
  have hr := jnr_lt (jnx ce h)
  have e0 : jwx s k = jnx ce h := by unfold jwx; rw [ec, eh, tn_nI (by omega), tn_nI (by omega)]
  have eg : s (140 + 5 * k + 3) = 0 → jgx s n k = jgo s n k ce h := by
    intro h0
    unfold jgx
    rw [if_pos h0]
    unfold jgoes
    rw [ec, eh, tn_nI (by omega), tn_nI (by omega)]
  refine r_aload_n (pc := 0) X rfl dX6_goesToWreck_0 ?_
  refine gt_X6_97 (pc := 1) X (sW_sh hk) rfl dX6_goesToWreck_1 ?_
  refine r_if_eq (pc := 4) X 9 (by decide) dX6_goesToWreck_4 (fun q4 => ?_) (fun q4 => ?_)
  · skip
    refine r_aload_n (pc := 9) X rfl dX6_goesToWreck_9 ?_
    refine ca_X6_134 (pc := 10) X (c_X5_nextCell (sW_sh hk) hce hh ec eh) (sW_sh hk) rfl rfl rfl dX6_goesToWreck_10 (fun r10 M10 hp10 => ?_)
    obtain ⟨rfl, rfl⟩ := hp10
    refine r_istore_n (pc := 13) X rfl rfl dX6_goesToWreck_13 ?_
    refine r_aload_n (pc := 14) X rfl dX6_goesToWreck_14 ?_
    refine r_iload_n (pc := 15) X rfl dX6_goesToWreck_15 ?_
    refine ca_X6_84 (pc := 16) X (c_X6_hasRock (jnx ce h) hx) sW_o rfl rfl rfl dX6_goesToWreck_16 (fun r16 M16 hp16 => ?_)
    obtain ⟨rfl, rfl⟩ := hp16
    refine r_istore_n (pc := 19) X rfl rfl dX6_goesToWreck_19 ?_
    refine r_aload_n (pc := 20) X rfl dX6_goesToWreck_20 ?_
    refine r_iload_n (pc := 21) X rfl dX6_goesToWreck_21 ?_
    refine ca_X6_87 (pc := 22) X (c_X6_shipAtSeaIn hw.1 hw.2.1 (nI (jnx ce h))) sW_o rfl rfl rfl dX6_goesToWreck_22 (fun r22 M22 hp22 => ?_)
    obtain ⟨rfl, rfl⟩ := hp22
    refine r_bipush (pc := 25) (v := (-5)) X rfl dX6_goesToWreck_25 ?_
    refine r_icmp_ne (pc := 27) X 47 (by decide) dX6_goesToWreck_27 (fun q27 => ?_) (fun q27 => ?_)
    · skip
      refine r_aload_n (pc := 47) X rfl dX6_goesToWreck_47 ?_
      refine r_dup (pc := 48) X rfl dX6_goesToWreck_48 ?_
      refine gt_X6_138 (pc := 49) X (sW_sh hk) rfl dX6_goesToWreck_49 ?_
      refine r_iconst (pc := 52) (v := 1) X rfl dX6_goesToWreck_52 ?_
      refine r_iadd (pc := 53) X dX6_goesToWreck_53 ?_
      refine pt_X6_138 (pc := 54) X (sW_sh hk)  rfl dX6_goesToWreck_54 ?_
      refine bkV.eq ((congrArg (fun z => bku _ _ (.inr (5, z))) shF_4).trans (sS_sh hk (fun m _ hm => by rw [upd_n (fun e => hm (by rw [e]; exact jow_s hk (by omega)))]))) ?_
      refine r_iconst (pc := 57) (v := 0) X rfl dX6_goesToWreck_57 ?_
      exact K dX6_goesToWreck_58 (by first | exact Or.inl rfl | exact Or.inr rfl) ⟨(bi_0.mpr (by clear K X; unfold jwk; rw [e0]; grind [bi_0, bi_n0])).symm, by rw [eg q4]; unfold jgo; rw [if_pos (by clear K X; grind [bi_0, bi_n0])]⟩
    · skip
      refine r_iload_n (pc := 30) X rfl dX6_goesToWreck_30 ?_
      refine r_if_eq (pc := 31) X 59 (by decide) dX6_goesToWreck_31 (fun q31 => ?_) (fun q31 => ?_)
      · skip
        refine r_iload_n (pc := 59) X rfl dX6_goesToWreck_59 ?_
        refine r_if_eq (pc := 60) X 91 (by decide) dX6_goesToWreck_60 (fun q60 => ?_) (fun q60 => ?_)
        · skip
          refine r_aload_n (pc := 91) X rfl dX6_goesToWreck_91 ?_
          refine r_iload_n (pc := 92) X rfl dX6_goesToWreck_92 ?_
          refine ca_X6_152 (pc := 93) X (c_X5_comeTo (sW_sh hk) (nI (jnx ce h))) (sW_sh hk) rfl rfl rfl dX6_goesToWreck_93 (fun M93 hp93 => ?_)
          obtain rfl := hp93
          refine bkV.eq (sS_sh hk (fun m _ hm => by split <;> first | rw [upd_n (fun e => hm (by rw [e]; exact jow_s hk (by omega))), upd_n (fun e => hm (by rw [e]; exact jow_s hk (by omega)))] | rw [upd_n (fun e => hm (by rw [e]; exact jow_s hk (by omega)))])) ?_
          refine r_iconst (pc := 96) (v := 0) X rfl dX6_goesToWreck_96 ?_
          exact K dX6_goesToWreck_97 (by first | exact Or.inl rfl | exact Or.inr rfl) ⟨(bi_0.mpr (by clear K X; unfold jwk; rw [e0]; grind [bi_0, bi_n0])).symm, by rw [eg q4, jgo_m q4 eh (by clear K X; grind [bi_0, bi_n0]) (by clear K X; grind [bi_0, bi_n0])]⟩
        · skip
          refine r_aload_n (pc := 63) X rfl dX6_goesToWreck_63 ?_
          refine r_iload_n (pc := 64) X rfl dX6_goesToWreck_64 ?_
          refine ca_X6_141 (pc := 65) X (c_X5_breakIn (sW_sh hk) (nI (jnx ce h))) (sW_sh hk) rfl rfl rfl dX6_goesToWreck_65 (fun M65 hp65 => ?_)
          obtain rfl := hp65
          refine bkV.eq (sS_sh hk (fun m _ hm => by rw [upd_n (fun e => hm (by rw [e]; exact jow_s hk (by omega))), upd_n (fun e => hm (by rw [e]; exact jow_s hk (by omega)))])) ?_
          refine r_aload_n (pc := 68) X rfl dX6_goesToWreck_68 ?_
          refine gt_X6_23 (pc := 69) X sW_o rfl dX6_goesToWreck_69 ?_
          refine r_aload_n (pc := 72) X rfl dX6_goesToWreck_72 ?_
          refine gt_X6_46 (pc := 73) X sW_o rfl dX6_goesToWreck_73 ?_
          refine gt_X6_144 (pc := 76) X (hB.sW hs).1 rfl dX6_goesToWreck_76 ?_
          refine r_iload_n (pc := 79) X rfl dX6_goesToWreck_79 ?_
          refine r_iald (pc := 80) X (hB.sW hs).2.1 (jnx ce h) rfl (by omega) (by decide) dX6_goesToWreck_80 ?_
          refine r_aald (pc := 81) X sW_k rfl rfl (jnr (jnx ce h)) rfl (by omega) (by decide) rfl dX6_goesToWreck_81 ?_
          refine r_aload_n (pc := 82) X rfl dX6_goesToWreck_82 ?_
          refine gt_X6_94 (pc := 83) X (sW_sh hk) rfl dX6_goesToWreck_83 ?_
          refine ca_X6_149 (pc := 86) X (c_X2_oweWreck (sW_kp hr) _) (sW_kp hr) rfl rfl rfl dX6_goesToWreck_86 (fun M86 hp86 => ?_)
          obtain rfl := hp86
          refine bkV.eq (sS_kp hr (fun m _ hm => by rw [upd_n (fun e => hm (by rw [e]; exact jow_k hr (by omega))), upd_n (fun e => hm (by rw [e]; exact jow_k hr (by omega)))])) ?_
          refine r_iconst (pc := 89) (v := 1) X rfl dX6_goesToWreck_89 ?_
          exact K dX6_goesToWreck_90 (by first | exact Or.inl rfl | exact Or.inr rfl) ⟨(bi_1.mpr (by clear K X; unfold jwk; rw [e0]; grind [bi_0, bi_n0])).symm, by rw [eg q4, jgo_w (by clear K X; grind [bi_0, bi_n0]) (by clear K X; grind [bi_0, bi_n0])]⟩
      · skip
        refine r_aload_n (pc := 34) X rfl dX6_goesToWreck_34 ?_
        refine r_iload_n (pc := 35) X rfl dX6_goesToWreck_35 ?_
        refine r_aload_n (pc := 36) X rfl dX6_goesToWreck_36 ?_
        refine gt_X6_43 (pc := 37) X sW_o rfl dX6_goesToWreck_37 ?_
        refine r_iconst (pc := 40) (v := 0) X rfl dX6_goesToWreck_40 ?_
        refine ca_X6_119 (pc := 41) X (c_X6_litBy hB hs (jnx ce h) hx (s 181) 0) sW_o rfl rfl rfl dX6_goesToWreck_41 (fun r41 M41 hp41 => ?_)
        obtain ⟨rfl, rfl⟩ := hp41
        rw [cby_eq hf hx]
        refine r_if_eq (pc := 44) X 59 (by decide) dX6_goesToWreck_44 (fun q44 => ?_) (fun q44 => ?_)
        · skip
          refine r_iload_n (pc := 59) X rfl dX6_goesToWreck_59 ?_
          refine r_if_eq (pc := 60) X 91 (by decide) dX6_goesToWreck_60 (fun q60 => ?_) (fun q60 => ?_)
          · skip
            refine r_aload_n (pc := 91) X rfl dX6_goesToWreck_91 ?_
            refine r_iload_n (pc := 92) X rfl dX6_goesToWreck_92 ?_
            refine ca_X6_152 (pc := 93) X (c_X5_comeTo (sW_sh hk) (nI (jnx ce h))) (sW_sh hk) rfl rfl rfl dX6_goesToWreck_93 (fun M93 hp93 => ?_)
            obtain rfl := hp93
            refine bkV.eq (sS_sh hk (fun m _ hm => by split <;> first | rw [upd_n (fun e => hm (by rw [e]; exact jow_s hk (by omega))), upd_n (fun e => hm (by rw [e]; exact jow_s hk (by omega)))] | rw [upd_n (fun e => hm (by rw [e]; exact jow_s hk (by omega)))])) ?_
            refine r_iconst (pc := 96) (v := 0) X rfl dX6_goesToWreck_96 ?_
            exact K dX6_goesToWreck_97 (by first | exact Or.inl rfl | exact Or.inr rfl) ⟨(bi_0.mpr (by clear K X; unfold jwk; rw [e0]; grind [bi_0, bi_n0])).symm, by rw [eg q4, jgo_m q4 eh (by clear K X; grind [bi_0, bi_n0]) (by clear K X; grind [bi_0, bi_n0])]⟩
          · skip
            refine r_aload_n (pc := 63) X rfl dX6_goesToWreck_63 ?_
            refine r_iload_n (pc := 64) X rfl dX6_goesToWreck_64 ?_
            refine ca_X6_141 (pc := 65) X (c_X5_breakIn (sW_sh hk) (nI (jnx ce h))) (sW_sh hk) rfl rfl rfl dX6_goesToWreck_65 (fun M65 hp65 => ?_)
            obtain rfl := hp65
            refine bkV.eq (sS_sh hk (fun m _ hm => by rw [upd_n (fun e => hm (by rw [e]; exact jow_s hk (by omega))), upd_n (fun e => hm (by rw [e]; exact jow_s hk (by omega)))])) ?_
            refine r_aload_n (pc := 68) X rfl dX6_goesToWreck_68 ?_
            refine gt_X6_23 (pc := 69) X sW_o rfl dX6_goesToWreck_69 ?_
            refine r_aload_n (pc := 72) X rfl dX6_goesToWreck_72 ?_
            refine gt_X6_46 (pc := 73) X sW_o rfl dX6_goesToWreck_73 ?_
            refine gt_X6_144 (pc := 76) X (hB.sW hs).1 rfl dX6_goesToWreck_76 ?_
            refine r_iload_n (pc := 79) X rfl dX6_goesToWreck_79 ?_
            refine r_iald (pc := 80) X (hB.sW hs).2.1 (jnx ce h) rfl (by omega) (by decide) dX6_goesToWreck_80 ?_
            refine r_aald (pc := 81) X sW_k rfl rfl (jnr (jnx ce h)) rfl (by omega) (by decide) rfl dX6_goesToWreck_81 ?_
            refine r_aload_n (pc := 82) X rfl dX6_goesToWreck_82 ?_
            refine gt_X6_94 (pc := 83) X (sW_sh hk) rfl dX6_goesToWreck_83 ?_
            refine ca_X6_149 (pc := 86) X (c_X2_oweWreck (sW_kp hr) _) (sW_kp hr) rfl rfl rfl dX6_goesToWreck_86 (fun M86 hp86 => ?_)
            obtain rfl := hp86
            refine bkV.eq (sS_kp hr (fun m _ hm => by rw [upd_n (fun e => hm (by rw [e]; exact jow_k hr (by omega))), upd_n (fun e => hm (by rw [e]; exact jow_k hr (by omega)))])) ?_
            refine r_iconst (pc := 89) (v := 1) X rfl dX6_goesToWreck_89 ?_
            exact K dX6_goesToWreck_90 (by first | exact Or.inl rfl | exact Or.inr rfl) ⟨(bi_1.mpr (by clear K X; unfold jwk; rw [e0]; grind [bi_0, bi_n0])).symm, by rw [eg q4, jgo_w (by clear K X; grind [bi_0, bi_n0]) (by clear K X; grind [bi_0, bi_n0])]⟩
        · skip
          refine r_aload_n (pc := 47) X rfl dX6_goesToWreck_47 ?_
          refine r_dup (pc := 48) X rfl dX6_goesToWreck_48 ?_
          refine gt_X6_138 (pc := 49) X (sW_sh hk) rfl dX6_goesToWreck_49 ?_
          refine r_iconst (pc := 52) (v := 1) X rfl dX6_goesToWreck_52 ?_
          refine r_iadd (pc := 53) X dX6_goesToWreck_53 ?_
          refine pt_X6_138 (pc := 54) X (sW_sh hk)  rfl dX6_goesToWreck_54 ?_
          refine bkV.eq ((congrArg (fun z => bku _ _ (.inr (5, z))) shF_4).trans (sS_sh hk (fun m _ hm => by rw [upd_n (fun e => hm (by rw [e]; exact jow_s hk (by omega)))]))) ?_
          refine r_iconst (pc := 57) (v := 0) X rfl dX6_goesToWreck_57 ?_
          exact K dX6_goesToWreck_58 (by first | exact Or.inl rfl | exact Or.inr rfl) ⟨(bi_0.mpr (by clear K X; unfold jwk; rw [e0]; grind [bi_0, bi_n0])).symm, by rw [eg q4]; unfold jgo; rw [if_pos (by clear K X; grind [bi_0, bi_n0])]⟩
  · skip
    refine r_iconst (pc := 7) (v := 0) X rfl dX6_goesToWreck_7 ?_
    exact K dX6_goesToWreck_8 (by first | exact Or.inl rfl | exact Or.inr rfl) ⟨(bi_0.mpr (by unfold jwk; simp [q4])).symm, by rw [show jgx s n k = s from if_neg q4]⟩

