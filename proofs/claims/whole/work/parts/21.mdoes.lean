set_option maxHeartbeats 4000000 in
set_option maxRecDepth 100000 in
theorem c_X9_parts {G : bkG} {Z : Nat → Prop} {M : bkM} {r : Nat} {s a p q t o f : Nat → Int32} {len : Nat} (h7 : f 7 = nI len) (h60 : len ≤ 60) : bkCi G Z Z yX9_parts cX9_parts 3 (some .int) 4 0 0 [.ref r] (mW G M r s a p q t o f) (fun z M' => z = (if (jRd t len).1.2 = true then (-5 : Int32) else nI (jRd t len).2.length) ∧ ∃ l' u' v' w', M' = (mW G M r s a p q t o (jff f (jRd t len).1 l' u' v' w'))) := by
  refine bk_meti [some (.ref r), none, none] rfl pf_X9_parts rfl rfl (fun E X K => ?_)
  refine r_aload_n (pc := 0) X rfl dX9_parts_0 ?_
  refine r_iconst (pc := 1) (v := 0) X rfl dX9_parts_1 ?_
  refine pt_X9_154 (pc := 2) X mW_0  rfl dX9_parts_2 ?_
  refine bkV.eq mP_9 ?_
  refine r_aload_n (pc := 5) X rfl dX9_parts_5 ?_
  refine r_iconst (pc := 6) (v := 0) X rfl dX9_parts_6 ?_
  refine pt_X9_157 (pc := 7) X mW_0 (Or.inl rfl) rfl dX9_parts_7 ?_
  refine bkV.eq mP_10 ?_
  rw [jff_00]
  refine r_iconst (pc := 10) (v := 0) X rfl dX9_parts_10 ?_
  refine r_istore_n (pc := 11) X rfl rfl dX9_parts_11 ?_
  refine r_iconst (pc := 12) (v := 1) X rfl dX9_parts_12 ?_
  refine r_istore_n (pc := 13) X rfl rfl dX9_parts_13 ?_
  have t14 : ∀ (y : Int32) (x : JX) (l u v w : Int32), (jRd t len).1 = x → y = nI (jRd t len).2.length → bkV E G Z 0 0 (mW G M r s a p q t o (jff f x l u v w)) 14 [some (.ref r), some (.int y), some (.int 0)] [] := by
    intro y x l u v w e1 e2
    subst e2
    refine r_iload_n (pc := 14) X rfl dX9_parts_14 ?_
    refine r_if_eq (pc := 15) X 75 (by decide) dX9_parts_15 (fun q15 => ?_) (fun q15 => absurd rfl q15)
    refine r_aload_n (pc := 75) X rfl dX9_parts_75 ?_
    refine gt_X9_157 (pc := 76) X mW_0 rfl dX9_parts_76 ?_
    refine bk_top (jff10.trans (congrArg (fun z => bi z.2) e1.symm)) ?_
    refine r_if_eq (pc := 79) X 87 (by decide) dX9_parts_79 (fun q79 => ?_) (fun q79 => ?_)
    · skip
      refine r_iload_n (pc := 87) X rfl dX9_parts_87 ?_
      exact K dX9_parts_88 ⟨by first | exact (if_neg (by rw [bi_0.mp q79]; decide)).symm | exact (if_pos (bi_n0.mp q79)).symm, l, u, v, w, by rw [e1]⟩
    · skip
      refine r_bipush (pc := 82) (v := (-5)) X rfl dX9_parts_82 ?_
      refine r_goto (pc := 84) X 88 (by decide) dX9_parts_84 ?_
      exact K dX9_parts_88 ⟨by first | exact (if_neg (by rw [bi_0.mp q79]; decide)).symm | exact (if_pos (bi_n0.mp q79)).symm, l, u, v, w, by rw [e1]⟩
  have lp14 : ∀ (d i : Nat) (y : Int32) (x : JX) (l u v w : Int32), x.2 = false → x.1 ≤ len → len - x.1 < d → (jRd t len).1 = (jrd t len d x).1 → (jRd t len).2.length = i + (jrd t len d x).2.length → y = nI i → bkV E G Z 0 0 (mW G M r s a p q t o (jff f x l u v w)) 14 [some (.ref r), some (.int y), some (.int 1)] [] := by
    intro d
    induction d with
    | zero => intros; omega
    | succ d ih =>
      intro i y x l u v w h2 hx hd e1 e2 e3
      subst e3
      refine r_iload_n (pc := 14) X rfl dX9_parts_14 ?_
      refine r_if_eq (pc := 15) X 75 (by decide) dX9_parts_15 (fun q15 => absurd q15 (by decide)) (fun q15 => ?_)
      refine r_aload_n (pc := 18) X rfl dX9_parts_18 ?_
      refine ca_X9_188 (pc := 19) X (c_X9_part h7 h60 hx) mW_0 rfl rfl rfl dX9_parts_19 (fun M19 hp19 => ?_)
      obtain rfl := hp19
      refine r_iinc (pc := 22) X rfl rfl rfl dX9_parts_22 ?_
      refine r_aload_n (pc := 25) X rfl dX9_parts_25 ?_
      refine gt_X9_157 (pc := 26) X mW_0 rfl dX9_parts_26 ?_
      refine bk_top jff10 ?_
      refine r_if_ne (pc := 29) X 47 (by decide) dX9_parts_29 (fun q29 => ?_) (fun q29 => ?_)
      · skip
        refine r_iconst (pc := 47) (v := 0) X rfl dX9_parts_47 ?_
        refine r_istore_n (pc := 48) X rfl rfl dX9_parts_48 ?_
        refine r_iload_n (pc := 49) X rfl dX9_parts_49 ?_
        refine r_if_eq (pc := 50) X 14 (by decide) dX9_parts_50 (fun q50 => ?_) (fun q50 => ?_)
        · skip
          first | exact absurd q50 (by decide) | exact t14 _ _ _ _ _ _ (by rw [e1, jrd_s1 (by first | exact Or.inl (bi_n0.mp q29) | exact Or.inr (by omega))]) (by rw [e2, jrd_s1 (by first | exact Or.inl (bi_n0.mp q29) | exact Or.inr (by omega))]; exact nI_1 i)
        · skip
          refine r_aload_n (pc := 53) X rfl dX9_parts_53 ?_
          refine r_bipush (pc := 54) (v := 59) X rfl dX9_parts_54 ?_
          refine ca_X9_179 (pc := 56) X (c_X9_sign h7 h60 (jpx_le hx) 59) mW_0 rfl rfl rfl dX9_parts_56 (fun M56 hp56 => ?_)
          obtain rfl := hp56
          refine r_aload_n (pc := 59) X rfl dX9_parts_59 ?_
          refine gt_X9_157 (pc := 60) X mW_0 rfl dX9_parts_60 ?_
          refine bk_top jff10 ?_
          refine r_if_ne (pc := 63) X 70 (by decide) dX9_parts_63 (fun q63 => ?_) (fun q63 => ?_)
          · skip
            refine r_iconst (pc := 70) (v := 0) X rfl dX9_parts_70 ?_
            refine r_istore_n (pc := 71) X rfl rfl dX9_parts_71 ?_
            refine r_goto (pc := 72) X 14 (by decide) dX9_parts_72 ?_
            first | exact absurd rfl q50 | exact t14 _ _ _ _ _ _ (by rw [e1, jrd_s2 (bi_0.mp q29) (by omega) (bi_n0.mp q63)]) (by rw [e2, jrd_s2 (bi_0.mp q29) (by omega) (bi_n0.mp q63)]; exact nI_1 i) | (have hz0 := bi_0.mp q63; have h8 := jsg_ok hz0; have h9 := (jpx_ok (bi_0.mp q29)).2.1; have h10 : (jsg t len 59 (jpx t len x)).1 = (jpx t len x).1 + 1 := (by rw [h8.2.1]); exact ih (i + 1) _ _ _ _ _ _ hz0 (by omega) (by omega) (by rw [e1, jrd_s3 (bi_0.mp q29) (by omega) hz0]) (by rw [e2, jrd_s3 (bi_0.mp q29) (by omega) hz0]; simp only [List.length_cons]; omega) (nI_1 i))
          · skip
            refine r_iconst (pc := 66) (v := 1) X rfl dX9_parts_66 ?_
            refine r_goto (pc := 67) X 71 (by decide) dX9_parts_67 ?_
            refine r_istore_n (pc := 71) X rfl rfl dX9_parts_71 ?_
            refine r_goto (pc := 72) X 14 (by decide) dX9_parts_72 ?_
            first | exact absurd rfl q50 | exact t14 _ _ _ _ _ _ (by rw [e1, jrd_s2 (bi_0.mp q29) (by omega) (bi_n0.mp q63)]) (by rw [e2, jrd_s2 (bi_0.mp q29) (by omega) (bi_n0.mp q63)]; exact nI_1 i) | (have hz0 := bi_0.mp q63; have h8 := jsg_ok hz0; have h9 := (jpx_ok (bi_0.mp q29)).2.1; have h10 : (jsg t len 59 (jpx t len x)).1 = (jpx t len x).1 + 1 := (by rw [h8.2.1]); exact ih (i + 1) _ _ _ _ _ _ hz0 (by omega) (by omega) (by rw [e1, jrd_s3 (bi_0.mp q29) (by omega) hz0]) (by rw [e2, jrd_s3 (bi_0.mp q29) (by omega) hz0]; simp only [List.length_cons]; omega) (nI_1 i))
      · skip
        refine r_aload_n (pc := 32) X rfl dX9_parts_32 ?_
        refine gt_X9_154 (pc := 33) X mW_0 rfl dX9_parts_33 ?_
        refine bk_top jff9 ?_
        refine r_aload_n (pc := 36) X rfl dX9_parts_36 ?_
        refine gt_X9_151 (pc := 37) X mW_0 rfl dX9_parts_37 ?_
        refine bk_top (jff7.trans h7) ?_
        refine r_icmpN_ge (pc := 40) X 47 ((jpx t len x).1) (len) rfl rfl (by have := jpx_le (t := t) hx; omega) (by omega) (by decide) dX9_parts_40 (fun q40 => ?_) (fun q40 => ?_)
        · skip
          refine r_iconst (pc := 47) (v := 0) X rfl dX9_parts_47 ?_
          refine r_istore_n (pc := 48) X rfl rfl dX9_parts_48 ?_
          refine r_iload_n (pc := 49) X rfl dX9_parts_49 ?_
          refine r_if_eq (pc := 50) X 14 (by decide) dX9_parts_50 (fun q50 => ?_) (fun q50 => ?_)
          · skip
            first | exact absurd q50 (by decide) | exact t14 _ _ _ _ _ _ (by rw [e1, jrd_s1 (by first | exact Or.inl (bi_n0.mp q29) | exact Or.inr (by omega))]) (by rw [e2, jrd_s1 (by first | exact Or.inl (bi_n0.mp q29) | exact Or.inr (by omega))]; exact nI_1 i)
          · skip
            refine r_aload_n (pc := 53) X rfl dX9_parts_53 ?_
            refine r_bipush (pc := 54) (v := 59) X rfl dX9_parts_54 ?_
            refine ca_X9_179 (pc := 56) X (c_X9_sign h7 h60 (jpx_le hx) 59) mW_0 rfl rfl rfl dX9_parts_56 (fun M56 hp56 => ?_)
            obtain rfl := hp56
            refine r_aload_n (pc := 59) X rfl dX9_parts_59 ?_
            refine gt_X9_157 (pc := 60) X mW_0 rfl dX9_parts_60 ?_
            refine bk_top jff10 ?_
            refine r_if_ne (pc := 63) X 70 (by decide) dX9_parts_63 (fun q63 => ?_) (fun q63 => ?_)
            · skip
              refine r_iconst (pc := 70) (v := 0) X rfl dX9_parts_70 ?_
              refine r_istore_n (pc := 71) X rfl rfl dX9_parts_71 ?_
              refine r_goto (pc := 72) X 14 (by decide) dX9_parts_72 ?_
              first | exact absurd rfl q50 | exact t14 _ _ _ _ _ _ (by rw [e1, jrd_s2 (bi_0.mp q29) (by omega) (bi_n0.mp q63)]) (by rw [e2, jrd_s2 (bi_0.mp q29) (by omega) (bi_n0.mp q63)]; exact nI_1 i) | (have hz0 := bi_0.mp q63; have h8 := jsg_ok hz0; have h9 := (jpx_ok (bi_0.mp q29)).2.1; have h10 : (jsg t len 59 (jpx t len x)).1 = (jpx t len x).1 + 1 := (by rw [h8.2.1]); exact ih (i + 1) _ _ _ _ _ _ hz0 (by omega) (by omega) (by rw [e1, jrd_s3 (bi_0.mp q29) (by omega) hz0]) (by rw [e2, jrd_s3 (bi_0.mp q29) (by omega) hz0]; simp only [List.length_cons]; omega) (nI_1 i))
            · skip
              refine r_iconst (pc := 66) (v := 1) X rfl dX9_parts_66 ?_
              refine r_goto (pc := 67) X 71 (by decide) dX9_parts_67 ?_
              refine r_istore_n (pc := 71) X rfl rfl dX9_parts_71 ?_
              refine r_goto (pc := 72) X 14 (by decide) dX9_parts_72 ?_
              first | exact absurd rfl q50 | exact t14 _ _ _ _ _ _ (by rw [e1, jrd_s2 (bi_0.mp q29) (by omega) (bi_n0.mp q63)]) (by rw [e2, jrd_s2 (bi_0.mp q29) (by omega) (bi_n0.mp q63)]; exact nI_1 i) | (have hz0 := bi_0.mp q63; have h8 := jsg_ok hz0; have h9 := (jpx_ok (bi_0.mp q29)).2.1; have h10 : (jsg t len 59 (jpx t len x)).1 = (jpx t len x).1 + 1 := (by rw [h8.2.1]); exact ih (i + 1) _ _ _ _ _ _ hz0 (by omega) (by omega) (by rw [e1, jrd_s3 (bi_0.mp q29) (by omega) hz0]) (by rw [e2, jrd_s3 (bi_0.mp q29) (by omega) hz0]; simp only [List.length_cons]; omega) (nI_1 i))
        · skip
          refine r_iconst (pc := 43) (v := 1) X rfl dX9_parts_43 ?_
          refine r_goto (pc := 44) X 48 (by decide) dX9_parts_44 ?_
          refine r_istore_n (pc := 48) X rfl rfl dX9_parts_48 ?_
          refine r_iload_n (pc := 49) X rfl dX9_parts_49 ?_
          refine r_if_eq (pc := 50) X 14 (by decide) dX9_parts_50 (fun q50 => ?_) (fun q50 => ?_)
          · skip
            first | exact absurd q50 (by decide) | exact t14 _ _ _ _ _ _ (by rw [e1, jrd_s1 (by first | exact Or.inl (bi_n0.mp q29) | exact Or.inr (by omega))]) (by rw [e2, jrd_s1 (by first | exact Or.inl (bi_n0.mp q29) | exact Or.inr (by omega))]; exact nI_1 i)
          · skip
            refine r_aload_n (pc := 53) X rfl dX9_parts_53 ?_
            refine r_bipush (pc := 54) (v := 59) X rfl dX9_parts_54 ?_
            refine ca_X9_179 (pc := 56) X (c_X9_sign h7 h60 (jpx_le hx) 59) mW_0 rfl rfl rfl dX9_parts_56 (fun M56 hp56 => ?_)
            obtain rfl := hp56
            refine r_aload_n (pc := 59) X rfl dX9_parts_59 ?_
            refine gt_X9_157 (pc := 60) X mW_0 rfl dX9_parts_60 ?_
            refine bk_top jff10 ?_
            refine r_if_ne (pc := 63) X 70 (by decide) dX9_parts_63 (fun q63 => ?_) (fun q63 => ?_)
            · skip
              refine r_iconst (pc := 70) (v := 0) X rfl dX9_parts_70 ?_
              refine r_istore_n (pc := 71) X rfl rfl dX9_parts_71 ?_
              refine r_goto (pc := 72) X 14 (by decide) dX9_parts_72 ?_
              first | exact absurd rfl q50 | exact t14 _ _ _ _ _ _ (by rw [e1, jrd_s2 (bi_0.mp q29) (by omega) (bi_n0.mp q63)]) (by rw [e2, jrd_s2 (bi_0.mp q29) (by omega) (bi_n0.mp q63)]; exact nI_1 i) | (have hz0 := bi_0.mp q63; have h8 := jsg_ok hz0; have h9 := (jpx_ok (bi_0.mp q29)).2.1; have h10 : (jsg t len 59 (jpx t len x)).1 = (jpx t len x).1 + 1 := (by rw [h8.2.1]); exact ih (i + 1) _ _ _ _ _ _ hz0 (by omega) (by omega) (by rw [e1, jrd_s3 (bi_0.mp q29) (by omega) hz0]) (by rw [e2, jrd_s3 (bi_0.mp q29) (by omega) hz0]; simp only [List.length_cons]; omega) (nI_1 i))
            · skip
              refine r_iconst (pc := 66) (v := 1) X rfl dX9_parts_66 ?_
              refine r_goto (pc := 67) X 71 (by decide) dX9_parts_67 ?_
              refine r_istore_n (pc := 71) X rfl rfl dX9_parts_71 ?_
              refine r_goto (pc := 72) X 14 (by decide) dX9_parts_72 ?_
              first | exact absurd rfl q50 | exact t14 _ _ _ _ _ _ (by rw [e1, jrd_s2 (bi_0.mp q29) (by omega) (bi_n0.mp q63)]) (by rw [e2, jrd_s2 (bi_0.mp q29) (by omega) (bi_n0.mp q63)]; exact nI_1 i) | (have hz0 := bi_0.mp q63; have h8 := jsg_ok hz0; have h9 := (jpx_ok (bi_0.mp q29)).2.1; have h10 : (jsg t len 59 (jpx t len x)).1 = (jpx t len x).1 + 1 := (by rw [h8.2.1]); exact ih (i + 1) _ _ _ _ _ _ hz0 (by omega) (by omega) (by rw [e1, jrd_s3 (bi_0.mp q29) (by omega) hz0]) (by rw [e2, jrd_s3 (bi_0.mp q29) (by omega) hz0]; simp only [List.length_cons]; omega) (nI_1 i))
  exact lp14 61 0 0 (0, false) _ _ _ _ rfl (Nat.zero_le _) (by show len - 0 < 61; omega) rfl (by rw [Nat.zero_add]; rfl) rfl

set_option maxHeartbeats 4000000 in
set_option maxRecDepth 100000 in
theorem c_X9_fault {G : bkG} {Z : Nat → Prop} {M : bkM} {r : Nat} {s a p q t o f : Nat → Int32} {len : Nat} (h7 : f 7 = nI len) (h60 : len ≤ 60) : bkCi G Z Z yX9_fault cX9_fault 1 (some .int) 5 0 0 [.ref r] (mW G M r s a p q t o f) (fun z M' => z = jfault t len ∧ ∃ l' u' v' w', M' = (mW G M r s a p q t o (jff f (jRd t len).1 l' u' v' w'))) := by
  refine bk_meti [some (.ref r)] rfl pf_X9_fault rfl rfl (fun E X K => ?_)
  refine r_aload_n (pc := 0) X rfl dX9_fault_0 ?_
  refine ca_X9_191 (pc := 1) X (c_X9_parts h7 h60) mW_0 rfl rfl rfl dX9_fault_1 (fun r1 M1 hp1 => ?_)
  obtain ⟨rfl, l, u, v, w, rfl⟩ := hp1
  refine r_if_ge (pc := 4) X 14 (by decide) dX9_fault_4 (fun q4 => ?_) (fun q4 => ?_)
  · skip
    have hz : (jRd t len).1.2 = false := by
      cases hz : (jRd t len).1.2
      · rfl
      · rw [hz, if_pos rfl] at q4; exact absurd q4 (by decide)
    refine r_bipush (pc := 14) (v := (-5)) X rfl dX9_fault_14 ?_
    exact K dX9_fault_16 ⟨by unfold jfault; rw [hz]; rfl, l, u, v, w, rfl⟩
  · skip
    have hz : (jRd t len).1.2 = true := by
      cases hz : (jRd t len).1.2
      · rw [hz, if_neg (by decide)] at q4; exact absurd (nI_pos' (by have := jrd_len t len 61 (0, false); unfold jRd; omega)) q4
      · rfl
    refine r_aload_n (pc := 7) X rfl dX9_fault_7 ?_
    refine gt_X9_154 (pc := 8) X mW_0 rfl dX9_fault_8 ?_
    refine bk_top jff9 ?_
    refine r_goto (pc := 11) X 16 (by decide) dX9_fault_11 ?_
    exact K dX9_fault_16 ⟨by unfold jfault; rw [hz]; rfl, l, u, v, w, rfl⟩

set_option maxHeartbeats 4000000 in
set_option maxRecDepth 100000 in
theorem c_X9_does {G : bkG} {Z : Nat → Prop} {M : bkM} {r : Nat} {s a p q t o f : Nat → Int32} {x : JX} {l u v w : Int32} {n : Nat} (hw : jwf s n) (hl : l = 114 ∨ l = 115 ∨ l = 104 ∨ (l = 100 ∧ ∃ k, k < 4 ∧ u = nI k)) : bkCi G Z Z yX9_does cX9_does 4 (some .int) 8 0 0 [.ref r] (mW G M r s a p q t o (jff f x l u v w)) (fun z M' => z = (jdo s l u v w).1 ∧ ∃ o', M' = (mW G M r ((jdo s l u v w).2) a p q t o' (jff f x l u v w))) := by
  refine bk_meti [some (.ref r), none, none, none] rfl pf_X9_does rfl rfl (fun E X K => ?_)
  have tA : l = 114 → 0 ≤ jbr u → bkV E G Z 0 0 (mW G M r s a p q t o (jff f x l u v w)) 79 [some (.ref r), some (.int (jbr u)), none, none] [.int l] := by
    intro el qb
    subst el
    obtain ⟨cn, hcn, rfl⟩ := jbr_in qb
    have tcn : tn (nI cn) = cn := tn_nI (by omega)
    have ed : jdo s 114 (nI cn) v w = (0, upd s cn (1 - s cn)) := by rw [jdo_n (by rw [jba_r]; exact qb), jd2_r, tcn]
    refine r_lookup (pc := 79) X 112 rfl rfl (by decide) dX9_does_79 ?_
    refine r_aload_n (pc := 112) X rfl dX9_does_112 ?_
    refine gt_X9_7 (pc := 113) X mW_0 rfl dX9_does_113 ?_
    refine r_iconst (pc := 116) (v := 0) X rfl dX9_does_116 ?_
    refine r_aload_n (pc := 117) X rfl dX9_does_117 ?_
    refine gt_X9_173 (pc := 118) X mW_0 rfl dX9_does_118 ?_
    refine bk_top jff12 ?_
    refine r_iadd (pc := 121) X dX9_does_121 ?_
    refine r_iconst (pc := 122) (v := 1) X rfl dX9_does_122 ?_
    refine r_aload_n (pc := 123) X rfl dX9_does_123 ?_
    refine gt_X9_7 (pc := 124) X mW_0 rfl dX9_does_124 ?_
    refine r_iconst (pc := 127) (v := 0) X rfl dX9_does_127 ?_
    refine r_aload_n (pc := 128) X rfl dX9_does_128 ?_
    refine gt_X9_173 (pc := 129) X mW_0 rfl dX9_does_129 ?_
    refine bk_top jff12 ?_
    refine r_iadd (pc := 132) X dX9_does_132 ?_
    refine r_iald (pc := 133) X mW_1 (cn) (Int32.zero_add _) (by omega) (by decide) dX9_does_133 ?_
    refine r_isub (pc := 134) X dX9_does_134 ?_
    refine r_iast (pc := 135) X mW_1 (cn) (Int32.zero_add _) (by omega) (by decide) dX9_does_135 ?_
    refine bkV.eq mS_1 ?_
    refine r_goto (pc := 136) X 193 (by decide) dX9_does_136 ?_
    refine r_iconst (pc := 193) (v := 0) X rfl dX9_does_193 ?_
    exact K dX9_does_194 ⟨by rw [ed], _, by rw [ed]⟩
  have tB : l = 115 → 0 ≤ jbs s n u v w → bkV E G Z 0 0 (mW G M r s a p q t o (jff f x l u v w)) 79 [some (.ref r), some (.int (jbs s n u v w)), none, none] [.int l] := by
    intro el qb
    subst el
    have hn8 := (jbs_wf hw qb).1
    have ed : jdo s 115 u v w = (0, jcm s n u v w) := by rw [jdo_n (by rw [jba_s, hw.tn]; exact qb), jd2_s, hw.tn]
    refine r_lookup (pc := 79) X 139 rfl rfl (by decide) dX9_does_79 ?_
    refine r_aload_n (pc := 139) X rfl dX9_does_139 ?_
    refine r_aload_n (pc := 140) X rfl dX9_does_140 ?_
    refine gt_X9_173 (pc := 141) X mW_0 rfl dX9_does_141 ?_
    refine bk_top jff12 ?_
    refine r_aload_n (pc := 144) X rfl dX9_does_144 ?_
    refine gt_X9_182 (pc := 145) X mW_0 rfl dX9_does_145 ?_
    refine bk_top jff13 ?_
    refine r_aload_n (pc := 148) X rfl dX9_does_148 ?_
    refine gt_X9_185 (pc := 149) X mW_0 rfl dX9_does_149 ?_
    refine bk_top jff14 ?_
    refine ca_X9_110 (pc := 152) X (c_X9_comes hn8 hw.2.1 u v w) mW_0 rfl rfl rfl dX9_does_152 (fun r152 M152 hp152 => ?_)
    obtain ⟨rfl, rfl⟩ := hp152
    refine r_istore_n (pc := 155) X rfl rfl dX9_does_155 ?_
    refine r_goto (pc := 156) X 193 (by decide) dX9_does_156 ?_
    refine r_iconst (pc := 193) (v := 0) X rfl dX9_does_193 ?_
    exact K dX9_does_194 ⟨by rw [ed], _, by rw [ed]⟩
  have tC : l = 104 → 0 ≤ jbp s u → bkV E G Z 0 0 (mW G M r s a p q t o (jff f x l u v w)) 79 [some (.ref r), some (.int (jbp s u)), none, none] [.int l] := by
    intro el qb
    subst el
    obtain ⟨hn, h1, h2, rfl⟩ := jbp_in qb
    have thn : tn (nI hn) = hn := tn_nI (by omega)
    have ed : jdo s 104 (nI hn) v w = (0, jhrs s n hn) := by rw [jdo_n (by rw [jba_h]; exact qb), jd2_h, hw.tn, thn]
    refine r_lookup (pc := 79) X 184 rfl rfl (by decide) dX9_does_79 ?_
    refine r_aload_n (pc := 184) X rfl dX9_does_184 ?_
    refine r_aload_n (pc := 185) X rfl dX9_does_185 ?_
    refine gt_X9_173 (pc := 186) X mW_0 rfl dX9_does_186 ?_
    refine bk_top jff12 ?_
    refine ca_X9_138 (pc := 189) X (c_X9_passes hw hn (by omega)) mW_0 rfl rfl rfl dX9_does_189 (fun r189 M189 hp189 => ?_)
    obtain ⟨rfl, o2, rfl⟩ := hp189
    refine r_istore_n (pc := 192) X rfl rfl dX9_does_192 ?_
    refine r_iconst (pc := 193) (v := 0) X rfl dX9_does_193 ?_
    exact K dX9_does_194 ⟨by rw [ed], _, by rw [ed]⟩
  have tD : l = 100 → bkV E G Z 0 0 (mW G M r s a p q t o (jff f x l u v w)) 79 [some (.ref r), some (.int (0)), none, none] [.int l] := by
    intro el
    subst el
    obtain ⟨k, hk, rfl⟩ : ∃ k, k < 4 ∧ u = nI k := by
      rcases hl with z | z | z | z
      · exact absurd z (by decide)
      · exact absurd z (by decide)
      · exact absurd z (by decide)
      · exact z.2
    have tk : tn (nI k) = k := tn_nI (by omega)
    have ed : jdo s 100 (nI k) v w = (0, upd s (100 + 5 * k + 3) (s (100 + 5 * k + 3) ^^^ ((1 : Int32) <<< (v &&& 31)))) := by rw [jdo_n (by rw [jba_d]; decide), jd2_d, tk]
    refine r_lookup (pc := 79) X 159 rfl rfl (by decide) dX9_does_79 ?_
    refine r_aload_n (pc := 159) X rfl dX9_does_159 ?_
    refine gt_X9_7 (pc := 160) X mW_0 rfl dX9_does_160 ?_
    refine r_aload_n (pc := 163) X rfl dX9_does_163 ?_
    refine gt_X9_173 (pc := 164) X mW_0 rfl dX9_does_164 ?_
    refine bk_top jff12 ?_
    refine r_iconst (pc := 167) (v := 3) X rfl dX9_does_167 ?_
    refine ca_X9_29 (pc := 168) X (c_X9_ofL k 3) rfl rfl rfl dX9_does_168 (fun r168 M168 hp168 => ?_)
    obtain ⟨rfl, rfl⟩ := hp168
    refine r_dup2 (pc := 171) X rfl rfl dX9_does_171 ?_
    refine r_iald (pc := 172) X mW_1 (100 + 5 * k + 3) rfl (by omega) (by decide) dX9_does_172 ?_
    refine r_iconst (pc := 173) (v := 1) X rfl dX9_does_173 ?_
    refine r_aload_n (pc := 174) X rfl dX9_does_174 ?_
    refine gt_X9_182 (pc := 175) X mW_0 rfl dX9_does_175 ?_
    refine bk_top jff13 ?_
    refine r_ishl (pc := 178) X dX9_does_178 ?_
    refine r_ixor (pc := 179) X dX9_does_179 ?_
    refine r_iast (pc := 180) X mW_1 (100 + 5 * k + 3) rfl (by omega) (by decide) dX9_does_180 ?_
    refine bkV.eq mS_1 ?_
    refine r_goto (pc := 181) X 193 (by decide) dX9_does_181 ?_
    refine r_iconst (pc := 193) (v := 0) X rfl dX9_does_193 ?_
    exact K dX9_does_194 ⟨by rw [ed], _, by rw [ed]⟩
  refine r_aload_n (pc := 0) X rfl dX9_does_0 ?_
  refine gt_X9_167 (pc := 1) X mW_0 rfl dX9_does_1 ?_
  refine bk_top jff11 ?_
  refine r_bipush (pc := 4) (v := 114) X rfl dX9_does_4 ?_
  refine r_icmp_ne (pc := 6) X 19 (by decide) dX9_does_6 (fun q6 => ?_) (fun q6 => ?_)
  · skip
    refine r_aload_n (pc := 19) X rfl dX9_does_19 ?_
    refine gt_X9_167 (pc := 20) X mW_0 rfl dX9_does_20 ?_
    refine bk_top jff11 ?_
    refine r_bipush (pc := 23) (v := 115) X rfl dX9_does_23 ?_
    refine r_icmp_ne (pc := 25) X 47 (by decide) dX9_does_25 (fun q25 => ?_) (fun q25 => ?_)
    · skip
      refine r_aload_n (pc := 47) X rfl dX9_does_47 ?_
      refine gt_X9_167 (pc := 48) X mW_0 rfl dX9_does_48 ?_
      refine bk_top jff11 ?_
      refine r_bipush (pc := 51) (v := 104) X rfl dX9_does_51 ?_
      refine r_icmp_ne (pc := 53) X 67 (by decide) dX9_does_53 (fun q53 => ?_) (fun q53 => ?_)
      · skip
        refine r_iconst (pc := 67) (v := 0) X rfl dX9_does_67 ?_
        refine r_istore_n (pc := 68) X rfl rfl dX9_does_68 ?_
        refine r_iload_n (pc := 69) X rfl dX9_does_69 ?_
        refine r_if_ge (pc := 70) X 75 (by decide) dX9_does_70 (fun q70 => ?_) (fun q70 => ?_)
        · skip
          refine r_aload_n (pc := 75) X rfl dX9_does_75 ?_
          refine gt_X9_167 (pc := 76) X mW_0 rfl dX9_does_76 ?_
          refine bk_top jff11 ?_
          first | exact tA q6 q70 | exact tB q25 q70 | exact tC q53 q70 | (refine tD ?_; rcases hl with z | z | z | z; exact absurd z q6; exact absurd z q25; exact absurd z q53; exact z.1)
        · skip
          have ed : ∃ z, jbar s l u v w = z ∧ ¬ 0 ≤ z ∧ jdo s l u v w = (z, s) := by
            refine ⟨_, rfl, ?_⟩
            have h9 : ¬ 0 ≤ jbar s l u v w := by
              clear K X tA tB tC tD
              unfold jbar
              rw [hw.tn]
              grind
            exact ⟨h9, jdo_b h9⟩
          obtain ⟨z, ez, -, ed⟩ := ed
          unfold jbar at ez
          rw [hw.tn] at ez
          refine r_iload_n (pc := 73) X rfl dX9_does_73 ?_
          exact K dX9_does_74 ⟨by rw [ed]; clear K X tA tB tC tD; grind, o, by rw [ed]⟩
      · skip
        refine r_aload_n (pc := 56) X rfl dX9_does_56 ?_
        refine r_aload_n (pc := 57) X rfl dX9_does_57 ?_
        refine gt_X9_173 (pc := 58) X mW_0 rfl dX9_does_58 ?_
        refine bk_top jff12 ?_
        refine ca_X9_135 (pc := 61) X (c_X9_barPass u) mW_0 rfl rfl rfl dX9_does_61 (fun r61 M61 hp61 => ?_)
        obtain ⟨rfl, rfl⟩ := hp61
        refine r_goto (pc := 64) X 68 (by decide) dX9_does_64 ?_
        refine r_istore_n (pc := 68) X rfl rfl dX9_does_68 ?_
        refine r_iload_n (pc := 69) X rfl dX9_does_69 ?_
        refine r_if_ge (pc := 70) X 75 (by decide) dX9_does_70 (fun q70 => ?_) (fun q70 => ?_)
        · skip
          refine r_aload_n (pc := 75) X rfl dX9_does_75 ?_
          refine gt_X9_167 (pc := 76) X mW_0 rfl dX9_does_76 ?_
          refine bk_top jff11 ?_
          first | exact tA q6 q70 | exact tB q25 q70 | exact tC q53 q70 | (refine tD ?_; rcases hl with z | z | z | z; exact absurd z q6; exact absurd z q25; exact absurd z q53; exact z.1)
        · skip
          have ed : ∃ z, jbar s l u v w = z ∧ ¬ 0 ≤ z ∧ jdo s l u v w = (z, s) := by
            refine ⟨_, rfl, ?_⟩
            have h9 : ¬ 0 ≤ jbar s l u v w := by
              clear K X tA tB tC tD
              unfold jbar
              rw [hw.tn]
              grind
            exact ⟨h9, jdo_b h9⟩
          obtain ⟨z, ez, -, ed⟩ := ed
          unfold jbar at ez
          rw [hw.tn] at ez
          refine r_iload_n (pc := 73) X rfl dX9_does_73 ?_
          exact K dX9_does_74 ⟨by rw [ed]; clear K X tA tB tC tD; grind, o, by rw [ed]⟩
    · skip
      refine r_aload_n (pc := 28) X rfl dX9_does_28 ?_
      refine r_aload_n (pc := 29) X rfl dX9_does_29 ?_
      refine gt_X9_173 (pc := 30) X mW_0 rfl dX9_does_30 ?_
      refine bk_top jff12 ?_
      refine r_aload_n (pc := 33) X rfl dX9_does_33 ?_
      refine gt_X9_182 (pc := 34) X mW_0 rfl dX9_does_34 ?_
      refine bk_top jff13 ?_
      refine r_aload_n (pc := 37) X rfl dX9_does_37 ?_
      refine gt_X9_185 (pc := 38) X mW_0 rfl dX9_does_38 ?_
      refine bk_top jff14 ?_
      refine ca_X9_106 (pc := 41) X (c_X9_barShip hw.1 hw.2.1 u v w) mW_0 rfl rfl rfl dX9_does_41 (fun r41 M41 hp41 => ?_)
      obtain ⟨rfl, rfl⟩ := hp41
      refine r_goto (pc := 44) X 68 (by decide) dX9_does_44 ?_
      refine r_istore_n (pc := 68) X rfl rfl dX9_does_68 ?_
      refine r_iload_n (pc := 69) X rfl dX9_does_69 ?_
      refine r_if_ge (pc := 70) X 75 (by decide) dX9_does_70 (fun q70 => ?_) (fun q70 => ?_)
      · skip
        refine r_aload_n (pc := 75) X rfl dX9_does_75 ?_
        refine gt_X9_167 (pc := 76) X mW_0 rfl dX9_does_76 ?_
        refine bk_top jff11 ?_
        first | exact tA q6 q70 | exact tB q25 q70 | exact tC q53 q70 | (refine tD ?_; rcases hl with z | z | z | z; exact absurd z q6; exact absurd z q25; exact absurd z q53; exact z.1)
      · skip
        have ed : ∃ z, jbar s l u v w = z ∧ ¬ 0 ≤ z ∧ jdo s l u v w = (z, s) := by
          refine ⟨_, rfl, ?_⟩
          have h9 : ¬ 0 ≤ jbar s l u v w := by
            clear K X tA tB tC tD
            unfold jbar
            rw [hw.tn]
            grind
          exact ⟨h9, jdo_b h9⟩
        obtain ⟨z, ez, -, ed⟩ := ed
        unfold jbar at ez
        rw [hw.tn] at ez
        refine r_iload_n (pc := 73) X rfl dX9_does_73 ?_
        exact K dX9_does_74 ⟨by rw [ed]; clear K X tA tB tC tD; grind, o, by rw [ed]⟩
  · skip
    refine r_aload_n (pc := 9) X rfl dX9_does_9 ?_
    refine gt_X9_173 (pc := 10) X mW_0 rfl dX9_does_10 ?_
    refine bk_top jff12 ?_
    refine ca_X9_84 (pc := 13) X (c_X9_barRock u) rfl rfl rfl dX9_does_13 (fun r13 M13 hp13 => ?_)
    obtain ⟨rfl, rfl⟩ := hp13
    refine r_goto (pc := 16) X 68 (by decide) dX9_does_16 ?_
    refine r_istore_n (pc := 68) X rfl rfl dX9_does_68 ?_
    refine r_iload_n (pc := 69) X rfl dX9_does_69 ?_
    refine r_if_ge (pc := 70) X 75 (by decide) dX9_does_70 (fun q70 => ?_) (fun q70 => ?_)
    · skip
      refine r_aload_n (pc := 75) X rfl dX9_does_75 ?_
      refine gt_X9_167 (pc := 76) X mW_0 rfl dX9_does_76 ?_
      refine bk_top jff11 ?_
      first | exact tA q6 q70 | exact tB q25 q70 | exact tC q53 q70 | (refine tD ?_; rcases hl with z | z | z | z; exact absurd z q6; exact absurd z q25; exact absurd z q53; exact z.1)
    · skip
      have ed : ∃ z, jbar s l u v w = z ∧ ¬ 0 ≤ z ∧ jdo s l u v w = (z, s) := by
        refine ⟨_, rfl, ?_⟩
        have h9 : ¬ 0 ≤ jbar s l u v w := by
          clear K X tA tB tC tD
          unfold jbar
          rw [hw.tn]
          grind
        exact ⟨h9, jdo_b h9⟩
      obtain ⟨z, ez, -, ed⟩ := ed
      unfold jbar at ez
      rw [hw.tn] at ez
      refine r_iload_n (pc := 73) X rfl dX9_does_73 ?_
      exact K dX9_does_74 ⟨by rw [ed]; clear K X tA tB tC tD; grind, o, by rw [ed]⟩

