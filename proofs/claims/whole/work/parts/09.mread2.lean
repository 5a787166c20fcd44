set_option maxHeartbeats 4000000 in
set_option maxRecDepth 100000 in
theorem c_X9_litBy {G : bkG} {Z : Nat → Prop} {M : bkM} {r : Nat} {s a p q t o f : Nat → Int32} (l c : Nat) (hl : l < 4) (hc : c < 100) : bkCi G Z Z yX9_litBy cX9_litBy 3 (some .boolean) 3 0 0 [.ref r, .int (nI l), .int (nI c)] (mW G M r s a p q t o f) (fun v M' => v = bi (jlb s l c) ∧ M' = (mW G M r s a p q t o f)) := by
  refine bk_metz [some (.ref r), some (.int (nI l)), some (.int (nI c))] rfl pf_X9_litBy rfl rfl (fun E X K => ?_)
  refine r_aload_n (pc := 0) X rfl dX9_litBy_0 ?_
  refine r_iload_n (pc := 1) X rfl dX9_litBy_1 ?_
  refine r_iload_n (pc := 2) X rfl dX9_litBy_2 ?_
  refine r_aload_n (pc := 3) X rfl dX9_litBy_3 ?_
  refine gt_X9_7 (pc := 4) X mW_0 rfl dX9_litBy_4 ?_
  refine r_sipush (pc := 7) (v := 181) X rfl dX9_litBy_7 ?_
  refine r_iald (pc := 10) X mW_1 (181) rfl (by omega) (by decide) dX9_litBy_10 ?_
  refine r_aload_n (pc := 11) X rfl dX9_litBy_11 ?_
  refine gt_X9_7 (pc := 12) X mW_0 rfl dX9_litBy_12 ?_
  refine r_iload_n (pc := 15) X rfl dX9_litBy_15 ?_
  refine r_iconst (pc := 16) (v := 4) X rfl dX9_litBy_16 ?_
  refine ca_X9_29 (pc := 17) X (c_X9_ofL l 4) rfl rfl rfl dX9_litBy_17 (fun r17 M17 hp17 => ?_)
  obtain ⟨rfl, rfl⟩ := hp17
  refine r_iald (pc := 20) X mW_1 (100 + 5 * l + 4) rfl (by omega) (by decide) dX9_litBy_20 ?_
  refine ca_X9_70 (pc := 21) X (c_X9_lights l c hl hc (s 181) (s (100 + 5 * l + 4))) mW_0 rfl rfl rfl dX9_litBy_21 (fun r21 M21 hp21 => ?_)
  obtain ⟨rfl, rfl⟩ := hp21
  exact K dX9_litBy_24 (bi_01 _) ⟨rfl, rfl⟩

set_option maxHeartbeats 4000000 in
set_option maxRecDepth 100000 in
theorem c_X9_lightsOn {G : bkG} {Z : Nat → Prop} {M : bkM} {r : Nat} {s a p q t o f : Nat → Int32} (c : Nat) (hc : c < 100) : bkCi G Z Z yX9_lightsOn cX9_lightsOn 4 (some .int) 4 0 0 [.ref r, .int (nI c)] (mW G M r s a p q t o f) (fun v M' => v = jlon s c ∧ M' = (mW G M r s a p q t o f)) := by
  refine bk_meti [some (.ref r), some (.int (nI c)), none, none] rfl pf_X9_lightsOn rfl rfl (fun E X K => ?_)
  refine r_iconst (pc := 0) (v := 0) X rfl dX9_lightsOn_0 ?_
  refine r_istore_n (pc := 1) X rfl rfl dX9_lightsOn_1 ?_
  refine r_iconst (pc := 2) (v := 0) X rfl dX9_lightsOn_2 ?_
  refine r_istore_n (pc := 3) X rfl rfl dX9_lightsOn_3 ?_
  have lp4 : ∀ (d j : Nat) (x : Int32) (y : Int32), j ≤ 4 → 4 < j + d → x = jlonA s c j → y = nI j → bkV E G Z 0 0 (mW G M r s a p q t o f) 4 [some (.ref r), some (.int (nI c)), some (.int x), some (.int y)] [] := by
    intro d
    induction d with
    | zero => intro j x y; intros; exfalso; omega
    | succ d ih =>
      intro j x y hj hd e1 e2
      subst e1
      subst e2
      refine r_iload_n (pc := 4) X rfl dX9_lightsOn_4 ?_
      refine r_iconst (pc := 5) (v := 4) X rfl dX9_lightsOn_5 ?_
      refine r_icmpN_ge (pc := 6) X 34 (j) (4) rfl rfl (by omega) (by omega) (by decide) dX9_lightsOn_6 (fun q6 => ?_) (fun q6 => ?_)
      · skip
        refine r_iload_n (pc := 34) X rfl dX9_lightsOn_34 ?_
        exact K dX9_lightsOn_35 ⟨by rw [show j = 4 by omega]; rfl, rfl⟩
      · skip
        refine r_iload_n (pc := 9) X rfl dX9_lightsOn_9 ?_
        refine r_aload_n (pc := 10) X rfl dX9_lightsOn_10 ?_
        refine r_iload_n (pc := 11) X rfl dX9_lightsOn_11 ?_
        refine r_iload_n (pc := 12) X rfl dX9_lightsOn_12 ?_
        refine ca_X9_74 (pc := 13) X (c_X9_litBy j c (by omega) hc) mW_0 rfl rfl rfl dX9_lightsOn_13 (fun r13 M13 hp13 => ?_)
        obtain ⟨rfl, rfl⟩ := hp13
        refine r_if_eq (pc := 16) X 25 (by decide) dX9_lightsOn_16 (fun q16 => ?_) (fun q16 => ?_)
        · skip
          refine r_iconst (pc := 25) (v := 0) X rfl dX9_lightsOn_25 ?_
          refine r_ior (pc := 26) X dX9_lightsOn_26 ?_
          refine r_istore_n (pc := 27) X rfl rfl dX9_lightsOn_27 ?_
          refine r_iinc (pc := 28) X rfl rfl rfl dX9_lightsOn_28 ?_
          refine r_goto (pc := 31) X 4 (by decide) dX9_lightsOn_31 ?_
          refine ih (j + 1) _ _ (by omega) (by omega) ?_ (nI_1 j)
          first | rw [bi_0] at q16 | rw [bi_n0] at q16
          simp [jlonA, q16]
        · skip
          refine r_iconst (pc := 19) (v := 1) X rfl dX9_lightsOn_19 ?_
          refine r_iload_n (pc := 20) X rfl dX9_lightsOn_20 ?_
          refine r_ishl (pc := 21) X dX9_lightsOn_21 ?_
          refine r_goto (pc := 22) X 26 (by decide) dX9_lightsOn_22 ?_
          refine r_ior (pc := 26) X dX9_lightsOn_26 ?_
          refine r_istore_n (pc := 27) X rfl rfl dX9_lightsOn_27 ?_
          refine r_iinc (pc := 28) X rfl rfl rfl dX9_lightsOn_28 ?_
          refine r_goto (pc := 31) X 4 (by decide) dX9_lightsOn_31 ?_
          refine ih (j + 1) _ _ (by omega) (by omega) ?_ (nI_1 j)
          first | rw [bi_0] at q16 | rw [bi_n0] at q16
          simp [jlonA, q16]
  exact lp4 (4 + 1) 0 _ _ (by omega) (by omega) rfl rfl

set_option maxHeartbeats 4000000 in
set_option maxRecDepth 100000 in
theorem c_X9_nearest {G : bkG} {Z : Nat → Prop} {M : bkM} (c : Nat) (hc : c < 100) : bkCi G Z Z yX9_nearest cX9_nearest 3 (some .int) 2 0 0 [.int (nI c)] M (fun v M' => v = nI (jnr c) ∧ M' = M) := by
  refine bk_meti [some (.int (nI c)), none, none] rfl pf_X9_nearest rfl rfl (fun E X K => ?_)
  refine r_iconst (pc := 0) (v := 0) X rfl dX9_nearest_0 ?_
  refine r_istore_n (pc := 1) X rfl rfl dX9_nearest_1 ?_
  refine r_iconst (pc := 2) (v := 1) X rfl dX9_nearest_2 ?_
  refine r_istore_n (pc := 3) X rfl rfl dX9_nearest_3 ?_
  have lp4 : ∀ (d j : Nat) (x : Int32) (y : Int32), j ≤ 3 → 3 < j + d → x = nI (jnrA c j) → y = nI (j + 1) → bkV E G Z 0 0 M 4 [some (.int (nI c)), some (.int x), some (.int y)] [] := by
    intro d
    induction d with
    | zero => intro j x y; intros; exfalso; omega
    | succ d ih =>
      intro j x y hj hd e1 e2
      subst e1
      subst e2
      refine r_iload_n (pc := 4) X rfl dX9_nearest_4 ?_
      refine r_iconst (pc := 5) (v := 4) X rfl dX9_nearest_5 ?_
      refine r_icmpN_ge (pc := 6) X 40 (j + 1) (4) rfl rfl (by omega) (by omega) (by decide) dX9_nearest_6 (fun q6 => ?_) (fun q6 => ?_)
      · skip
        refine r_iload_n (pc := 40) X rfl dX9_nearest_40 ?_
        exact K dX9_nearest_41 ⟨by rw [show j = 3 by omega]; rfl, rfl⟩
      · skip
        refine r_iload_n (pc := 9) X rfl dX9_nearest_9 ?_
        refine ca_X9_54 (pc := 10) X (c_X9_home (j + 1) (by omega)) rfl rfl rfl dX9_nearest_10 (fun r10 M10 hp10 => ?_)
        obtain ⟨rfl, rfl⟩ := hp10
        refine r_iload_n (pc := 13) X rfl dX9_nearest_13 ?_
        refine ca_X9_67 (pc := 14) X (c_X9_distance (jhm (j + 1)) c (jhm_lt _) hc) rfl rfl rfl dX9_nearest_14 (fun r14 M14 hp14 => ?_)
        obtain ⟨rfl, rfl⟩ := hp14
        refine r_iload_n (pc := 17) X rfl dX9_nearest_17 ?_
        refine ca_X9_54 (pc := 18) X (c_X9_home (jnrA c j) (by have := jnrA_le c j; omega)) rfl rfl rfl dX9_nearest_18 (fun r18 M18 hp18 => ?_)
        obtain ⟨rfl, rfl⟩ := hp18
        refine r_iload_n (pc := 21) X rfl dX9_nearest_21 ?_
        refine ca_X9_67 (pc := 22) X (c_X9_distance (jhm (jnrA c j)) c (jhm_lt _) hc) rfl rfl rfl dX9_nearest_22 (fun r22 M22 hp22 => ?_)
        obtain ⟨rfl, rfl⟩ := hp22
        refine r_icmp_ge (pc := 25) X 32 (by decide) dX9_nearest_25 (fun q25 => ?_) (fun q25 => ?_)
        · skip
          refine r_iload_n (pc := 32) X rfl dX9_nearest_32 ?_
          refine r_istore_n (pc := 33) X rfl rfl dX9_nearest_33 ?_
          refine r_iinc (pc := 34) X rfl rfl rfl dX9_nearest_34 ?_
          refine r_goto (pc := 37) X 4 (by decide) dX9_nearest_37 ?_
          refine ih (j + 1) _ _ (by omega) (by omega) ?_ (nI_1 (j + 1))
          show _ = nI (if _ then _ else _)
          first | rw [if_neg (Int32.not_lt.mpr q25)] | rw [if_pos (Int32.not_le.mp q25)]
        · skip
          refine r_iload_n (pc := 28) X rfl dX9_nearest_28 ?_
          refine r_goto (pc := 29) X 33 (by decide) dX9_nearest_29 ?_
          refine r_istore_n (pc := 33) X rfl rfl dX9_nearest_33 ?_
          refine r_iinc (pc := 34) X rfl rfl rfl dX9_nearest_34 ?_
          refine r_goto (pc := 37) X 4 (by decide) dX9_nearest_37 ?_
          refine ih (j + 1) _ _ (by omega) (by omega) ?_ (nI_1 (j + 1))
          show _ = nI (if _ then _ else _)
          first | rw [if_neg (Int32.not_lt.mpr q25)] | rw [if_pos (Int32.not_le.mp q25)]
  exact lp4 (3 + 1) 0 _ _ (by omega) (by omega) rfl rfl

set_option maxHeartbeats 4000000 in
set_option maxRecDepth 100000 in
theorem c_X9_rocks {G : bkG} {Z : Nat → Prop} {M : bkM} {r : Nat} {s a p q t o f : Nat → Int32} : bkCi G Z Z yX9_rocks cX9_rocks 3 (some .int) 0 0 0 [.ref r] (mW G M r s a p q t o f) (fun v M' => v = jsm s 100 ∧ M' = (mW G M r s a p q t o f)) := by
  refine bk_meti [some (.ref r), none, none] rfl pf_X9_rocks rfl rfl (fun E X K => ?_)
  refine r_iconst (pc := 0) (v := 0) X rfl dX9_rocks_0 ?_
  refine r_istore_n (pc := 1) X rfl rfl dX9_rocks_1 ?_
  refine r_iconst (pc := 2) (v := 0) X rfl dX9_rocks_2 ?_
  refine r_istore_n (pc := 3) X rfl rfl dX9_rocks_3 ?_
  have lp4 : ∀ (d j : Nat) (x : Int32) (y : Int32), j ≤ 100 → 100 < j + d → x = jsm s j → y = nI j → bkV E G Z 0 0 (mW G M r s a p q t o f) 4 [some (.ref r), some (.int x), some (.int y)] [] := by
    intro d
    induction d with
    | zero => intro j x y; intros; exfalso; omega
    | succ d ih =>
      intro j x y hj hd e1 e2
      subst e1
      subst e2
      refine r_iload_n (pc := 4) X rfl dX9_rocks_4 ?_
      refine r_bipush (pc := 5) (v := 100) X rfl dX9_rocks_5 ?_
      refine r_icmpN_ge (pc := 7) X 27 (j) (100) rfl rfl (by omega) (by omega) (by decide) dX9_rocks_7 (fun q7 => ?_) (fun q7 => ?_)
      · skip
        refine r_iload_n (pc := 27) X rfl dX9_rocks_27 ?_
        exact K dX9_rocks_28 ⟨by rw [show j = 100 by omega], rfl⟩
      · skip
        refine r_iload_n (pc := 10) X rfl dX9_rocks_10 ?_
        refine r_aload_n (pc := 11) X rfl dX9_rocks_11 ?_
        refine gt_X9_7 (pc := 12) X mW_0 rfl dX9_rocks_12 ?_
        refine r_iconst (pc := 15) (v := 0) X rfl dX9_rocks_15 ?_
        refine r_iload_n (pc := 16) X rfl dX9_rocks_16 ?_
        refine r_iadd (pc := 17) X dX9_rocks_17 ?_
        refine r_iald (pc := 18) X mW_1 (j) (Int32.zero_add _) (by omega) (by decide) dX9_rocks_18 ?_
        refine r_iadd (pc := 19) X dX9_rocks_19 ?_
        refine r_istore_n (pc := 20) X rfl rfl dX9_rocks_20 ?_
        refine r_iinc (pc := 21) X rfl rfl rfl dX9_rocks_21 ?_
        refine r_goto (pc := 24) X 4 (by decide) dX9_rocks_24 ?_
        exact ih (j + 1) _ _ (by omega) (by omega) rfl (nI_1 j)
  exact lp4 (100 + 1) 0 _ _ (by omega) (by omega) rfl rfl

set_option maxHeartbeats 4000000 in
set_option maxRecDepth 100000 in
theorem c_X9_barRock {G : bkG} {Z : Nat → Prop} {M : bkM} (v : Int32) : bkCi G Z Z yX9_barRock cX9_barRock 1 (some .int) 2 0 0 [.int v] M (fun x M' => x = jbr v ∧ M' = M) := by
  refine bk_meti [some (.int v)] rfl pf_X9_barRock rfl rfl (fun E X K => ?_)
  refine r_iload_n (pc := 0) X rfl dX9_barRock_0 ?_
  refine ca_X9_77 (pc := 1) X (c_X9_isCell v) rfl rfl rfl dX9_barRock_1 (fun r1 M1 hp1 => ?_)
  obtain ⟨rfl, rfl⟩ := hp1
  refine r_if_ne (pc := 4) X 11 (by decide) dX9_barRock_4 (fun q4 => ?_) (fun q4 => ?_)
  · skip
    refine r_iload_n (pc := 11) X rfl dX9_barRock_11 ?_
    refine ca_X9_81 (pc := 12) X (c_X9_isHome v) rfl rfl rfl dX9_barRock_12 (fun r12 M12 hp12 => ?_)
    obtain ⟨rfl, rfl⟩ := hp12
    refine r_if_eq (pc := 15) X 23 (by decide) dX9_barRock_15 (fun q15 => ?_) (fun q15 => ?_)
    · skip
      refine r_iconst (pc := 23) (v := 0) X rfl dX9_barRock_23 ?_
      exact K dX9_barRock_24 ⟨by clear K X; grind [jbr, jhome, bi_0, bi_n0], rfl⟩
    · skip
      refine r_bipush (pc := 18) (v := (-4)) X rfl dX9_barRock_18 ?_
      refine r_goto (pc := 20) X 24 (by decide) dX9_barRock_20 ?_
      exact K dX9_barRock_24 ⟨by clear K X; grind [jbr, jhome, bi_0, bi_n0], rfl⟩
  · skip
    refine r_iconst (pc := 7) (v := (-1)) X rfl dX9_barRock_7 ?_
    refine r_goto (pc := 8) X 24 (by decide) dX9_barRock_8 ?_
    exact K dX9_barRock_24 ⟨by clear K X; grind [jbr, jhome, bi_0, bi_n0], rfl⟩

set_option maxHeartbeats 4000000 in
set_option maxRecDepth 100000 in
theorem c_X9_fits {G : bkG} {Z : Nat → Prop} {M : bkM} (w v : Int32) : bkCi G Z Z yX9_fits cX9_fits 2 (some .boolean) 1 0 0 [.int w, .int v] M (fun x M' => x = bi (jfit w v) ∧ M' = M) := by
  refine bk_metz [some (.int w), some (.int v)] rfl pf_X9_fits rfl rfl (fun E X K => ?_)
  refine r_iload_n (pc := 0) X rfl dX9_fits_0 ?_
  refine r_if_ne (pc := 1) X 14 (by decide) dX9_fits_1 (fun q1 => ?_) (fun q1 => ?_)
  · skip
    refine r_iload_n (pc := 14) X rfl dX9_fits_14 ?_
    refine r_iconst (pc := 15) (v := 1) X rfl dX9_fits_15 ?_
    refine r_icmp_ne (pc := 16) X 28 (by decide) dX9_fits_16 (fun q16 => ?_) (fun q16 => ?_)
    · skip
      refine r_iload_n (pc := 28) X rfl dX9_fits_28 ?_
      refine r_iconst (pc := 29) (v := 2) X rfl dX9_fits_29 ?_
      refine r_icmp_ne (pc := 30) X 43 (by decide) dX9_fits_30 (fun q30 => ?_) (fun q30 => ?_)
      · skip
        refine r_iload_n (pc := 43) X rfl dX9_fits_43 ?_
        refine r_iconst (pc := 44) (v := 3) X rfl dX9_fits_44 ?_
        refine r_icmp_ne (pc := 45) X 63 (by decide) dX9_fits_45 (fun q45 => ?_) (fun q45 => ?_)
        · skip
          refine r_iconst (pc := 63) (v := 0) X rfl dX9_fits_63 ?_
          exact K dX9_fits_64 (by first | exact bi_01 _ | exact Or.inl rfl | exact Or.inr rfl) ⟨by clear K X; grind [jfit, bi, bi_0, bi_n0], rfl⟩
        · skip
          refine r_iload_n (pc := 48) X rfl dX9_fits_48 ?_
          refine r_iconst (pc := 49) (v := 0) X rfl dX9_fits_49 ?_
          refine r_sipush (pc := 50) (v := 255) X rfl dX9_fits_50 ?_
          refine ca_X9_36 (pc := 53) X (c_X9_in v 0 255) rfl rfl rfl dX9_fits_53 (fun r53 M53 hp53 => ?_)
          obtain ⟨rfl, rfl⟩ := hp53
          refine r_if_eq (pc := 56) X 63 (by decide) dX9_fits_56 (fun q56 => ?_) (fun q56 => ?_)
          · skip
            refine r_iconst (pc := 63) (v := 0) X rfl dX9_fits_63 ?_
            exact K dX9_fits_64 (by first | exact bi_01 _ | exact Or.inl rfl | exact Or.inr rfl) ⟨by clear K X; grind [jfit, bi, bi_0, bi_n0], rfl⟩
          · skip
            refine r_iconst (pc := 59) (v := 1) X rfl dX9_fits_59 ?_
            refine r_goto (pc := 60) X 64 (by decide) dX9_fits_60 ?_
            exact K dX9_fits_64 (by first | exact bi_01 _ | exact Or.inl rfl | exact Or.inr rfl) ⟨by clear K X; grind [jfit, bi, bi_0, bi_n0], rfl⟩
      · skip
        refine r_iload_n (pc := 33) X rfl dX9_fits_33 ?_
        refine r_iconst (pc := 34) (v := 1) X rfl dX9_fits_34 ?_
        refine r_bipush (pc := 35) (v := 9) X rfl dX9_fits_35 ?_
        refine ca_X9_36 (pc := 37) X (c_X9_in v 1 9) rfl rfl rfl dX9_fits_37 (fun r37 M37 hp37 => ?_)
        obtain ⟨rfl, rfl⟩ := hp37
        refine r_goto (pc := 40) X 64 (by decide) dX9_fits_40 ?_
        exact K dX9_fits_64 (by first | exact bi_01 _ | exact Or.inl rfl | exact Or.inr rfl) ⟨by clear K X; grind [jfit, bi, bi_0, bi_n0], rfl⟩
    · skip
      refine r_iload_n (pc := 19) X rfl dX9_fits_19 ?_
      refine r_iconst (pc := 20) (v := 1) X rfl dX9_fits_20 ?_
      refine r_iconst (pc := 21) (v := 3) X rfl dX9_fits_21 ?_
      refine ca_X9_36 (pc := 22) X (c_X9_in v 1 3) rfl rfl rfl dX9_fits_22 (fun r22 M22 hp22 => ?_)
      obtain ⟨rfl, rfl⟩ := hp22
      refine r_goto (pc := 25) X 64 (by decide) dX9_fits_25 ?_
      exact K dX9_fits_64 (by first | exact bi_01 _ | exact Or.inl rfl | exact Or.inr rfl) ⟨by clear K X; grind [jfit, bi, bi_0, bi_n0], rfl⟩
  · skip
    refine r_iload_n (pc := 4) X rfl dX9_fits_4 ?_
    refine r_iconst (pc := 5) (v := 0) X rfl dX9_fits_5 ?_
    refine r_bipush (pc := 6) (v := 7) X rfl dX9_fits_6 ?_
    refine ca_X9_36 (pc := 8) X (c_X9_in v 0 7) rfl rfl rfl dX9_fits_8 (fun r8 M8 hp8 => ?_)
    obtain ⟨rfl, rfl⟩ := hp8
    refine r_goto (pc := 11) X 64 (by decide) dX9_fits_11 ?_
    exact K dX9_fits_64 (by first | exact bi_01 _ | exact Or.inl rfl | exact Or.inr rfl) ⟨by clear K X; grind [jfit, bi, bi_0, bi_n0], rfl⟩

set_option maxHeartbeats 4000000 in
set_option maxRecDepth 100000 in
theorem c_X9_isShip {G : bkG} {Z : Nat → Prop} {M : bkM} {r : Nat} {s a p q t o f : Nat → Int32} (v : Int32) : bkCi G Z Z yX9_isShip cX9_isShip 2 (some .boolean) 1 0 0 [.ref r, .int v] (mW G M r s a p q t o f) (fun x M' => x = bi (jin v 0 (s 180 - 1)) ∧ M' = (mW G M r s a p q t o f)) := by
  refine bk_metz [some (.ref r), some (.int v)] rfl pf_X9_isShip rfl rfl (fun E X K => ?_)
  refine r_iload_n (pc := 0) X rfl dX9_isShip_0 ?_
  refine r_iconst (pc := 1) (v := 0) X rfl dX9_isShip_1 ?_
  refine r_aload_n (pc := 2) X rfl dX9_isShip_2 ?_
  refine gt_X9_7 (pc := 3) X mW_0 rfl dX9_isShip_3 ?_
  refine r_sipush (pc := 6) (v := 180) X rfl dX9_isShip_6 ?_
  refine r_iald (pc := 9) X mW_1 (180) rfl (by omega) (by decide) dX9_isShip_9 ?_
  refine r_iconst (pc := 10) (v := 1) X rfl dX9_isShip_10 ?_
  refine r_isub (pc := 11) X dX9_isShip_11 ?_
  refine ca_X9_36 (pc := 12) X (c_X9_in v 0 (s 180 - 1)) rfl rfl rfl dX9_isShip_12 (fun r12 M12 hp12 => ?_)
  obtain ⟨rfl, rfl⟩ := hp12
  exact K dX9_isShip_15 (bi_01 _) ⟨rfl, rfl⟩

set_option maxHeartbeats 4000000 in
set_option maxRecDepth 100000 in
theorem c_X9_shipIn {G : bkG} {Z : Nat → Prop} {M : bkM} {r : Nat} {s a p q t o f : Nat → Int32} {n : Nat} (hn : n ≤ 8) (hs : s 180 = nI n) (c : Int32) : bkCi G Z Z yX9_shipIn cX9_shipIn 3 (some .int) 1 0 0 [.ref r, .int c] (mW G M r s a p q t o f) (fun v M' => v = jsin s n c ∧ M' = (mW G M r s a p q t o f)) := by
  refine bk_meti [some (.ref r), some (.int c), none] rfl pf_X9_shipIn rfl rfl (fun E X K => ?_)
  refine r_iconst (pc := 0) (v := 0) X rfl dX9_shipIn_0 ?_
  refine r_istore_n (pc := 1) X rfl rfl dX9_shipIn_1 ?_
  have lp2 : ∀ (d j : Nat) (y : Int32), j ≤ n → n < j + d → y = nI j → jsin s n c = jfind (fun k => decide (s (140 + 5 * k + 3) = 0) && decide (s (140 + 5 * k + 1) = c)) j (n - j) → bkV E G Z 0 0 (mW G M r s a p q t o f) 2 [some (.ref r), some (.int c), some (.int y)] [] := by
    intro d
    induction d with
    | zero => intro j y; intros; exfalso; omega
    | succ d ih =>
      intro j y hj hd e1 e2
      subst e1
      refine r_iload_n (pc := 2) X rfl dX9_shipIn_2 ?_
      refine r_aload_n (pc := 3) X rfl dX9_shipIn_3 ?_
      refine gt_X9_7 (pc := 4) X mW_0 rfl dX9_shipIn_4 ?_
      refine r_sipush (pc := 7) (v := 180) X rfl dX9_shipIn_7 ?_
      refine r_iald (pc := 10) X mW_1 (180) rfl (by omega) (by decide) dX9_shipIn_10 ?_
      refine r_icmpN_ge (pc := 11) X 49 (j) (n) rfl hs (by omega) (by omega) (by decide) dX9_shipIn_11 (fun q11 => ?_) (fun q11 => ?_)
      · skip
        refine r_bipush (pc := 49) (v := (-5)) X rfl dX9_shipIn_49 ?_
        exact K dX9_shipIn_51 ⟨(e2.trans (by rw [show j = n by omega]; exact jfind_end)).symm, rfl⟩
      · skip
        refine r_aload_n (pc := 14) X rfl dX9_shipIn_14 ?_
        refine gt_X9_7 (pc := 15) X mW_0 rfl dX9_shipIn_15 ?_
        refine r_iload_n (pc := 18) X rfl dX9_shipIn_18 ?_
        refine r_iconst (pc := 19) (v := 3) X rfl dX9_shipIn_19 ?_
        refine ca_X9_100 (pc := 20) X (c_X9_ofS j 3) rfl rfl rfl dX9_shipIn_20 (fun r20 M20 hp20 => ?_)
        obtain ⟨rfl, rfl⟩ := hp20
        refine r_iald (pc := 23) X mW_1 (140 + 5 * j + 3) rfl (by omega) (by decide) dX9_shipIn_23 ?_
        refine r_if_ne (pc := 24) X 43 (by decide) dX9_shipIn_24 (fun q24 => ?_) (fun q24 => ?_)
        · skip
          refine r_iinc (pc := 43) X rfl rfl rfl dX9_shipIn_43 ?_
          refine r_goto (pc := 46) X 2 (by decide) dX9_shipIn_46 ?_
          exact ih (j + 1) _ (by omega) (by omega) (nI_1 j) (e2.trans (jfind_miss (by omega) (by simp [q11, q24])))
        · skip
          refine r_aload_n (pc := 27) X rfl dX9_shipIn_27 ?_
          refine gt_X9_7 (pc := 28) X mW_0 rfl dX9_shipIn_28 ?_
          refine r_iload_n (pc := 31) X rfl dX9_shipIn_31 ?_
          refine r_iconst (pc := 32) (v := 1) X rfl dX9_shipIn_32 ?_
          refine ca_X9_100 (pc := 33) X (c_X9_ofS j 1) rfl rfl rfl dX9_shipIn_33 (fun r33 M33 hp33 => ?_)
          obtain ⟨rfl, rfl⟩ := hp33
          refine r_iald (pc := 36) X mW_1 (140 + 5 * j + 1) rfl (by omega) (by decide) dX9_shipIn_36 ?_
          refine r_iload_n (pc := 37) X rfl dX9_shipIn_37 ?_
          refine r_icmp_ne (pc := 38) X 43 (by decide) dX9_shipIn_38 (fun q38 => ?_) (fun q38 => ?_)
          · skip
            refine r_iinc (pc := 43) X rfl rfl rfl dX9_shipIn_43 ?_
            refine r_goto (pc := 46) X 2 (by decide) dX9_shipIn_46 ?_
            exact ih (j + 1) _ (by omega) (by omega) (nI_1 j) (e2.trans (jfind_miss (by omega) (by simp [q11, q24, q38])))
          · skip
            refine r_iload_n (pc := 41) X rfl dX9_shipIn_41 ?_
            exact K dX9_shipIn_42 ⟨(e2.trans (jfind_hit (by omega) (by simp [q11, q24, q38]))).symm, rfl⟩
  exact lp2 (n + 1) 0 _ (by omega) (by omega) rfl rfl

set_option maxHeartbeats 4000000 in
set_option maxRecDepth 100000 in
theorem c_X9_barShip {G : bkG} {Z : Nat → Prop} {M : bkM} {r : Nat} {s a p q t o f : Nat → Int32} {n : Nat} (hn : n ≤ 8) (hs : s 180 = nI n) (w c h : Int32) : bkCi G Z Z yX9_barShip cX9_barShip 5 (some .int) 2 0 0 [.ref r, .int w, .int c, .int h] (mW G M r s a p q t o f) (fun v M' => v = jbs s n w c h ∧ M' = (mW G M r s a p q t o f)) := by
  refine bk_meti [some (.ref r), some (.int w), some (.int c), some (.int h), none] rfl pf_X9_barShip rfl rfl (fun E X K => ?_)
  refine r_iload_n (pc := 0) X rfl dX9_barShip_0 ?_
  refine ca_X9_77 (pc := 1) X (c_X9_isCell c) rfl rfl rfl dX9_barShip_1 (fun r1 M1 hp1 => ?_)
  obtain ⟨rfl, rfl⟩ := hp1
  refine r_if_eq (pc := 4) X 14 (by decide) dX9_barShip_4 (fun q4 => ?_) (fun q4 => ?_)
  · skip
    refine r_iconst (pc := 14) (v := (-1)) X rfl dX9_barShip_14 ?_
    exact K dX9_barShip_15 ⟨by clear K X; grind [jbs, bi_0, bi_n0], rfl⟩
  · skip
    refine r_iload_n (pc := 7) X rfl dX9_barShip_7 ?_
    refine ca_X9_77 (pc := 8) X (c_X9_isCell h) rfl rfl rfl dX9_barShip_8 (fun r8 M8 hp8 => ?_)
    obtain ⟨rfl, rfl⟩ := hp8
    refine r_if_ne (pc := 11) X 16 (by decide) dX9_barShip_11 (fun q11 => ?_) (fun q11 => ?_)
    · skip
      refine r_iload_n (pc := 16) X rfl dX9_barShip_16 ?_
      refine r_iconst (pc := 17) (v := 1) X rfl dX9_barShip_17 ?_
      refine r_bipush (pc := 18) (v := 99) X rfl dX9_barShip_18 ?_
      refine ca_X9_36 (pc := 20) X (c_X9_in w 1 99) rfl rfl rfl dX9_barShip_20 (fun r20 M20 hp20 => ?_)
      obtain ⟨rfl, rfl⟩ := hp20
      refine r_if_ne (pc := 23) X 29 (by decide) dX9_barShip_23 (fun q23 => ?_) (fun q23 => ?_)
      · skip
        refine r_iload_n (pc := 29) X rfl dX9_barShip_29 ?_
        refine r_iload_n (pc := 30) X rfl dX9_barShip_30 ?_
        refine r_icmp_eq (pc := 31) X 70 (by decide) dX9_barShip_31 (fun q31 => ?_) (fun q31 => ?_)
        · skip
          refine r_iconst (pc := 70) (v := 0) X rfl dX9_barShip_70 ?_
          refine r_istore (pc := 71) X rfl rfl dX9_barShip_71 ?_
          refine r_iload (pc := 73) X rfl dX9_barShip_73 ?_
          refine r_if_ne (pc := 75) X 83 (by decide) dX9_barShip_75 (fun q75 => absurd rfl q75) (fun q75 => ?_)
          refine r_bipush (pc := 78) (v := (-4)) X rfl dX9_barShip_78 ?_
          refine r_goto (pc := 80) X 102 (by decide) dX9_barShip_80 ?_
          exact K dX9_barShip_102 ⟨by clear K X; grind [jbs, bi_0, bi_n0], rfl⟩
        · skip
          obtain ⟨cn, hcn, rfl⟩ := jin_of (n := 99) rfl (by decide) (bi_n0.mp q4)
          obtain ⟨hn2, hhn, rfl⟩ := jin_of (n := 99) rfl (by decide) (bi_n0.mp q11)
          have tc : tn (nI cn) = cn := tn_nI (by omega)
          have th : tn (nI hn2) = hn2 := tn_nI (by omega)
          refine r_aload_n (pc := 34) X rfl dX9_barShip_34 ?_
          refine gt_X9_7 (pc := 35) X mW_0 rfl dX9_barShip_35 ?_
          refine r_iconst (pc := 38) (v := 0) X rfl dX9_barShip_38 ?_
          refine r_iload_n (pc := 39) X rfl dX9_barShip_39 ?_
          refine r_iadd (pc := 40) X dX9_barShip_40 ?_
          refine r_iald (pc := 41) X mW_1 (cn) (Int32.zero_add _) (by omega) (by decide) dX9_barShip_41 ?_
          refine r_if_ne (pc := 42) X 70 (by decide) dX9_barShip_42 (fun q42 => ?_) (fun q42 => ?_)
          · skip
            refine r_iconst (pc := 70) (v := 0) X rfl dX9_barShip_70 ?_
            refine r_istore (pc := 71) X rfl rfl dX9_barShip_71 ?_
            refine r_iload (pc := 73) X rfl dX9_barShip_73 ?_
            refine r_if_ne (pc := 75) X 83 (by decide) dX9_barShip_75 (fun q75 => absurd rfl q75) (fun q75 => ?_)
            refine r_bipush (pc := 78) (v := (-4)) X rfl dX9_barShip_78 ?_
            refine r_goto (pc := 80) X 102 (by decide) dX9_barShip_80 ?_
            exact K dX9_barShip_102 ⟨by clear K X; grind [jbs, bi_0, bi_n0], rfl⟩
          · skip
            refine r_aload_n (pc := 45) X rfl dX9_barShip_45 ?_
            refine gt_X9_7 (pc := 46) X mW_0 rfl dX9_barShip_46 ?_
            refine r_iconst (pc := 49) (v := 0) X rfl dX9_barShip_49 ?_
            refine r_iload_n (pc := 50) X rfl dX9_barShip_50 ?_
            refine r_iadd (pc := 51) X dX9_barShip_51 ?_
            refine r_iald (pc := 52) X mW_1 (hn2) (Int32.zero_add _) (by omega) (by decide) dX9_barShip_52 ?_
            refine r_if_ne (pc := 53) X 70 (by decide) dX9_barShip_53 (fun q53 => ?_) (fun q53 => ?_)
            · skip
              refine r_iconst (pc := 70) (v := 0) X rfl dX9_barShip_70 ?_
              refine r_istore (pc := 71) X rfl rfl dX9_barShip_71 ?_
              refine r_iload (pc := 73) X rfl dX9_barShip_73 ?_
              refine r_if_ne (pc := 75) X 83 (by decide) dX9_barShip_75 (fun q75 => absurd rfl q75) (fun q75 => ?_)
              refine r_bipush (pc := 78) (v := (-4)) X rfl dX9_barShip_78 ?_
              refine r_goto (pc := 80) X 102 (by decide) dX9_barShip_80 ?_
              exact K dX9_barShip_102 ⟨by clear K X; grind [jbs, bi_0, bi_n0], rfl⟩
            · skip
              refine r_aload_n (pc := 56) X rfl dX9_barShip_56 ?_
              refine r_iload_n (pc := 57) X rfl dX9_barShip_57 ?_
              refine ca_X9_103 (pc := 58) X (c_X9_shipIn hn hs (nI cn)) mW_0 rfl rfl rfl dX9_barShip_58 (fun r58 M58 hp58 => ?_)
              obtain ⟨rfl, rfl⟩ := hp58
              refine r_bipush (pc := 61) (v := (-5)) X rfl dX9_barShip_61 ?_
              refine r_icmp_ne (pc := 63) X 70 (by decide) dX9_barShip_63 (fun q63 => ?_) (fun q63 => ?_)
              · skip
                refine r_iconst (pc := 70) (v := 0) X rfl dX9_barShip_70 ?_
                refine r_istore (pc := 71) X rfl rfl dX9_barShip_71 ?_
                refine r_iload (pc := 73) X rfl dX9_barShip_73 ?_
                refine r_if_ne (pc := 75) X 83 (by decide) dX9_barShip_75 (fun q75 => absurd rfl q75) (fun q75 => ?_)
                refine r_bipush (pc := 78) (v := (-4)) X rfl dX9_barShip_78 ?_
                refine r_goto (pc := 80) X 102 (by decide) dX9_barShip_80 ?_
                exact K dX9_barShip_102 ⟨by clear K X; grind [jbs, bi_0, bi_n0], rfl⟩
              · skip
                refine r_iconst (pc := 66) (v := 1) X rfl dX9_barShip_66 ?_
                refine r_goto (pc := 67) X 71 (by decide) dX9_barShip_67 ?_
                refine r_istore (pc := 71) X rfl rfl dX9_barShip_71 ?_
                refine r_iload (pc := 73) X rfl dX9_barShip_73 ?_
                refine r_if_ne (pc := 75) X 83 (by decide) dX9_barShip_75 (fun q75 => ?_) (fun q75 => absurd q75 (by decide))
                refine r_aload_n (pc := 83) X rfl dX9_barShip_83 ?_
                refine gt_X9_7 (pc := 84) X mW_0 rfl dX9_barShip_84 ?_
                refine r_sipush (pc := 87) (v := 180) X rfl dX9_barShip_87 ?_
                refine r_iald (pc := 90) X mW_1 (180) rfl (by omega) (by decide) dX9_barShip_90 ?_
                refine r_bipush (pc := 91) (v := 8) X rfl dX9_barShip_91 ?_
                refine r_icmp_ne (pc := 93) X 101 (by decide) dX9_barShip_93 (fun q93 => ?_) (fun q93 => ?_)
                · skip
                  refine r_iconst (pc := 101) (v := 0) X rfl dX9_barShip_101 ?_
                  exact K dX9_barShip_102 ⟨by clear K X; grind [jbs, bi_0, bi_n0], rfl⟩
                · skip
                  refine r_bipush (pc := 96) (v := (-3)) X rfl dX9_barShip_96 ?_
                  refine r_goto (pc := 98) X 102 (by decide) dX9_barShip_98 ?_
                  exact K dX9_barShip_102 ⟨by clear K X; grind [jbs, bi_0, bi_n0], rfl⟩
      · skip
        refine r_bipush (pc := 26) (v := (-2)) X rfl dX9_barShip_26 ?_
        exact K dX9_barShip_28 ⟨by clear K X; grind [jbs, bi_0, bi_n0], rfl⟩
    · skip
      refine r_iconst (pc := 14) (v := (-1)) X rfl dX9_barShip_14 ?_
      exact K dX9_barShip_15 ⟨by clear K X; grind [jbs, bi_0, bi_n0], rfl⟩

set_option maxHeartbeats 4000000 in
set_option maxRecDepth 100000 in
theorem c_X9_towards {G : bkG} {Z : Nat → Prop} {M : bkM} (x y : Int32) : bkCi G Z Z yX9_towards cX9_towards 2 (some .int) 0 0 0 [.int x, .int y] M (fun v M' => v = jtw x y ∧ M' = M) := by
  refine bk_meti [some (.int x), some (.int y)] rfl pf_X9_towards rfl rfl (fun E X K => ?_)
  refine r_iload_n (pc := 0) X rfl dX9_towards_0 ?_
  refine r_iload_n (pc := 1) X rfl dX9_towards_1 ?_
  refine r_icmp_le (pc := 2) X 9 (by decide) dX9_towards_2 (fun q2 => ?_) (fun q2 => ?_)
  · skip
    refine r_iload_n (pc := 9) X rfl dX9_towards_9 ?_
    refine r_iload_n (pc := 10) X rfl dX9_towards_10 ?_
    refine r_icmp_ge (pc := 11) X 18 (by decide) dX9_towards_11 (fun q11 => ?_) (fun q11 => ?_)
    · skip
      refine r_iconst (pc := 18) (v := 0) X rfl dX9_towards_18 ?_
      exact K dX9_towards_19 ⟨by clear K X; grind [jtw], rfl⟩
    · skip
      refine r_iconst (pc := 14) (v := (-1)) X rfl dX9_towards_14 ?_
      refine r_goto (pc := 15) X 19 (by decide) dX9_towards_15 ?_
      exact K dX9_towards_19 ⟨by clear K X; grind [jtw], rfl⟩
  · skip
    refine r_iconst (pc := 5) (v := 1) X rfl dX9_towards_5 ?_
    refine r_goto (pc := 6) X 19 (by decide) dX9_towards_6 ?_
    exact K dX9_towards_19 ⟨by clear K X; grind [jtw], rfl⟩

set_option maxHeartbeats 4000000 in
set_option maxRecDepth 100000 in
theorem c_X9_rank {G : bkG} {Z : Nat → Prop} {M : bkM} {r : Nat} {s a p q t o f : Nat → Int32} {n : Nat} (hn : n ≤ 8) (hs : s 180 = nI n) (k : Nat) (hk : k < 8) : bkCi G Z Z yX9_rank cX9_rank 5 (some .int) 1 0 0 [.ref r, .int (nI k)] (mW G M r s a p q t o f) (fun v M' => v = nI (jrk s n k) ∧ M' = (mW G M r s a p q t o f)) := by
  refine bk_meti [some (.ref r), some (.int (nI k)), none, none, none] rfl pf_X9_rank rfl rfl (fun E X K => ?_)
  refine r_iconst (pc := 0) (v := 0) X rfl dX9_rank_0 ?_
  refine r_istore_n (pc := 1) X rfl rfl dX9_rank_1 ?_
  refine r_iconst (pc := 2) (v := 0) X rfl dX9_rank_2 ?_
  refine r_istore_n (pc := 3) X rfl rfl dX9_rank_3 ?_
  have lp4 : ∀ (d j : Nat) (x : Int32) (y : Int32), j ≤ n → n < j + d → x = nI (jct (fun i => jbef s i k) j) → y = nI j → bkV E G Z 0 0 (mW G M r s a p q t o f) 4 [some (.ref r), some (.int (nI k)), some (.int x), some (.int y), none] [] := by
    intro d
    induction d with
    | zero => intro j x y; intros; exfalso; omega
    | succ d ih =>
      intro j x y hj hd e1 e2
      subst e1
      subst e2
      refine r_iload_n (pc := 4) X rfl dX9_rank_4 ?_
      refine r_aload_n (pc := 5) X rfl dX9_rank_5 ?_
      refine gt_X9_7 (pc := 6) X mW_0 rfl dX9_rank_6 ?_
      refine r_sipush (pc := 9) (v := 180) X rfl dX9_rank_9 ?_
      refine r_iald (pc := 12) X mW_1 (180) rfl (by omega) (by decide) dX9_rank_12 ?_
      refine r_icmpN_ge (pc := 13) X 81 (j) (n) rfl hs (by omega) (by omega) (by decide) dX9_rank_13 (fun q13 => ?_) (fun q13 => ?_)
      · skip
        refine r_iload_n (pc := 81) X rfl dX9_rank_81 ?_
        exact K dX9_rank_82 ⟨by rw [show j = n by omega]; rfl, rfl⟩
      · skip
        refine r_aload_n (pc := 16) X rfl dX9_rank_16 ?_
        refine gt_X9_7 (pc := 17) X mW_0 rfl dX9_rank_17 ?_
        refine r_iload_n (pc := 20) X rfl dX9_rank_20 ?_
        refine r_iconst (pc := 21) (v := 0) X rfl dX9_rank_21 ?_
        refine ca_X9_100 (pc := 22) X (c_X9_ofS j 0) rfl rfl rfl dX9_rank_22 (fun r22 M22 hp22 => ?_)
        obtain ⟨rfl, rfl⟩ := hp22
        refine r_iald (pc := 25) X mW_1 (140 + 5 * j + 0) rfl (by omega) (by decide) dX9_rank_25 ?_
        refine r_aload_n (pc := 26) X rfl dX9_rank_26 ?_
        refine gt_X9_7 (pc := 27) X mW_0 rfl dX9_rank_27 ?_
        refine r_iload_n (pc := 30) X rfl dX9_rank_30 ?_
        refine r_iconst (pc := 31) (v := 0) X rfl dX9_rank_31 ?_
        refine ca_X9_100 (pc := 32) X (c_X9_ofS k 0) rfl rfl rfl dX9_rank_32 (fun r32 M32 hp32 => ?_)
        obtain ⟨rfl, rfl⟩ := hp32
        refine r_iald (pc := 35) X mW_1 (140 + 5 * k + 0) rfl (by omega) (by decide) dX9_rank_35 ?_
        refine r_isub (pc := 36) X dX9_rank_36 ?_
        refine r_istore (pc := 37) X rfl rfl dX9_rank_37 ?_
        refine r_iload_n (pc := 39) X rfl dX9_rank_39 ?_
        refine r_aload_n (pc := 40) X rfl dX9_rank_40 ?_
        refine gt_X9_7 (pc := 41) X mW_0 rfl dX9_rank_41 ?_
        refine r_iload_n (pc := 44) X rfl dX9_rank_44 ?_
        refine r_iconst (pc := 45) (v := 3) X rfl dX9_rank_45 ?_
        refine ca_X9_100 (pc := 46) X (c_X9_ofS j 3) rfl rfl rfl dX9_rank_46 (fun r46 M46 hp46 => ?_)
        obtain ⟨rfl, rfl⟩ := hp46
        refine r_iald (pc := 49) X mW_1 (140 + 5 * j + 3) rfl (by omega) (by decide) dX9_rank_49 ?_
        refine r_if_ne (pc := 50) X 72 (by decide) dX9_rank_50 (fun q50 => ?_) (fun q50 => ?_)
        · skip
          refine r_iconst (pc := 72) (v := 0) X rfl dX9_rank_72 ?_
          refine r_iadd (pc := 73) X dX9_rank_73 ?_
          refine r_istore_n (pc := 74) X rfl rfl dX9_rank_74 ?_
          refine r_iinc (pc := 75) X rfl rfl rfl dX9_rank_75 ?_
          refine r_goto (pc := 78) X 4 (by decide) dX9_rank_78 ?_
          refine bkV.drop 4 (ih (j + 1) _ _ (by omega) (by omega) ?_ (nI_1 j))
          first | exact jct_t (by clear K X ih; grind [jbef]) | exact jct_f (by clear K X ih; grind [jbef])
        · skip
          refine r_iload (pc := 53) X rfl dX9_rank_53 ?_
          refine r_if_gt (pc := 55) X 68 (by decide) dX9_rank_55 (fun q55 => ?_) (fun q55 => ?_)
          · skip
            refine r_iconst (pc := 68) (v := 1) X rfl dX9_rank_68 ?_
            refine r_goto (pc := 69) X 73 (by decide) dX9_rank_69 ?_
            refine r_iadd (pc := 73) X dX9_rank_73 ?_
            refine r_istore_n (pc := 74) X rfl rfl dX9_rank_74 ?_
            refine r_iinc (pc := 75) X rfl rfl rfl dX9_rank_75 ?_
            refine r_goto (pc := 78) X 4 (by decide) dX9_rank_78 ?_
            refine bkV.drop 4 (ih (j + 1) _ _ (by omega) (by omega) ?_ (nI_1 j))
            first | exact jct_t (by clear K X ih; grind [jbef]) | exact jct_f (by clear K X ih; grind [jbef])
          · skip
            refine r_iload (pc := 58) X rfl dX9_rank_58 ?_
            refine r_if_ne (pc := 60) X 72 (by decide) dX9_rank_60 (fun q60 => ?_) (fun q60 => ?_)
            · skip
              refine r_iconst (pc := 72) (v := 0) X rfl dX9_rank_72 ?_
              refine r_iadd (pc := 73) X dX9_rank_73 ?_
              refine r_istore_n (pc := 74) X rfl rfl dX9_rank_74 ?_
              refine r_iinc (pc := 75) X rfl rfl rfl dX9_rank_75 ?_
              refine r_goto (pc := 78) X 4 (by decide) dX9_rank_78 ?_
              refine bkV.drop 4 (ih (j + 1) _ _ (by omega) (by omega) ?_ (nI_1 j))
              first | exact jct_t (by clear K X ih; grind [jbef]) | exact jct_f (by clear K X ih; grind [jbef])
            · skip
              refine r_iload_n (pc := 63) X rfl dX9_rank_63 ?_
              refine r_iload_n (pc := 64) X rfl dX9_rank_64 ?_
              refine r_icmpN_ge (pc := 65) X 72 (j) (k) rfl rfl (by omega) (by omega) (by decide) dX9_rank_65 (fun q65 => ?_) (fun q65 => ?_)
              · skip
                refine r_iconst (pc := 72) (v := 0) X rfl dX9_rank_72 ?_
                refine r_iadd (pc := 73) X dX9_rank_73 ?_
                refine r_istore_n (pc := 74) X rfl rfl dX9_rank_74 ?_
                refine r_iinc (pc := 75) X rfl rfl rfl dX9_rank_75 ?_
                refine r_goto (pc := 78) X 4 (by decide) dX9_rank_78 ?_
                refine bkV.drop 4 (ih (j + 1) _ _ (by omega) (by omega) ?_ (nI_1 j))
                first | exact jct_t (by clear K X ih; grind [jbef]) | exact jct_f (by clear K X ih; grind [jbef])
              · skip
                refine r_iconst (pc := 68) (v := 1) X rfl dX9_rank_68 ?_
                refine r_goto (pc := 69) X 73 (by decide) dX9_rank_69 ?_
                refine r_iadd (pc := 73) X dX9_rank_73 ?_
                refine r_istore_n (pc := 74) X rfl rfl dX9_rank_74 ?_
                refine r_iinc (pc := 75) X rfl rfl rfl dX9_rank_75 ?_
                refine r_goto (pc := 78) X 4 (by decide) dX9_rank_78 ?_
                refine bkV.drop 4 (ih (j + 1) _ _ (by omega) (by omega) ?_ (nI_1 j))
                first | exact jct_t (by clear K X ih; grind [jbef]) | exact jct_f (by clear K X ih; grind [jbef])
  exact lp4 (n + 1) 0 _ _ (by omega) (by omega) rfl rfl

set_option maxHeartbeats 4000000 in
set_option maxRecDepth 100000 in
theorem c_X9_shipsIn {G : bkG} {Z : Nat → Prop} {M : bkM} {r : Nat} {s a p q t o f : Nat → Int32} {n : Nat} (hn : n ≤ 8) (hs : s 180 = nI n) (v : Int32) : bkCi G Z Z yX9_shipsIn cX9_shipsIn 4 (some .int) 1 0 0 [.ref r, .int v] (mW G M r s a p q t o f) (fun x M' => x = nI (jset (jst s v) n) ∧ M' = (mW G M r s a p q t o f)) := by
  refine bk_meti [some (.ref r), some (.int v), none, none] rfl pf_X9_shipsIn rfl rfl (fun E X K => ?_)
  refine r_iconst (pc := 0) (v := 0) X rfl dX9_shipsIn_0 ?_
  refine r_istore_n (pc := 1) X rfl rfl dX9_shipsIn_1 ?_
  refine r_iconst (pc := 2) (v := 0) X rfl dX9_shipsIn_2 ?_
  refine r_istore_n (pc := 3) X rfl rfl dX9_shipsIn_3 ?_
  have lp4 : ∀ (d j : Nat) (x : Int32) (y : Int32), j ≤ n → n < j + d → x = nI (jset (jst s v) j) → y = nI j → bkV E G Z 0 0 (mW G M r s a p q t o f) 4 [some (.ref r), some (.int v), some (.int x), some (.int y)] [] := by
    intro d
    induction d with
    | zero => intro j x y; intros; exfalso; omega
    | succ d ih =>
      intro j x y hj hd e1 e2
      subst e1
      subst e2
      refine r_iload_n (pc := 4) X rfl dX9_shipsIn_4 ?_
      refine r_aload_n (pc := 5) X rfl dX9_shipsIn_5 ?_
      refine gt_X9_7 (pc := 6) X mW_0 rfl dX9_shipsIn_6 ?_
      refine r_sipush (pc := 9) (v := 180) X rfl dX9_shipsIn_9 ?_
      refine r_iald (pc := 12) X mW_1 (180) rfl (by omega) (by decide) dX9_shipsIn_12 ?_
      refine r_icmpN_ge (pc := 13) X 46 (j) (n) rfl hs (by omega) (by omega) (by decide) dX9_shipsIn_13 (fun q13 => ?_) (fun q13 => ?_)
      · skip
        refine r_iload_n (pc := 46) X rfl dX9_shipsIn_46 ?_
        exact K dX9_shipsIn_47 ⟨by rw [show j = n by omega], rfl⟩
      · skip
        refine r_iload_n (pc := 16) X rfl dX9_shipsIn_16 ?_
        refine r_aload_n (pc := 17) X rfl dX9_shipsIn_17 ?_
        refine gt_X9_7 (pc := 18) X mW_0 rfl dX9_shipsIn_18 ?_
        refine r_iload_n (pc := 21) X rfl dX9_shipsIn_21 ?_
        refine r_iconst (pc := 22) (v := 3) X rfl dX9_shipsIn_22 ?_
        refine ca_X9_100 (pc := 23) X (c_X9_ofS j 3) rfl rfl rfl dX9_shipsIn_23 (fun r23 M23 hp23 => ?_)
        obtain ⟨rfl, rfl⟩ := hp23
        refine r_iald (pc := 26) X mW_1 (140 + 5 * j + 3) rfl (by omega) (by decide) dX9_shipsIn_26 ?_
        refine r_iload_n (pc := 27) X rfl dX9_shipsIn_27 ?_
        refine r_icmp_ne (pc := 28) X 37 (by decide) dX9_shipsIn_28 (fun q28 => ?_) (fun q28 => ?_)
        · skip
          refine r_iconst (pc := 37) (v := 0) X rfl dX9_shipsIn_37 ?_
          refine r_ior (pc := 38) X dX9_shipsIn_38 ?_
          refine r_istore_n (pc := 39) X rfl rfl dX9_shipsIn_39 ?_
          refine r_iinc (pc := 40) X rfl rfl rfl dX9_shipsIn_40 ?_
          refine r_goto (pc := 43) X 4 (by decide) dX9_shipsIn_43 ?_
          refine ih (j + 1) _ _ (by omega) (by omega) ?_ (nI_1 j)
          first | exact jset_t (by omega) (by simp [jst, q28]) | exact jset_f (by simp [jst, q28])
        · skip
          refine r_iconst (pc := 31) (v := 1) X rfl dX9_shipsIn_31 ?_
          refine r_iload_n (pc := 32) X rfl dX9_shipsIn_32 ?_
          refine r_ishl (pc := 33) X dX9_shipsIn_33 ?_
          refine r_goto (pc := 34) X 38 (by decide) dX9_shipsIn_34 ?_
          refine r_ior (pc := 38) X dX9_shipsIn_38 ?_
          refine r_istore_n (pc := 39) X rfl rfl dX9_shipsIn_39 ?_
          refine r_iinc (pc := 40) X rfl rfl rfl dX9_shipsIn_40 ?_
          refine r_goto (pc := 43) X 4 (by decide) dX9_shipsIn_43 ?_
          refine ih (j + 1) _ _ (by omega) (by omega) ?_ (nI_1 j)
          first | exact jset_t (by omega) (by simp [jst, q28]) | exact jset_f (by simp [jst, q28])
  exact lp4 (n + 1) 0 _ _ (by omega) (by omega) rfl rfl

set_option maxHeartbeats 4000000 in
set_option maxRecDepth 100000 in
theorem c_X9_many {G : bkG} {Z : Nat → Prop} {M : bkM} (i : Nat) (hi : i < 2 ^ 8) : bkCi G Z Z yX9_many cX9_many 3 (some .int) 0 0 0 [.int (nI i)] M (fun v M' => v = nI (jpc 8 i) ∧ M' = M) := by
  refine bk_meti [some (.int (nI i)), none, none] rfl pf_X9_many rfl rfl (fun E X K => ?_)
  refine r_iconst (pc := 0) (v := 0) X rfl dX9_many_0 ?_
  refine r_istore_n (pc := 1) X rfl rfl dX9_many_1 ?_
  refine r_iload_n (pc := 2) X rfl dX9_many_2 ?_
  refine r_istore_n (pc := 3) X rfl rfl dX9_many_3 ?_
  have lp4 : ∀ (d f mm : Nat) (x : Int32), f < d → f ≤ 8 → mm < 2 ^ f → x + nI (jpc f mm) = nI (jpc 8 i) → bkV E G Z 0 0 M 4 [some (.int (nI i)), some (.int x), some (.int (nI mm))] [] := by
    intro d
    induction d with
    | zero => intro f mm x hf; exfalso; omega
    | succ d ih =>
      intro f mm x hf h8 hm e1
      have hm8 : mm < 256 := Nat.lt_of_lt_of_le hm (Nat.pow_le_pow_right (by omega) h8 : 2 ^ f ≤ 2 ^ 8)
      refine r_iload_n (pc := 4) X rfl dX9_many_4 ?_
      refine r_if_le (pc := 5) X 21 (by decide) dX9_many_5 (fun q5 => ?_) (fun q5 => ?_)
      · skip
        have h0 : mm = 0 := by
          rcases Nat.eq_zero_or_pos mm with h | h
          · exact h
          · exact absurd q5 (nI_nle h (by omega))
        subst h0
        rw [jpc_0] at e1
        refine r_iload_n (pc := 21) X rfl dX9_many_21 ?_
        exact K dX9_many_22 ⟨by rw [← e1]; simp [nI], rfl⟩
      · skip
        refine r_iload_n (pc := 8) X rfl dX9_many_8 ?_
        refine r_iload_n (pc := 9) X rfl dX9_many_9 ?_
        refine r_iconst (pc := 10) (v := 1) X rfl dX9_many_10 ?_
        refine r_iand (pc := 11) X dX9_many_11 ?_
        refine r_iadd (pc := 12) X dX9_many_12 ?_
        refine r_istore_n (pc := 13) X rfl rfl dX9_many_13 ?_
        refine r_iload_n (pc := 14) X rfl dX9_many_14 ?_
        refine r_iconst (pc := 15) (v := 1) X rfl dX9_many_15 ?_
        refine r_ishr (pc := 16) X dX9_many_16 ?_
        refine r_istore_n (pc := 17) X rfl rfl dX9_many_17 ?_
        refine r_goto (pc := 18) X 4 (by decide) dX9_many_18 ?_
        rw [jb_shr1 hm8, jb_and1 mm hm8]
        have hp : 0 < mm := by
          rcases Nat.eq_zero_or_pos mm with h | h
          · subst h; exact absurd (by decide) q5
          · exact h
        obtain ⟨f2, rfl⟩ : ∃ f2, f = f2 + 1 := ⟨f - 1, by
          rcases Nat.eq_zero_or_pos f with h | h
          · subst h; simp at hm; omega
          · omega⟩
        refine ih f2 (mm / 2) _ (by omega) (by omega) (by rw [Nat.pow_succ] at hm; omega) ?_
        rw [← e1]
        show _ = x + nI (mm % 2 + jpc f2 (mm / 2))
        rw [← nI_add, Int32.add_assoc]
  exact lp4 9 8 i _ (by omega) (by omega) hi (by simp)

set_option maxHeartbeats 4000000 in
set_option maxRecDepth 100000 in
theorem c_X9_barPass {G : bkG} {Z : Nat → Prop} {M : bkM} {r : Nat} {s a p q t o f : Nat → Int32} (v : Int32) : bkCi G Z Z yX9_barPass cX9_barPass 2 (some .int) 2 0 0 [.ref r, .int v] (mW G M r s a p q t o f) (fun x M' => x = jbp s v ∧ M' = (mW G M r s a p q t o f)) := by
  refine bk_meti [some (.ref r), some (.int v)] rfl pf_X9_barPass rfl rfl (fun E X K => ?_)
  refine r_iload_n (pc := 0) X rfl dX9_barPass_0 ?_
  refine r_iconst (pc := 1) (v := 1) X rfl dX9_barPass_1 ?_
  refine r_bipush (pc := 2) (v := 20) X rfl dX9_barPass_2 ?_
  refine ca_X9_36 (pc := 4) X (c_X9_in v 1 20) rfl rfl rfl dX9_barPass_4 (fun r4 M4 hp4 => ?_)
  obtain ⟨rfl, rfl⟩ := hp4
  refine r_if_ne (pc := 7) X 15 (by decide) dX9_barPass_7 (fun q7 => ?_) (fun q7 => ?_)
  · skip
    refine r_aload_n (pc := 15) X rfl dX9_barPass_15 ?_
    refine gt_X9_7 (pc := 16) X mW_0 rfl dX9_barPass_16 ?_
    refine r_sipush (pc := 19) (v := 181) X rfl dX9_barPass_19 ?_
    refine r_iald (pc := 22) X mW_1 (181) rfl (by omega) (by decide) dX9_barPass_22 ?_
    refine r_iload_n (pc := 23) X rfl dX9_barPass_23 ?_
    refine r_iadd (pc := 24) X dX9_barPass_24 ?_
    refine r_sipush (pc := 25) (v := 9999) X rfl dX9_barPass_25 ?_
    refine r_icmp_le (pc := 28) X 36 (by decide) dX9_barPass_28 (fun q28 => ?_) (fun q28 => ?_)
    · skip
      refine r_iconst (pc := 36) (v := 0) X rfl dX9_barPass_36 ?_
      exact K dX9_barPass_37 ⟨by clear K X; grind [jbp, bi_0, bi_n0], rfl⟩
    · skip
      refine r_bipush (pc := 31) (v := (-3)) X rfl dX9_barPass_31 ?_
      refine r_goto (pc := 33) X 37 (by decide) dX9_barPass_33 ?_
      exact K dX9_barPass_37 ⟨by clear K X; grind [jbp, bi_0, bi_n0], rfl⟩
  · skip
    refine r_bipush (pc := 10) (v := (-2)) X rfl dX9_barPass_10 ?_
    refine r_goto (pc := 12) X 37 (by decide) dX9_barPass_12 ?_
    exact K dX9_barPass_37 ⟨by clear K X; grind [jbp, bi_0, bi_n0], rfl⟩

set_option maxHeartbeats 4000000 in
set_option maxRecDepth 100000 in
theorem c_X9_canLay {G : bkG} {Z : Nat → Prop} {M : bkM} {r : Nat} {s a p q t o f : Nat → Int32} (k l : Nat) (hk : k < 4) (hl : l < 4) : bkCi G Z Z yX9_canLay cX9_canLay 3 (some .boolean) 1 0 0 [.ref r, .int (nI k), .int (nI l)] (mW G M r s a p q t o f) (fun x M' => x = bi (jcl s k l) ∧ M' = (mW G M r s a p q t o f)) := by
  refine bk_metz [some (.ref r), some (.int (nI k)), some (.int (nI l))] rfl pf_X9_canLay rfl rfl (fun E X K => ?_)
  refine r_iload_n (pc := 0) X rfl dX9_canLay_0 ?_
  refine r_iload_n (pc := 1) X rfl dX9_canLay_1 ?_
  refine r_icmpN_eq (pc := 2) X 37 (k) (l) rfl rfl (by omega) (by omega) (by decide) dX9_canLay_2 (fun q2 => ?_) (fun q2 => ?_)
  · skip
    refine r_iconst (pc := 37) (v := 0) X rfl dX9_canLay_37 ?_
    exact K dX9_canLay_38 (by first | exact Or.inl rfl | exact Or.inr rfl) ⟨by clear K X; grind [jcl, bi], rfl⟩
  · skip
    refine r_aload_n (pc := 5) X rfl dX9_canLay_5 ?_
    refine gt_X9_7 (pc := 6) X mW_0 rfl dX9_canLay_6 ?_
    refine r_iload_n (pc := 9) X rfl dX9_canLay_9 ?_
    refine r_iconst (pc := 10) (v := 2) X rfl dX9_canLay_10 ?_
    refine ca_X9_33 (pc := 11) X (c_X9_ofK k 2) rfl rfl rfl dX9_canLay_11 (fun r11 M11 hp11 => ?_)
    obtain ⟨rfl, rfl⟩ := hp11
    refine r_iald (pc := 14) X mW_1 (120 + 5 * k + 2) rfl (by omega) (by decide) dX9_canLay_14 ?_
    refine r_if_le (pc := 15) X 37 (by decide) dX9_canLay_15 (fun q15 => ?_) (fun q15 => ?_)
    · skip
      refine r_iconst (pc := 37) (v := 0) X rfl dX9_canLay_37 ?_
      exact K dX9_canLay_38 (by first | exact Or.inl rfl | exact Or.inr rfl) ⟨by clear K X; grind [jcl, bi], rfl⟩
    · skip
      refine r_aload_n (pc := 18) X rfl dX9_canLay_18 ?_
      refine gt_X9_7 (pc := 19) X mW_0 rfl dX9_canLay_19 ?_
      refine r_iload_n (pc := 22) X rfl dX9_canLay_22 ?_
      refine r_iconst (pc := 23) (v := 4) X rfl dX9_canLay_23 ?_
      refine ca_X9_29 (pc := 24) X (c_X9_ofL l 4) rfl rfl rfl dX9_canLay_24 (fun r24 M24 hp24 => ?_)
      obtain ⟨rfl, rfl⟩ := hp24
      refine r_iald (pc := 27) X mW_1 (100 + 5 * l + 4) rfl (by omega) (by decide) dX9_canLay_27 ?_
      refine r_bipush (pc := 28) (v := 9) X rfl dX9_canLay_28 ?_
      refine r_icmp_ge (pc := 30) X 37 (by decide) dX9_canLay_30 (fun q30 => ?_) (fun q30 => ?_)
      · skip
        refine r_iconst (pc := 37) (v := 0) X rfl dX9_canLay_37 ?_
        exact K dX9_canLay_38 (by first | exact Or.inl rfl | exact Or.inr rfl) ⟨by clear K X; grind [jcl, bi], rfl⟩
      · skip
        refine r_iconst (pc := 33) (v := 1) X rfl dX9_canLay_33 ?_
        refine r_goto (pc := 34) X 38 (by decide) dX9_canLay_34 ?_
        exact K dX9_canLay_38 (by first | exact Or.inl rfl | exact Or.inr rfl) ⟨by clear K X; grind [jcl, bi], rfl⟩

set_option maxHeartbeats 4000000 in
set_option maxRecDepth 100000 in
theorem c_X9_litCells {G : bkG} {Z : Nat → Prop} {M : bkM} {r : Nat} {s a p q t o f : Nat → Int32} (l : Nat) (hl : l < 4) : bkCi G Z Z yX9_litCells cX9_litCells 4 (some .int) 4 0 0 [.ref r, .int (nI l)] (mW G M r s a p q t o f) (fun v M' => v = nI (jct (fun c => jlb s l c) 100) ∧ M' = (mW G M r s a p q t o f)) := by
  refine bk_meti [some (.ref r), some (.int (nI l)), none, none] rfl pf_X9_litCells rfl rfl (fun E X K => ?_)
  refine r_iconst (pc := 0) (v := 0) X rfl dX9_litCells_0 ?_
  refine r_istore_n (pc := 1) X rfl rfl dX9_litCells_1 ?_
  refine r_iconst (pc := 2) (v := 0) X rfl dX9_litCells_2 ?_
  refine r_istore_n (pc := 3) X rfl rfl dX9_litCells_3 ?_
  have lp4 : ∀ (d j : Nat) (x : Int32) (y : Int32), j ≤ 100 → 100 < j + d → x = nI (jct (fun c => jlb s l c) j) → y = nI j → bkV E G Z 0 0 (mW G M r s a p q t o f) 4 [some (.ref r), some (.int (nI l)), some (.int x), some (.int y)] [] := by
    intro d
    induction d with
    | zero => intro j x y; intros; exfalso; omega
    | succ d ih =>
      intro j x y hj hd e1 e2
      subst e1
      subst e2
      refine r_iload_n (pc := 4) X rfl dX9_litCells_4 ?_
      refine r_bipush (pc := 5) (v := 100) X rfl dX9_litCells_5 ?_
      refine r_icmpN_ge (pc := 7) X 33 (j) (100) rfl rfl (by omega) (by omega) (by decide) dX9_litCells_7 (fun q7 => ?_) (fun q7 => ?_)
      · skip
        refine r_iload_n (pc := 33) X rfl dX9_litCells_33 ?_
        exact K dX9_litCells_34 ⟨by rw [show j = 100 by omega], rfl⟩
      · skip
        refine r_iload_n (pc := 10) X rfl dX9_litCells_10 ?_
        refine r_aload_n (pc := 11) X rfl dX9_litCells_11 ?_
        refine r_iload_n (pc := 12) X rfl dX9_litCells_12 ?_
        refine r_iload_n (pc := 13) X rfl dX9_litCells_13 ?_
        refine ca_X9_74 (pc := 14) X (c_X9_litBy l j hl (by omega)) mW_0 rfl rfl rfl dX9_litCells_14 (fun r14 M14 hp14 => ?_)
        obtain ⟨rfl, rfl⟩ := hp14
        refine r_if_eq (pc := 17) X 24 (by decide) dX9_litCells_17 (fun q17 => ?_) (fun q17 => ?_)
        · skip
          refine r_iconst (pc := 24) (v := 0) X rfl dX9_litCells_24 ?_
          refine r_iadd (pc := 25) X dX9_litCells_25 ?_
          refine r_istore_n (pc := 26) X rfl rfl dX9_litCells_26 ?_
          refine r_iinc (pc := 27) X rfl rfl rfl dX9_litCells_27 ?_
          refine r_goto (pc := 30) X 4 (by decide) dX9_litCells_30 ?_
          refine ih (j + 1) _ _ (by omega) (by omega) ?_ (nI_1 j)
          first | exact jct_t (by clear K X ih; grind [bi_0, bi_n0]) | exact jct_f (by clear K X ih; grind [bi_0, bi_n0])
        · skip
          refine r_iconst (pc := 20) (v := 1) X rfl dX9_litCells_20 ?_
          refine r_goto (pc := 21) X 25 (by decide) dX9_litCells_21 ?_
          refine r_iadd (pc := 25) X dX9_litCells_25 ?_
          refine r_istore_n (pc := 26) X rfl rfl dX9_litCells_26 ?_
          refine r_iinc (pc := 27) X rfl rfl rfl dX9_litCells_27 ?_
          refine r_goto (pc := 30) X 4 (by decide) dX9_litCells_30 ?_
          refine ih (j + 1) _ _ (by omega) (by omega) ?_ (nI_1 j)
          first | exact jct_t (by clear K X ih; grind [bi_0, bi_n0]) | exact jct_f (by clear K X ih; grind [bi_0, bi_n0])
  exact lp4 (100 + 1) 0 _ _ (by omega) (by omega) rfl rfl

set_option maxHeartbeats 4000000 in
set_option maxRecDepth 100000 in
theorem c_X9_litNow {G : bkG} {Z : Nat → Prop} {M : bkM} {r : Nat} {s a p q t o f : Nat → Int32} (b : Bool) : bkCi G Z Z yX9_litNow cX9_litNow 4 (some .int) 5 0 0 [.ref r, .int (bi b)] (mW G M r s a p q t o f) (fun v M' => v = nI (jct (fun c => decide (¬ jlon s c = 0) && (!b || decide (s c = 1))) 100) ∧ M' = (mW G M r s a p q t o f)) := by
  refine bk_meti [some (.ref r), some (.int (bi b)), none, none] rfl pf_X9_litNow rfl rfl (fun E X K => ?_)
  refine r_iconst (pc := 0) (v := 0) X rfl dX9_litNow_0 ?_
  refine r_istore_n (pc := 1) X rfl rfl dX9_litNow_1 ?_
  refine r_iconst (pc := 2) (v := 0) X rfl dX9_litNow_2 ?_
  refine r_istore_n (pc := 3) X rfl rfl dX9_litNow_3 ?_
  have lp4 : ∀ (d j : Nat) (x : Int32) (y : Int32), j ≤ 100 → 100 < j + d → x = nI (jct (fun c => decide (¬ jlon s c = 0) && (!b || decide (s c = 1))) j) → y = nI j → bkV E G Z 0 0 (mW G M r s a p q t o f) 4 [some (.ref r), some (.int (bi b)), some (.int x), some (.int y)] [] := by
    intro d
    induction d with
    | zero => intro j x y; intros; exfalso; omega
    | succ d ih =>
      intro j x y hj hd e1 e2
      subst e1
      subst e2
      refine r_iload_n (pc := 4) X rfl dX9_litNow_4 ?_
      refine r_bipush (pc := 5) (v := 100) X rfl dX9_litNow_5 ?_
      refine r_icmpN_ge (pc := 7) X 48 (j) (100) rfl rfl (by omega) (by omega) (by decide) dX9_litNow_7 (fun q7 => ?_) (fun q7 => ?_)
      · skip
        refine r_iload_n (pc := 48) X rfl dX9_litNow_48 ?_
        exact K dX9_litNow_49 ⟨by rw [show j = 100 by omega], rfl⟩
      · skip
        refine r_iload_n (pc := 10) X rfl dX9_litNow_10 ?_
        refine r_aload_n (pc := 11) X rfl dX9_litNow_11 ?_
        refine r_iload_n (pc := 12) X rfl dX9_litNow_12 ?_
        refine ca_X9_116 (pc := 13) X (c_X9_lightsOn j (by omega)) mW_0 rfl rfl rfl dX9_litNow_13 (fun r13 M13 hp13 => ?_)
        obtain ⟨rfl, rfl⟩ := hp13
        refine r_if_eq (pc := 16) X 39 (by decide) dX9_litNow_16 (fun q16 => ?_) (fun q16 => ?_)
        · skip
          refine r_iconst (pc := 39) (v := 0) X rfl dX9_litNow_39 ?_
          refine r_iadd (pc := 40) X dX9_litNow_40 ?_
          refine r_istore_n (pc := 41) X rfl rfl dX9_litNow_41 ?_
          refine r_iinc (pc := 42) X rfl rfl rfl dX9_litNow_42 ?_
          refine r_goto (pc := 45) X 4 (by decide) dX9_litNow_45 ?_
          refine ih (j + 1) _ _ (by omega) (by omega) ?_ (nI_1 j)
          first | exact jct_t (by clear K X ih; grind [bi_0, bi_n0]) | exact jct_f (by clear K X ih; grind [bi_0, bi_n0])
        · skip
          refine r_iload_n (pc := 19) X rfl dX9_litNow_19 ?_
          refine r_if_eq (pc := 20) X 35 (by decide) dX9_litNow_20 (fun q20 => ?_) (fun q20 => ?_)
          · skip
            refine r_iconst (pc := 35) (v := 1) X rfl dX9_litNow_35 ?_
            refine r_goto (pc := 36) X 40 (by decide) dX9_litNow_36 ?_
            refine r_iadd (pc := 40) X dX9_litNow_40 ?_
            refine r_istore_n (pc := 41) X rfl rfl dX9_litNow_41 ?_
            refine r_iinc (pc := 42) X rfl rfl rfl dX9_litNow_42 ?_
            refine r_goto (pc := 45) X 4 (by decide) dX9_litNow_45 ?_
            refine ih (j + 1) _ _ (by omega) (by omega) ?_ (nI_1 j)
            first | exact jct_t (by clear K X ih; grind [bi_0, bi_n0]) | exact jct_f (by clear K X ih; grind [bi_0, bi_n0])
          · skip
            refine r_aload_n (pc := 23) X rfl dX9_litNow_23 ?_
            refine gt_X9_7 (pc := 24) X mW_0 rfl dX9_litNow_24 ?_
            refine r_iconst (pc := 27) (v := 0) X rfl dX9_litNow_27 ?_
            refine r_iload_n (pc := 28) X rfl dX9_litNow_28 ?_
            refine r_iadd (pc := 29) X dX9_litNow_29 ?_
            refine r_iald (pc := 30) X mW_1 (j) (Int32.zero_add _) (by omega) (by decide) dX9_litNow_30 ?_
            refine r_iconst (pc := 31) (v := 1) X rfl dX9_litNow_31 ?_
            refine r_icmp_ne (pc := 32) X 39 (by decide) dX9_litNow_32 (fun q32 => ?_) (fun q32 => ?_)
            · skip
              refine r_iconst (pc := 39) (v := 0) X rfl dX9_litNow_39 ?_
              refine r_iadd (pc := 40) X dX9_litNow_40 ?_
              refine r_istore_n (pc := 41) X rfl rfl dX9_litNow_41 ?_
              refine r_iinc (pc := 42) X rfl rfl rfl dX9_litNow_42 ?_
              refine r_goto (pc := 45) X 4 (by decide) dX9_litNow_45 ?_
              refine ih (j + 1) _ _ (by omega) (by omega) ?_ (nI_1 j)
              first | exact jct_t (by clear K X ih; grind [bi_0, bi_n0]) | exact jct_f (by clear K X ih; grind [bi_0, bi_n0])
            · skip
              refine r_iconst (pc := 35) (v := 1) X rfl dX9_litNow_35 ?_
              refine r_goto (pc := 36) X 40 (by decide) dX9_litNow_36 ?_
              refine r_iadd (pc := 40) X dX9_litNow_40 ?_
              refine r_istore_n (pc := 41) X rfl rfl dX9_litNow_41 ?_
              refine r_iinc (pc := 42) X rfl rfl rfl dX9_litNow_42 ?_
              refine r_goto (pc := 45) X 4 (by decide) dX9_litNow_45 ?_
              refine ih (j + 1) _ _ (by omega) (by omega) ?_ (nI_1 j)
              first | exact jct_t (by clear K X ih; grind [bi_0, bi_n0]) | exact jct_f (by clear K X ih; grind [bi_0, bi_n0])
  exact lp4 (100 + 1) 0 _ _ (by omega) (by omega) rfl rfl

set_option maxHeartbeats 4000000 in
set_option maxRecDepth 100000 in
theorem c_X9_ofAll {G : bkG} {Z : Nat → Prop} {M : bkM} {r : Nat} {s a p q t o f : Nat → Int32} (w : Nat) (hw : w < 5) : bkCi G Z Z yX9_ofAll cX9_ofAll 4 (some .int) 1 0 0 [.ref r, .int (nI w)] (mW G M r s a p q t o f) (fun v M' => v = jsm (fun l => s (120 + 5 * l + w)) 4 ∧ M' = (mW G M r s a p q t o f)) := by
  refine bk_meti [some (.ref r), some (.int (nI w)), none, none] rfl pf_X9_ofAll rfl rfl (fun E X K => ?_)
  refine r_iconst (pc := 0) (v := 0) X rfl dX9_ofAll_0 ?_
  refine r_istore_n (pc := 1) X rfl rfl dX9_ofAll_1 ?_
  refine r_iconst (pc := 2) (v := 0) X rfl dX9_ofAll_2 ?_
  refine r_istore_n (pc := 3) X rfl rfl dX9_ofAll_3 ?_
  have lp4 : ∀ (d j : Nat) (x : Int32) (y : Int32), j ≤ 4 → 4 < j + d → x = jsm (fun l => s (120 + 5 * l + w)) j → y = nI j → bkV E G Z 0 0 (mW G M r s a p q t o f) 4 [some (.ref r), some (.int (nI w)), some (.int x), some (.int y)] [] := by
    intro d
    induction d with
    | zero => intro j x y; intros; exfalso; omega
    | succ d ih =>
      intro j x y hj hd e1 e2
      subst e1
      subst e2
      refine r_iload_n (pc := 4) X rfl dX9_ofAll_4 ?_
      refine r_iconst (pc := 5) (v := 4) X rfl dX9_ofAll_5 ?_
      refine r_icmpN_ge (pc := 6) X 28 (j) (4) rfl rfl (by omega) (by omega) (by decide) dX9_ofAll_6 (fun q6 => ?_) (fun q6 => ?_)
      · skip
        refine r_iload_n (pc := 28) X rfl dX9_ofAll_28 ?_
        exact K dX9_ofAll_29 ⟨by rw [show j = 4 by omega], rfl⟩
      · skip
        refine r_iload_n (pc := 9) X rfl dX9_ofAll_9 ?_
        refine r_aload_n (pc := 10) X rfl dX9_ofAll_10 ?_
        refine gt_X9_7 (pc := 11) X mW_0 rfl dX9_ofAll_11 ?_
        refine r_iload_n (pc := 14) X rfl dX9_ofAll_14 ?_
        refine r_iload_n (pc := 15) X rfl dX9_ofAll_15 ?_
        refine ca_X9_33 (pc := 16) X (c_X9_ofK j w) rfl rfl rfl dX9_ofAll_16 (fun r16 M16 hp16 => ?_)
        obtain ⟨rfl, rfl⟩ := hp16
        refine r_iald (pc := 19) X mW_1 (120 + 5 * j + w) rfl (by omega) (by decide) dX9_ofAll_19 ?_
        refine r_iadd (pc := 20) X dX9_ofAll_20 ?_
        refine r_istore_n (pc := 21) X rfl rfl dX9_ofAll_21 ?_
        refine r_iinc (pc := 22) X rfl rfl rfl dX9_ofAll_22 ?_
        refine r_goto (pc := 25) X 4 (by decide) dX9_ofAll_25 ?_
        exact ih (j + 1) _ _ (by omega) (by omega) rfl (nI_1 j)
  exact lp4 (4 + 1) 0 _ _ (by omega) (by omega) rfl rfl

set_option maxHeartbeats 4000000 in
set_option maxRecDepth 100000 in
theorem c_X9_worth {G : bkG} {Z : Nat → Prop} {M : bkM} {r : Nat} {s a p q t o f : Nat → Int32} {n : Nat} (hn : n ≤ 8) (hs : s 180 = nI n) (u : Nat → Bool) : bkCi G Z Z yX9_worth cX9_worth 4 (some .int) 1 0 0 [.ref r, .int (nI (jset u n))] (mW G M r s a p q t o f) (fun v M' => v = jworth s u n ∧ M' = (mW G M r s a p q t o f)) := by
  refine bk_meti [some (.ref r), some (.int (nI (jset u n))), none, none] rfl pf_X9_worth rfl rfl (fun E X K => ?_)
  refine r_iconst (pc := 0) (v := 0) X rfl dX9_worth_0 ?_
  refine r_istore_n (pc := 1) X rfl rfl dX9_worth_1 ?_
  refine r_iconst (pc := 2) (v := 0) X rfl dX9_worth_2 ?_
  refine r_istore_n (pc := 3) X rfl rfl dX9_worth_3 ?_
  have lp4 : ∀ (d j : Nat) (x : Int32) (y : Int32), j ≤ n → n < j + d → x = jworth s u j → y = nI j → bkV E G Z 0 0 (mW G M r s a p q t o f) 4 [some (.ref r), some (.int (nI (jset u n))), some (.int x), some (.int y)] [] := by
    intro d
    induction d with
    | zero => intro j x y; intros; exfalso; omega
    | succ d ih =>
      intro j x y hj hd e1 e2
      subst e1
      subst e2
      refine r_iload_n (pc := 4) X rfl dX9_worth_4 ?_
      refine r_aload_n (pc := 5) X rfl dX9_worth_5 ?_
      refine gt_X9_7 (pc := 6) X mW_0 rfl dX9_worth_6 ?_
      refine r_sipush (pc := 9) (v := 180) X rfl dX9_worth_9 ?_
      refine r_iald (pc := 12) X mW_1 (180) rfl (by omega) (by decide) dX9_worth_12 ?_
      refine r_icmpN_ge (pc := 13) X 41 (j) (n) rfl hs (by omega) (by omega) (by decide) dX9_worth_13 (fun q13 => ?_) (fun q13 => ?_)
      · skip
        refine r_iload_n (pc := 41) X rfl dX9_worth_41 ?_
        exact K dX9_worth_42 ⟨by rw [show j = n by omega], rfl⟩
      · skip
        refine r_iload_n (pc := 16) X rfl dX9_worth_16 ?_
        refine r_iload_n (pc := 17) X rfl dX9_worth_17 ?_
        refine r_iload_n (pc := 18) X rfl dX9_worth_18 ?_
        refine r_ishr (pc := 19) X dX9_worth_19 ?_
        refine r_iconst (pc := 20) (v := 1) X rfl dX9_worth_20 ?_
        refine r_iand (pc := 21) X dX9_worth_21 ?_
        refine r_aload_n (pc := 22) X rfl dX9_worth_22 ?_
        refine gt_X9_7 (pc := 23) X mW_0 rfl dX9_worth_23 ?_
        refine r_iload_n (pc := 26) X rfl dX9_worth_26 ?_
        refine r_iconst (pc := 27) (v := 0) X rfl dX9_worth_27 ?_
        refine ca_X9_100 (pc := 28) X (c_X9_ofS j 0) rfl rfl rfl dX9_worth_28 (fun r28 M28 hp28 => ?_)
        obtain ⟨rfl, rfl⟩ := hp28
        refine r_iald (pc := 31) X mW_1 (140 + 5 * j + 0) rfl (by omega) (by decide) dX9_worth_31 ?_
        refine r_imul (pc := 32) X dX9_worth_32 ?_
        refine r_iadd (pc := 33) X dX9_worth_33 ?_
        refine r_istore_n (pc := 34) X rfl rfl dX9_worth_34 ?_
        refine r_iinc (pc := 35) X rfl rfl rfl dX9_worth_35 ?_
        refine r_goto (pc := 38) X 4 (by decide) dX9_worth_38 ?_
        refine ih (j + 1) _ _ (by omega) (by omega) ?_ (nI_1 j)
        rw [jworth_step hn (by omega)]
        rfl
  exact lp4 (n + 1) 0 _ _ (by omega) (by omega) rfl rfl

set_option maxHeartbeats 4000000 in
set_option maxRecDepth 100000 in
theorem c_X9_isLitThen {G : bkG} {Z : Nat → Prop} {M : bkM} {r : Nat} {s a p q t o f : Nat → Int32} (c : Nat) (hc : c < 100) (h e : Int32) : bkCi G Z Z yX9_isLitThen cX9_isLitThen 7 (some .boolean) 3 0 0 [.ref r, .int (nI c), .int h, .int e] (mW G M r s a p q t o f) (fun v M' => v = bi (jlt s c h e) ∧ M' = (mW G M r s a p q t o f)) := by
  refine bk_metz [some (.ref r), some (.int (nI c)), some (.int h), some (.int e), none, none, none] rfl pf_X9_isLitThen rfl rfl (fun E X K => ?_)
  refine r_iconst (pc := 0) (v := 0) X rfl dX9_isLitThen_0 ?_
  refine r_istore (pc := 1) X rfl rfl dX9_isLitThen_1 ?_
  refine r_iconst (pc := 3) (v := 0) X rfl dX9_isLitThen_3 ?_
  refine r_istore (pc := 4) X rfl rfl dX9_isLitThen_4 ?_
  have lp6 : ∀ (d j : Nat) (x : Int32) (y : Int32), j ≤ 4 → 4 < j + d → x = bi (jany (fun l => jlit s l c (s 181 + h) (jmx (s (100 + 5 * l + 4) - e))) j) → y = nI j → bkV E G Z 0 0 (mW G M r s a p q t o f) 6 [some (.ref r), some (.int (nI c)), some (.int h), some (.int e), some (.int x), some (.int y), none] [] := by
    intro d
    induction d with
    | zero => intro j x y; intros; exfalso; omega
    | succ d ih =>
      intro j x y hj hd e1 e2
      subst e1
      subst e2
      refine r_iload (pc := 6) X rfl dX9_isLitThen_6 ?_
      refine r_iconst (pc := 8) (v := 4) X rfl dX9_isLitThen_8 ?_
      refine r_icmpN_ge (pc := 9) X 76 (j) (4) rfl rfl (by omega) (by omega) (by decide) dX9_isLitThen_9 (fun q9 => ?_) (fun q9 => ?_)
      · skip
        refine r_iload (pc := 76) X rfl dX9_isLitThen_76 ?_
        exact K dX9_isLitThen_78 (bi_01 _) ⟨by rw [show j = 4 by omega]; rfl, rfl⟩
      · skip
        refine r_aload_n (pc := 12) X rfl dX9_isLitThen_12 ?_
        refine gt_X9_7 (pc := 13) X mW_0 rfl dX9_isLitThen_13 ?_
        refine r_iload (pc := 16) X rfl dX9_isLitThen_16 ?_
        refine r_iconst (pc := 18) (v := 4) X rfl dX9_isLitThen_18 ?_
        refine ca_X9_29 (pc := 19) X (c_X9_ofL j 4) rfl rfl rfl dX9_isLitThen_19 (fun r19 M19 hp19 => ?_)
        obtain ⟨rfl, rfl⟩ := hp19
        refine r_iald (pc := 22) X mW_1 (100 + 5 * j + 4) rfl (by omega) (by decide) dX9_isLitThen_22 ?_
        refine r_iload_n (pc := 23) X rfl dX9_isLitThen_23 ?_
        refine r_isub (pc := 24) X dX9_isLitThen_24 ?_
        refine r_istore (pc := 25) X rfl rfl dX9_isLitThen_25 ?_
        refine r_iload (pc := 27) X rfl dX9_isLitThen_27 ?_
        refine r_if_ne (pc := 29) X 63 (by decide) dX9_isLitThen_29 (fun q29 => ?_) (fun q29 => ?_)
        · skip
          refine r_iconst (pc := 63) (v := 1) X rfl dX9_isLitThen_63 ?_
          refine r_goto (pc := 64) X 68 (by decide) dX9_isLitThen_64 ?_
          refine r_istore (pc := 68) X rfl rfl dX9_isLitThen_68 ?_
          refine r_iinc (pc := 70) X rfl rfl rfl dX9_isLitThen_70 ?_
          refine r_goto (pc := 73) X 6 (by decide) dX9_isLitThen_73 ?_
          refine bkV.drop 6 (ih (j + 1) _ _ (by omega) (by omega) ?_ (nI_1 j))
          show _ = bi (jany _ j || _)
          clear K X ih
          grind [jmx, bi, bi_0, bi_n0]
        · skip
          refine r_aload_n (pc := 32) X rfl dX9_isLitThen_32 ?_
          refine r_iload (pc := 33) X rfl dX9_isLitThen_33 ?_
          refine r_iload_n (pc := 35) X rfl dX9_isLitThen_35 ?_
          refine r_aload_n (pc := 36) X rfl dX9_isLitThen_36 ?_
          refine gt_X9_7 (pc := 37) X mW_0 rfl dX9_isLitThen_37 ?_
          refine r_sipush (pc := 40) (v := 181) X rfl dX9_isLitThen_40 ?_
          refine r_iald (pc := 43) X mW_1 (181) rfl (by omega) (by decide) dX9_isLitThen_43 ?_
          refine r_iload_n (pc := 44) X rfl dX9_isLitThen_44 ?_
          refine r_iadd (pc := 45) X dX9_isLitThen_45 ?_
          refine r_iload (pc := 46) X rfl dX9_isLitThen_46 ?_
          refine r_if_ge (pc := 48) X 55 (by decide) dX9_isLitThen_48 (fun q48 => ?_) (fun q48 => ?_)
          · skip
            refine r_iload (pc := 55) X rfl dX9_isLitThen_55 ?_
            refine ca_X9_70 (pc := 57) X (c_X9_lights j c (by omega) hc (s 181 + h) _) mW_0 rfl rfl rfl dX9_isLitThen_57 (fun r57 M57 hp57 => ?_)
            obtain ⟨rfl, rfl⟩ := hp57
            refine r_if_eq (pc := 60) X 67 (by decide) dX9_isLitThen_60 (fun q60 => ?_) (fun q60 => ?_)
            · skip
              refine r_iconst (pc := 67) (v := 0) X rfl dX9_isLitThen_67 ?_
              refine r_istore (pc := 68) X rfl rfl dX9_isLitThen_68 ?_
              refine r_iinc (pc := 70) X rfl rfl rfl dX9_isLitThen_70 ?_
              refine r_goto (pc := 73) X 6 (by decide) dX9_isLitThen_73 ?_
              refine bkV.drop 6 (ih (j + 1) _ _ (by omega) (by omega) ?_ (nI_1 j))
              show _ = bi (jany _ j || _)
              clear K X ih
              grind [jmx, bi, bi_0, bi_n0]
            · skip
              refine r_iconst (pc := 63) (v := 1) X rfl dX9_isLitThen_63 ?_
              refine r_goto (pc := 64) X 68 (by decide) dX9_isLitThen_64 ?_
              refine r_istore (pc := 68) X rfl rfl dX9_isLitThen_68 ?_
              refine r_iinc (pc := 70) X rfl rfl rfl dX9_isLitThen_70 ?_
              refine r_goto (pc := 73) X 6 (by decide) dX9_isLitThen_73 ?_
              refine bkV.drop 6 (ih (j + 1) _ _ (by omega) (by omega) ?_ (nI_1 j))
              show _ = bi (jany _ j || _)
              clear K X ih
              grind [jmx, bi, bi_0, bi_n0]
          · skip
            refine r_iconst (pc := 51) (v := 0) X rfl dX9_isLitThen_51 ?_
            refine r_goto (pc := 52) X 57 (by decide) dX9_isLitThen_52 ?_
            refine ca_X9_70 (pc := 57) X (c_X9_lights j c (by omega) hc (s 181 + h) _) mW_0 rfl rfl rfl dX9_isLitThen_57 (fun r57 M57 hp57 => ?_)
            obtain ⟨rfl, rfl⟩ := hp57
            refine r_if_eq (pc := 60) X 67 (by decide) dX9_isLitThen_60 (fun q60 => ?_) (fun q60 => ?_)
            · skip
              refine r_iconst (pc := 67) (v := 0) X rfl dX9_isLitThen_67 ?_
              refine r_istore (pc := 68) X rfl rfl dX9_isLitThen_68 ?_
              refine r_iinc (pc := 70) X rfl rfl rfl dX9_isLitThen_70 ?_
              refine r_goto (pc := 73) X 6 (by decide) dX9_isLitThen_73 ?_
              refine bkV.drop 6 (ih (j + 1) _ _ (by omega) (by omega) ?_ (nI_1 j))
              show _ = bi (jany _ j || _)
              clear K X ih
              grind [jmx, bi, bi_0, bi_n0]
            · skip
              refine r_iconst (pc := 63) (v := 1) X rfl dX9_isLitThen_63 ?_
              refine r_goto (pc := 64) X 68 (by decide) dX9_isLitThen_64 ?_
              refine r_istore (pc := 68) X rfl rfl dX9_isLitThen_68 ?_
              refine r_iinc (pc := 70) X rfl rfl rfl dX9_isLitThen_70 ?_
              refine r_goto (pc := 73) X 6 (by decide) dX9_isLitThen_73 ?_
              refine bkV.drop 6 (ih (j + 1) _ _ (by omega) (by omega) ?_ (nI_1 j))
              show _ = bi (jany _ j || _)
              clear K X ih
              grind [jmx, bi, bi_0, bi_n0]
  exact lp6 (4 + 1) 0 _ _ (by omega) (by omega) rfl rfl

