set_option maxHeartbeats 4000000 in
set_option maxRecDepth 100000 in
theorem c_X9_next {G : bkG} {Z : Nat → Prop} {M : bkM} {r : Nat} {s a p q t o f : Nat → Int32} {x : JX} {l u v w : Int32} {len : Nat} (h7 : f 7 = nI len) (h60 : len ≤ 60) (hx : x.1 ≤ len) : bkCi G Z Z yX9_next cX9_next 1 (some .int) 0 0 0 [.ref r] (mW G M r s a p q t o (jff f x l u v w)) (fun z M' => z = jnxt t len x.1 ∧ M' = (mW G M r s a p q t o (jff f x l u v w))) := by
  refine bk_meti [some (.ref r)] rfl pf_X9_next rfl rfl (fun E X K => ?_)
  refine r_aload_n (pc := 0) X rfl dX9_next_0 ?_
  refine gt_X9_154 (pc := 1) X mW_0 rfl dX9_next_1 ?_
  refine bk_top jff9 ?_
  refine r_aload_n (pc := 4) X rfl dX9_next_4 ?_
  refine gt_X9_151 (pc := 5) X mW_0 rfl dX9_next_5 ?_
  refine bk_top (jff7.trans h7) ?_
  refine r_icmpN_ge (pc := 8) X 23 (x.1) (len) rfl rfl (by omega) (by omega) (by decide) dX9_next_8 (fun q8 => ?_) (fun q8 => ?_)
  · skip
    refine r_iconst (pc := 23) (v := (-1)) X rfl dX9_next_23 ?_
    exact K dX9_next_24 ⟨by first | exact (if_pos q8).symm | exact (if_neg (by omega)).symm, rfl⟩
  · skip
    refine r_aload_n (pc := 11) X rfl dX9_next_11 ?_
    refine gt_X9_22 (pc := 12) X mW_0 rfl dX9_next_12 ?_
    refine r_aload_n (pc := 15) X rfl dX9_next_15 ?_
    refine gt_X9_154 (pc := 16) X mW_0 rfl dX9_next_16 ?_
    refine bk_top jff9 ?_
    refine r_cald (pc := 19) X mW_5 (x.1) rfl (by omega) (by decide) dX9_next_19 ?_
    refine r_goto (pc := 20) X 24 (by decide) dX9_next_20 ?_
    exact K dX9_next_24 ⟨by first | exact (if_pos q8).symm | exact (if_neg (by omega)).symm, rfl⟩

set_option maxHeartbeats 4000000 in
set_option maxRecDepth 100000 in
theorem c_X9_sign {G : bkG} {Z : Nat → Prop} {M : bkM} {r : Nat} {s a p q t o f : Nat → Int32} {x : JX} {l u v w : Int32} {len : Nat} (h7 : f 7 = nI len) (h60 : len ≤ 60) (hx : x.1 ≤ len) (c : Int32) : bkCv G Z Z yX9_sign cX9_sign 2 1 0 0 [.ref r, .int c] (mW G M r s a p q t o (jff f x l u v w)) (fun M' => M' = (mW G M r s a p q t o (jff f (jsg t len c x) l u v w))) := by
  refine bk_metv [some (.ref r), some (.int c)] rfl pf_X9_sign rfl rfl (fun E X hn K => ?_)
  refine r_aload_n (pc := 0) X rfl dX9_sign_0 ?_
  refine r_aload_n (pc := 1) X rfl dX9_sign_1 ?_
  refine gt_X9_157 (pc := 2) X mW_0 rfl dX9_sign_2 ?_
  refine bk_top jff10 ?_
  refine r_if_ne (pc := 5) X 16 (by decide) dX9_sign_5 (fun q5 => ?_) (fun q5 => ?_)
  · skip
    refine r_iconst (pc := 16) (v := 1) X rfl dX9_sign_16 ?_
    refine r_goto (pc := 17) X 21 (by decide) dX9_sign_17 ?_
    refine pt_X9_157 (pc := 21) X mW_0 (by first | exact Or.inl rfl | exact Or.inr rfl) rfl dX9_sign_21 ?_
    refine bkV.eq mP_10 ?_
    first | rw [jff_10t] | rw [jff_10f]
    refine r_aload_n (pc := 24) X rfl dX9_sign_24 ?_
    refine r_dup (pc := 25) X rfl dX9_sign_25 ?_
    refine gt_X9_154 (pc := 26) X mW_0 rfl dX9_sign_26 ?_
    refine bk_top jff9 ?_
    refine r_aload_n (pc := 29) X rfl dX9_sign_29 ?_
    refine gt_X9_157 (pc := 30) X mW_0 rfl dX9_sign_30 ?_
    refine bk_top jff10 ?_
    refine r_if_eq (pc := 33) X 40 (by decide) dX9_sign_33 (fun q33 => ?_) (fun q33 => ?_)
    · skip
      refine r_iconst (pc := 40) (v := 1) X rfl dX9_sign_40 ?_
      refine r_iadd (pc := 41) X dX9_sign_41 ?_
      refine pt_X9_154 (pc := 42) X mW_0  rfl dX9_sign_42 ?_
      refine bkV.eq mP_9 ?_
      first | rw [jff_9a] | rw [jff_9b]
      exact K dX9_sign_45 (congrArg (fun z => (mW G M r s a p q t o (jff f z l u v w))) (by clear K X; first | exact absurd q33 (by decide) | grind [jsg, bi_0, bi_n0]))
    · skip
      refine r_iconst (pc := 36) (v := 0) X rfl dX9_sign_36 ?_
      refine r_goto (pc := 37) X 41 (by decide) dX9_sign_37 ?_
      refine r_iadd (pc := 41) X dX9_sign_41 ?_
      refine pt_X9_154 (pc := 42) X mW_0  rfl dX9_sign_42 ?_
      refine bkV.eq mP_9 ?_
      first | rw [jff_9a] | rw [jff_9b]
      exact K dX9_sign_45 (congrArg (fun z => (mW G M r s a p q t o (jff f z l u v w))) (by clear K X; first | exact absurd q33 (by decide) | grind [jsg, bi_0, bi_n0]))
  · skip
    refine r_aload_n (pc := 8) X rfl dX9_sign_8 ?_
    refine ca_X9_161 (pc := 9) X (c_X9_next h7 h60 hx) mW_0 rfl rfl rfl dX9_sign_9 (fun r9 M9 hp9 => ?_)
    obtain ⟨rfl, rfl⟩ := hp9
    refine r_iload_n (pc := 12) X rfl dX9_sign_12 ?_
    refine r_icmp_eq (pc := 13) X 20 (by decide) dX9_sign_13 (fun q13 => ?_) (fun q13 => ?_)
    · skip
      refine r_iconst (pc := 20) (v := 0) X rfl dX9_sign_20 ?_
      refine pt_X9_157 (pc := 21) X mW_0 (by first | exact Or.inl rfl | exact Or.inr rfl) rfl dX9_sign_21 ?_
      refine bkV.eq mP_10 ?_
      first | rw [jff_10t] | rw [jff_10f]
      refine r_aload_n (pc := 24) X rfl dX9_sign_24 ?_
      refine r_dup (pc := 25) X rfl dX9_sign_25 ?_
      refine gt_X9_154 (pc := 26) X mW_0 rfl dX9_sign_26 ?_
      refine bk_top jff9 ?_
      refine r_aload_n (pc := 29) X rfl dX9_sign_29 ?_
      refine gt_X9_157 (pc := 30) X mW_0 rfl dX9_sign_30 ?_
      refine bk_top jff10 ?_
      refine r_if_eq (pc := 33) X 40 (by decide) dX9_sign_33 (fun q33 => ?_) (fun q33 => ?_)
      · skip
        refine r_iconst (pc := 40) (v := 1) X rfl dX9_sign_40 ?_
        refine r_iadd (pc := 41) X dX9_sign_41 ?_
        refine pt_X9_154 (pc := 42) X mW_0  rfl dX9_sign_42 ?_
        refine bkV.eq mP_9 ?_
        first | rw [jff_9a] | rw [jff_9b]
        exact K dX9_sign_45 (congrArg (fun z => (mW G M r s a p q t o (jff f z l u v w))) (by clear K X; first | exact absurd q33 (by decide) | grind [jsg, bi_0, bi_n0]))
      · skip
        refine r_iconst (pc := 36) (v := 0) X rfl dX9_sign_36 ?_
        refine r_goto (pc := 37) X 41 (by decide) dX9_sign_37 ?_
        refine r_iadd (pc := 41) X dX9_sign_41 ?_
        refine pt_X9_154 (pc := 42) X mW_0  rfl dX9_sign_42 ?_
        refine bkV.eq mP_9 ?_
        first | rw [jff_9a] | rw [jff_9b]
        exact K dX9_sign_45 (congrArg (fun z => (mW G M r s a p q t o (jff f z l u v w))) (by clear K X; first | exact absurd q33 (by decide) | grind [jsg, bi_0, bi_n0]))
    · skip
      refine r_iconst (pc := 16) (v := 1) X rfl dX9_sign_16 ?_
      refine r_goto (pc := 17) X 21 (by decide) dX9_sign_17 ?_
      refine pt_X9_157 (pc := 21) X mW_0 (by first | exact Or.inl rfl | exact Or.inr rfl) rfl dX9_sign_21 ?_
      refine bkV.eq mP_10 ?_
      first | rw [jff_10t] | rw [jff_10f]
      refine r_aload_n (pc := 24) X rfl dX9_sign_24 ?_
      refine r_dup (pc := 25) X rfl dX9_sign_25 ?_
      refine gt_X9_154 (pc := 26) X mW_0 rfl dX9_sign_26 ?_
      refine bk_top jff9 ?_
      refine r_aload_n (pc := 29) X rfl dX9_sign_29 ?_
      refine gt_X9_157 (pc := 30) X mW_0 rfl dX9_sign_30 ?_
      refine bk_top jff10 ?_
      refine r_if_eq (pc := 33) X 40 (by decide) dX9_sign_33 (fun q33 => ?_) (fun q33 => ?_)
      · skip
        refine r_iconst (pc := 40) (v := 1) X rfl dX9_sign_40 ?_
        refine r_iadd (pc := 41) X dX9_sign_41 ?_
        refine pt_X9_154 (pc := 42) X mW_0  rfl dX9_sign_42 ?_
        refine bkV.eq mP_9 ?_
        first | rw [jff_9a] | rw [jff_9b]
        exact K dX9_sign_45 (congrArg (fun z => (mW G M r s a p q t o (jff f z l u v w))) (by clear K X; first | exact absurd q33 (by decide) | grind [jsg, bi_0, bi_n0]))
      · skip
        refine r_iconst (pc := 36) (v := 0) X rfl dX9_sign_36 ?_
        refine r_goto (pc := 37) X 41 (by decide) dX9_sign_37 ?_
        refine r_iadd (pc := 41) X dX9_sign_41 ?_
        refine pt_X9_154 (pc := 42) X mW_0  rfl dX9_sign_42 ?_
        refine bkV.eq mP_9 ?_
        first | rw [jff_9a] | rw [jff_9b]
        exact K dX9_sign_45 (congrArg (fun z => (mW G M r s a p q t o (jff f z l u v w))) (by clear K X; first | exact absurd q33 (by decide) | grind [jsg, bi_0, bi_n0]))

set_option maxHeartbeats 4000000 in
set_option maxRecDepth 100000 in
theorem c_X9_digit {G : bkG} {Z : Nat → Prop} {M : bkM} {r : Nat} {s a p q t o f : Nat → Int32} {x : JX} {l u v w : Int32} {len : Nat} (h7 : f 7 = nI len) (h60 : len ≤ 60) (hx : x.1 ≤ len) (lo hi : Int32) : bkCi G Z Z yX9_digit cX9_digit 4 (some .int) 1 0 0 [.ref r, .int lo, .int hi] (mW G M r s a p q t o (jff f x l u v w)) (fun z M' => z = jdv t len x ∧ M' = (mW G M r s a p q t o (jff f (jdg t len lo hi x) l u v w))) := by
  refine bk_meti [some (.ref r), some (.int lo), some (.int hi), none] rfl pf_X9_digit rfl rfl (fun E X K => ?_)
  refine r_aload_n (pc := 0) X rfl dX9_digit_0 ?_
  refine ca_X9_161 (pc := 1) X (c_X9_next h7 h60 hx) mW_0 rfl rfl rfl dX9_digit_1 (fun r1 M1 hp1 => ?_)
  obtain ⟨rfl, rfl⟩ := hp1
  refine r_bipush (pc := 4) (v := 48) X rfl dX9_digit_4 ?_
  refine r_isub (pc := 6) X dX9_digit_6 ?_
  refine r_istore_n (pc := 7) X rfl rfl dX9_digit_7 ?_
  refine r_aload_n (pc := 8) X rfl dX9_digit_8 ?_
  refine r_aload_n (pc := 9) X rfl dX9_digit_9 ?_
  refine gt_X9_157 (pc := 10) X mW_0 rfl dX9_digit_10 ?_
  refine bk_top jff10 ?_
  refine r_if_ne (pc := 13) X 25 (by decide) dX9_digit_13 (fun q13 => ?_) (fun q13 => ?_)
  · skip
    refine r_iconst (pc := 25) (v := 1) X rfl dX9_digit_25 ?_
    refine r_goto (pc := 26) X 30 (by decide) dX9_digit_26 ?_
    refine pt_X9_157 (pc := 30) X mW_0 (by first | exact Or.inl rfl | exact Or.inr rfl) rfl dX9_digit_30 ?_
    refine bkV.eq mP_10 ?_
    first | rw [jff_10t] | rw [jff_10f]
    refine r_aload_n (pc := 33) X rfl dX9_digit_33 ?_
    refine r_dup (pc := 34) X rfl dX9_digit_34 ?_
    refine gt_X9_154 (pc := 35) X mW_0 rfl dX9_digit_35 ?_
    refine bk_top jff9 ?_
    refine r_aload_n (pc := 38) X rfl dX9_digit_38 ?_
    refine gt_X9_157 (pc := 39) X mW_0 rfl dX9_digit_39 ?_
    refine bk_top jff10 ?_
    refine r_if_eq (pc := 42) X 49 (by decide) dX9_digit_42 (fun q42 => ?_) (fun q42 => ?_)
    · skip
      refine r_iconst (pc := 49) (v := 1) X rfl dX9_digit_49 ?_
      refine r_iadd (pc := 50) X dX9_digit_50 ?_
      refine pt_X9_154 (pc := 51) X mW_0  rfl dX9_digit_51 ?_
      refine bkV.eq mP_9 ?_
      first | rw [jff_9a] | rw [jff_9b]
      refine r_iload_n (pc := 54) X rfl dX9_digit_54 ?_
      exact K dX9_digit_55 ⟨rfl, (congrArg (fun z => (mW G M r s a p q t o (jff f z l u v w))) (by clear K X; first | exact absurd q42 (by decide) | grind [jdg, bi_0, bi_n0]))⟩
    · skip
      refine r_iconst (pc := 45) (v := 0) X rfl dX9_digit_45 ?_
      refine r_goto (pc := 46) X 50 (by decide) dX9_digit_46 ?_
      refine r_iadd (pc := 50) X dX9_digit_50 ?_
      refine pt_X9_154 (pc := 51) X mW_0  rfl dX9_digit_51 ?_
      refine bkV.eq mP_9 ?_
      first | rw [jff_9a] | rw [jff_9b]
      refine r_iload_n (pc := 54) X rfl dX9_digit_54 ?_
      exact K dX9_digit_55 ⟨rfl, (congrArg (fun z => (mW G M r s a p q t o (jff f z l u v w))) (by clear K X; first | exact absurd q42 (by decide) | grind [jdg, bi_0, bi_n0]))⟩
  · skip
    refine r_iload_n (pc := 16) X rfl dX9_digit_16 ?_
    refine r_iload_n (pc := 17) X rfl dX9_digit_17 ?_
    refine r_iload_n (pc := 18) X rfl dX9_digit_18 ?_
    refine ca_X9_36 (pc := 19) X (c_X9_in (jnxt t len x.1 - 48) lo hi) rfl rfl rfl dX9_digit_19 (fun r19 M19 hp19 => ?_)
    obtain ⟨rfl, rfl⟩ := hp19
    refine r_if_ne (pc := 22) X 29 (by decide) dX9_digit_22 (fun q22 => ?_) (fun q22 => ?_)
    · skip
      refine r_iconst (pc := 29) (v := 0) X rfl dX9_digit_29 ?_
      refine pt_X9_157 (pc := 30) X mW_0 (by first | exact Or.inl rfl | exact Or.inr rfl) rfl dX9_digit_30 ?_
      refine bkV.eq mP_10 ?_
      first | rw [jff_10t] | rw [jff_10f]
      refine r_aload_n (pc := 33) X rfl dX9_digit_33 ?_
      refine r_dup (pc := 34) X rfl dX9_digit_34 ?_
      refine gt_X9_154 (pc := 35) X mW_0 rfl dX9_digit_35 ?_
      refine bk_top jff9 ?_
      refine r_aload_n (pc := 38) X rfl dX9_digit_38 ?_
      refine gt_X9_157 (pc := 39) X mW_0 rfl dX9_digit_39 ?_
      refine bk_top jff10 ?_
      refine r_if_eq (pc := 42) X 49 (by decide) dX9_digit_42 (fun q42 => ?_) (fun q42 => ?_)
      · skip
        refine r_iconst (pc := 49) (v := 1) X rfl dX9_digit_49 ?_
        refine r_iadd (pc := 50) X dX9_digit_50 ?_
        refine pt_X9_154 (pc := 51) X mW_0  rfl dX9_digit_51 ?_
        refine bkV.eq mP_9 ?_
        first | rw [jff_9a] | rw [jff_9b]
        refine r_iload_n (pc := 54) X rfl dX9_digit_54 ?_
        exact K dX9_digit_55 ⟨rfl, (congrArg (fun z => (mW G M r s a p q t o (jff f z l u v w))) (by clear K X; first | exact absurd q42 (by decide) | grind [jdg, bi_0, bi_n0]))⟩
      · skip
        refine r_iconst (pc := 45) (v := 0) X rfl dX9_digit_45 ?_
        refine r_goto (pc := 46) X 50 (by decide) dX9_digit_46 ?_
        refine r_iadd (pc := 50) X dX9_digit_50 ?_
        refine pt_X9_154 (pc := 51) X mW_0  rfl dX9_digit_51 ?_
        refine bkV.eq mP_9 ?_
        first | rw [jff_9a] | rw [jff_9b]
        refine r_iload_n (pc := 54) X rfl dX9_digit_54 ?_
        exact K dX9_digit_55 ⟨rfl, (congrArg (fun z => (mW G M r s a p q t o (jff f z l u v w))) (by clear K X; first | exact absurd q42 (by decide) | grind [jdg, bi_0, bi_n0]))⟩
    · skip
      refine r_iconst (pc := 25) (v := 1) X rfl dX9_digit_25 ?_
      refine r_goto (pc := 26) X 30 (by decide) dX9_digit_26 ?_
      refine pt_X9_157 (pc := 30) X mW_0 (by first | exact Or.inl rfl | exact Or.inr rfl) rfl dX9_digit_30 ?_
      refine bkV.eq mP_10 ?_
      first | rw [jff_10t] | rw [jff_10f]
      refine r_aload_n (pc := 33) X rfl dX9_digit_33 ?_
      refine r_dup (pc := 34) X rfl dX9_digit_34 ?_
      refine gt_X9_154 (pc := 35) X mW_0 rfl dX9_digit_35 ?_
      refine bk_top jff9 ?_
      refine r_aload_n (pc := 38) X rfl dX9_digit_38 ?_
      refine gt_X9_157 (pc := 39) X mW_0 rfl dX9_digit_39 ?_
      refine bk_top jff10 ?_
      refine r_if_eq (pc := 42) X 49 (by decide) dX9_digit_42 (fun q42 => ?_) (fun q42 => ?_)
      · skip
        refine r_iconst (pc := 49) (v := 1) X rfl dX9_digit_49 ?_
        refine r_iadd (pc := 50) X dX9_digit_50 ?_
        refine pt_X9_154 (pc := 51) X mW_0  rfl dX9_digit_51 ?_
        refine bkV.eq mP_9 ?_
        first | rw [jff_9a] | rw [jff_9b]
        refine r_iload_n (pc := 54) X rfl dX9_digit_54 ?_
        exact K dX9_digit_55 ⟨rfl, (congrArg (fun z => (mW G M r s a p q t o (jff f z l u v w))) (by clear K X; first | exact absurd q42 (by decide) | grind [jdg, bi_0, bi_n0]))⟩
      · skip
        refine r_iconst (pc := 45) (v := 0) X rfl dX9_digit_45 ?_
        refine r_goto (pc := 46) X 50 (by decide) dX9_digit_46 ?_
        refine r_iadd (pc := 50) X dX9_digit_50 ?_
        refine pt_X9_154 (pc := 51) X mW_0  rfl dX9_digit_51 ?_
        refine bkV.eq mP_9 ?_
        first | rw [jff_9a] | rw [jff_9b]
        refine r_iload_n (pc := 54) X rfl dX9_digit_54 ?_
        exact K dX9_digit_55 ⟨rfl, (congrArg (fun z => (mW G M r s a p q t o (jff f z l u v w))) (by clear K X; first | exact absurd q42 (by decide) | grind [jdg, bi_0, bi_n0]))⟩

set_option maxHeartbeats 4000000 in
set_option maxRecDepth 100000 in
theorem c_X9_cell {G : bkG} {Z : Nat → Prop} {M : bkM} {r : Nat} {s a p q t o f : Nat → Int32} {x : JX} {l u v w : Int32} {len : Nat} (h7 : f 7 = nI len) (h60 : len ≤ 60) (hx : x.1 ≤ len) : bkCi G Z Z yX9_cell cX9_cell 3 (some .int) 2 0 0 [.ref r] (mW G M r s a p q t o (jff f x l u v w)) (fun z M' => z = jcv t len x ∧ M' = (mW G M r s a p q t o (jff f (jcs t len x) l u v w))) := by
  refine bk_meti [some (.ref r), none, none] rfl pf_X9_cell rfl rfl (fun E X K => ?_)
  refine r_aload_n (pc := 0) X rfl dX9_cell_0 ?_
  refine r_iconst (pc := 1) (v := 0) X rfl dX9_cell_1 ?_
  refine r_bipush (pc := 2) (v := 9) X rfl dX9_cell_2 ?_
  refine ca_X9_164 (pc := 4) X (c_X9_digit (x := x) h7 h60 hx 0 9) mW_0 rfl rfl rfl dX9_cell_4 (fun r4 M4 hp4 => ?_)
  obtain ⟨rfl, rfl⟩ := hp4
  refine r_istore_n (pc := 7) X rfl rfl dX9_cell_7 ?_
  refine r_aload_n (pc := 8) X rfl dX9_cell_8 ?_
  refine r_iconst (pc := 9) (v := 0) X rfl dX9_cell_9 ?_
  refine r_bipush (pc := 10) (v := 9) X rfl dX9_cell_10 ?_
  refine ca_X9_164 (pc := 12) X (c_X9_digit (x := jdg t len 0 9 x) h7 h60 (jdg_le (by decide) hx) 0 9) mW_0 rfl rfl rfl dX9_cell_12 (fun r12 M12 hp12 => ?_)
  obtain ⟨rfl, rfl⟩ := hp12
  refine r_istore_n (pc := 15) X rfl rfl dX9_cell_15 ?_
  refine r_bipush (pc := 16) (v := 10) X rfl dX9_cell_16 ?_
  refine r_iload_n (pc := 18) X rfl dX9_cell_18 ?_
  refine r_imul (pc := 19) X dX9_cell_19 ?_
  refine r_iload_n (pc := 20) X rfl dX9_cell_20 ?_
  refine r_iadd (pc := 21) X dX9_cell_21 ?_
  exact K dX9_cell_22 ⟨rfl, rfl⟩

set_option maxHeartbeats 4000000 in
set_option maxRecDepth 100000 in
theorem c_X9_number {G : bkG} {Z : Nat → Prop} {M : bkM} {r : Nat} {s a p q t o f : Nat → Int32} {x : JX} {l u v w : Int32} {len : Nat} (h7 : f 7 = nI len) (h60 : len ≤ 60) (hx : x.1 ≤ len) (most : Int32) : bkCi G Z Z yX9_number cX9_number 4 (some .int) 2 0 0 [.ref r, .int most] (mW G M r s a p q t o (jff f x l u v w)) (fun z M' => z = jnv t len most x ∧ M' = (mW G M r s a p q t o (jff f (jns t len most x) l u v w))) := by
  refine bk_meti [some (.ref r), some (.int most), none, none] rfl pf_X9_number rfl rfl (fun E X K => ?_)
  refine r_aload_n (pc := 0) X rfl dX9_number_0 ?_
  refine r_iconst (pc := 1) (v := 1) X rfl dX9_number_1 ?_
  refine r_bipush (pc := 2) (v := 9) X rfl dX9_number_2 ?_
  refine ca_X9_164 (pc := 4) X (c_X9_digit (x := x) h7 h60 hx 1 9) mW_0 rfl rfl rfl dX9_number_4 (fun r4 M4 hp4 => ?_)
  obtain ⟨rfl, rfl⟩ := hp4
  refine r_istore_n (pc := 7) X rfl rfl dX9_number_7 ?_
  refine r_bipush (pc := 8) (v := 10) X rfl dX9_number_8 ?_
  refine r_iload_n (pc := 10) X rfl dX9_number_10 ?_
  refine r_imul (pc := 11) X dX9_number_11 ?_
  refine r_aload_n (pc := 12) X rfl dX9_number_12 ?_
  refine ca_X9_161 (pc := 13) X (c_X9_next (x := (jdg t len 1 9 x)) h7 h60 (jdg_le (by decide) hx)) mW_0 rfl rfl rfl dX9_number_13 (fun r13 M13 hp13 => ?_)
  obtain ⟨rfl, rfl⟩ := hp13
  refine r_iadd (pc := 16) X dX9_number_16 ?_
  refine r_bipush (pc := 17) (v := 48) X rfl dX9_number_17 ?_
  refine r_isub (pc := 19) X dX9_number_19 ?_
  refine r_istore_n (pc := 20) X rfl rfl dX9_number_20 ?_
  refine r_aload_n (pc := 21) X rfl dX9_number_21 ?_
  refine gt_X9_157 (pc := 22) X mW_0 rfl dX9_number_22 ?_
  refine bk_top jff10 ?_
  refine r_if_ne (pc := 25) X 59 (by decide) dX9_number_25 (fun q25 => ?_) (fun q25 => ?_)
  · skip
    refine r_iload_n (pc := 59) X rfl dX9_number_59 ?_
    have ht : ¬ jn2 t len most x = true := by clear K X; unfold jn2; grind [bi_0, bi_n0, jdv]
    exact K dX9_number_60 ⟨by unfold jnv; rw [if_neg ht], by unfold jns; rw [if_neg ht]⟩
  · skip
    refine r_aload_n (pc := 28) X rfl dX9_number_28 ?_
    refine ca_X9_161 (pc := 29) X (c_X9_next (x := (jdg t len 1 9 x)) h7 h60 (jdg_le (by decide) hx)) mW_0 rfl rfl rfl dX9_number_29 (fun r29 M29 hp29 => ?_)
    obtain ⟨rfl, rfl⟩ := hp29
    refine r_bipush (pc := 32) (v := 48) X rfl dX9_number_32 ?_
    refine r_bipush (pc := 34) (v := 57) X rfl dX9_number_34 ?_
    refine ca_X9_36 (pc := 36) X (c_X9_in (jnxt t len (jdg t len 1 9 x).1) 48 57) rfl rfl rfl dX9_number_36 (fun r36 M36 hp36 => ?_)
    obtain ⟨rfl, rfl⟩ := hp36
    refine r_if_eq (pc := 39) X 59 (by decide) dX9_number_39 (fun q39 => ?_) (fun q39 => ?_)
    · skip
      refine r_iload_n (pc := 59) X rfl dX9_number_59 ?_
      have ht : ¬ jn2 t len most x = true := by clear K X; unfold jn2; grind [bi_0, bi_n0, jdv]
      exact K dX9_number_60 ⟨by unfold jnv; rw [if_neg ht], by unfold jns; rw [if_neg ht]⟩
    · skip
      refine r_iload_n (pc := 42) X rfl dX9_number_42 ?_
      refine r_iload_n (pc := 43) X rfl dX9_number_43 ?_
      refine r_icmp_gt (pc := 44) X 59 (by decide) dX9_number_44 (fun q44 => ?_) (fun q44 => ?_)
      · skip
        refine r_iload_n (pc := 59) X rfl dX9_number_59 ?_
        have ht : ¬ jn2 t len most x = true := by clear K X; unfold jn2; grind [bi_0, bi_n0, jdv]
        exact K dX9_number_60 ⟨by unfold jnv; rw [if_neg ht], by unfold jns; rw [if_neg ht]⟩
      · skip
        refine r_aload_n (pc := 47) X rfl dX9_number_47 ?_
        refine r_dup (pc := 48) X rfl dX9_number_48 ?_
        refine gt_X9_154 (pc := 49) X mW_0 rfl dX9_number_49 ?_
        refine bk_top jff9 ?_
        refine r_iconst (pc := 52) (v := 1) X rfl dX9_number_52 ?_
        refine r_iadd (pc := 53) X dX9_number_53 ?_
        refine pt_X9_154 (pc := 54) X mW_0  rfl dX9_number_54 ?_
        refine bkV.eq mP_9 ?_
        first | rw [jff_9a] | rw [jff_9b]
        refine r_iload_n (pc := 57) X rfl dX9_number_57 ?_
        have ht : jn2 t len most x = true := by clear K X; unfold jn2; grind [bi_0, bi_n0, jdv]
        exact K dX9_number_58 ⟨by unfold jnv; rw [if_pos ht], by unfold jns; rw [if_pos ht]⟩

set_option maxHeartbeats 4000000 in
set_option maxRecDepth 100000 in
theorem c_X9_part {G : bkG} {Z : Nat → Prop} {M : bkM} {r : Nat} {s a p q t o f : Nat → Int32} {x : JX} {l u v w : Int32} {len : Nat} (h7 : f 7 = nI len) (h60 : len ≤ 60) (hx : x.1 ≤ len) : bkCv G Z Z yX9_part cX9_part 1 3 0 0 [.ref r] (mW G M r s a p q t o (jff f x l u v w)) (fun M' => M' = (mW G M r s a p q t o (jff f (jpx t len x) (jpl t len x) (jpa t len x) (jpb t len x v) (jpd t len x w)))) := by
  refine bk_metv [some (.ref r)] rfl pf_X9_part rfl rfl (fun E X hn K => ?_)
  have t92 : ∀ (x1 : JX) (y : Int32), x1.1 ≤ len → x1 = jp1 t len x → y = jpl t len x → bkV E G Z 0 0 (mW G M r s a p q t o (jff f x1 y u v w)) 92 [some (.ref r)] [] := by
    intro x1 y hx1 ex ey
    refine r_aload_n (pc := 92) X rfl dX9_part_92 ?_
    refine gt_X9_167 (pc := 93) X mW_0 rfl dX9_part_93 ?_
    refine bk_top jff11 ?_
    by_cases y1 : y = 114
    · subst y1
      refine r_lookup (pc := 96) X 132 rfl rfl (by decide) dX9_part_96 ?_
      refine r_aload_n (pc := 132) X rfl dX9_part_132 ?_
      refine r_aload_n (pc := 133) X rfl dX9_part_133 ?_
      refine ca_X9_170 (pc := 134) X (c_X9_cell (x := x1) h7 h60 hx1) mW_0 rfl rfl rfl dX9_part_134 (fun r134 M134 hp134 => ?_)
      obtain ⟨rfl, rfl⟩ := hp134
      refine pt_X9_173 (pc := 137) X mW_0  rfl dX9_part_137 ?_
      refine bkV.eq mP_12 ?_
      rw [jff_12]
      refine r_goto (pc := 140) X 218 (by decide) dX9_part_140 ?_
      exact K dX9_part_218 (by unfold jpx jpa jpb jpd; rw [← ex, ← ey]; first | rfl | (unfold jqx jqa jqb jqc; rw [if_neg y1, if_neg y2, if_neg y3, if_neg y1, if_neg y2, if_neg y3, if_neg y1, if_neg y2, if_neg y3, if_neg y2]))
    · by_cases y2 : y = 115
      · subst y2
        refine r_lookup (pc := 96) X 143 rfl rfl (by decide) dX9_part_96 ?_
        refine r_aload_n (pc := 143) X rfl dX9_part_143 ?_
        refine r_aload_n (pc := 144) X rfl dX9_part_144 ?_
        refine r_bipush (pc := 145) (v := 99) X rfl dX9_part_145 ?_
        refine ca_X9_176 (pc := 147) X (c_X9_number (x := x1) h7 h60 hx1 99) mW_0 rfl rfl rfl dX9_part_147 (fun r147 M147 hp147 => ?_)
        obtain ⟨rfl, rfl⟩ := hp147
        refine pt_X9_173 (pc := 150) X mW_0  rfl dX9_part_150 ?_
        refine bkV.eq mP_12 ?_
        rw [jff_12]
        refine r_aload_n (pc := 153) X rfl dX9_part_153 ?_
        refine r_bipush (pc := 154) (v := 58) X rfl dX9_part_154 ?_
        refine ca_X9_179 (pc := 156) X (c_X9_sign (x := (jns t len 99 x1)) h7 h60 (jns_le hx1) 58) mW_0 rfl rfl rfl dX9_part_156 (fun M156 hp156 => ?_)
        obtain rfl := hp156
        refine r_aload_n (pc := 159) X rfl dX9_part_159 ?_
        refine r_aload_n (pc := 160) X rfl dX9_part_160 ?_
        refine ca_X9_170 (pc := 161) X (c_X9_cell (x := (jsg t len 58 (jns t len 99 x1))) h7 h60 (jsg_le (by decide) (jns_le hx1))) mW_0 rfl rfl rfl dX9_part_161 (fun r161 M161 hp161 => ?_)
        obtain ⟨rfl, rfl⟩ := hp161
        refine pt_X9_182 (pc := 164) X mW_0  rfl dX9_part_164 ?_
        refine bkV.eq mP_13 ?_
        rw [jff_13]
        refine r_aload_n (pc := 167) X rfl dX9_part_167 ?_
        refine r_bipush (pc := 168) (v := 62) X rfl dX9_part_168 ?_
        refine ca_X9_179 (pc := 170) X (c_X9_sign (x := (jcs t len (jsg t len 58 (jns t len 99 x1)))) h7 h60 (jcs_le (jsg_le (by decide) (jns_le hx1))) 62) mW_0 rfl rfl rfl dX9_part_170 (fun M170 hp170 => ?_)
        obtain rfl := hp170
        refine r_aload_n (pc := 173) X rfl dX9_part_173 ?_
        refine r_aload_n (pc := 174) X rfl dX9_part_174 ?_
        refine ca_X9_170 (pc := 175) X (c_X9_cell (x := (jsg t len 62 (jcs t len (jsg t len 58 (jns t len 99 x1))))) h7 h60 (jsg_le (by decide) (jcs_le (jsg_le (by decide) (jns_le hx1))))) mW_0 rfl rfl rfl dX9_part_175 (fun r175 M175 hp175 => ?_)
        obtain ⟨rfl, rfl⟩ := hp175
        refine pt_X9_185 (pc := 178) X mW_0  rfl dX9_part_178 ?_
        refine bkV.eq mP_14 ?_
        rw [jff_14]
        refine r_goto (pc := 181) X 218 (by decide) dX9_part_181 ?_
        exact K dX9_part_218 (by unfold jpx jpa jpb jpd; rw [← ex, ← ey]; first | rfl | (unfold jqx jqa jqb jqc; rw [if_neg y1, if_neg y2, if_neg y3, if_neg y1, if_neg y2, if_neg y3, if_neg y1, if_neg y2, if_neg y3, if_neg y2]))
      · by_cases y3 : y = 100
        · subst y3
          refine r_lookup (pc := 96) X 184 rfl rfl (by decide) dX9_part_96 ?_
          refine r_aload_n (pc := 184) X rfl dX9_part_184 ?_
          refine r_aload_n (pc := 185) X rfl dX9_part_185 ?_
          refine r_iconst (pc := 186) (v := 0) X rfl dX9_part_186 ?_
          refine r_iconst (pc := 187) (v := 3) X rfl dX9_part_187 ?_
          refine ca_X9_164 (pc := 188) X (c_X9_digit (x := x1) h7 h60 hx1 0 3) mW_0 rfl rfl rfl dX9_part_188 (fun r188 M188 hp188 => ?_)
          obtain ⟨rfl, rfl⟩ := hp188
          refine pt_X9_173 (pc := 191) X mW_0  rfl dX9_part_191 ?_
          refine bkV.eq mP_12 ?_
          rw [jff_12]
          refine r_aload_n (pc := 194) X rfl dX9_part_194 ?_
          refine r_aload_n (pc := 195) X rfl dX9_part_195 ?_
          refine r_iconst (pc := 196) (v := 0) X rfl dX9_part_196 ?_
          refine r_bipush (pc := 197) (v := 7) X rfl dX9_part_197 ?_
          refine ca_X9_164 (pc := 199) X (c_X9_digit (x := (jdg t len 0 3 x1)) h7 h60 (jdg_le (by decide) hx1) 0 7) mW_0 rfl rfl rfl dX9_part_199 (fun r199 M199 hp199 => ?_)
          obtain ⟨rfl, rfl⟩ := hp199
          refine pt_X9_182 (pc := 202) X mW_0  rfl dX9_part_202 ?_
          refine bkV.eq mP_13 ?_
          rw [jff_13]
          refine r_goto (pc := 205) X 218 (by decide) dX9_part_205 ?_
          exact K dX9_part_218 (by unfold jpx jpa jpb jpd; rw [← ex, ← ey]; first | rfl | (unfold jqx jqa jqb jqc; rw [if_neg y1, if_neg y2, if_neg y3, if_neg y1, if_neg y2, if_neg y3, if_neg y1, if_neg y2, if_neg y3, if_neg y2]))
        · refine r_lookup (pc := 96) X 208 rfl (lk_def y3 y1 y2 _ _ _ _) (by decide) dX9_part_96 ?_
          refine r_aload_n (pc := 208) X rfl dX9_part_208 ?_
          refine r_aload_n (pc := 209) X rfl dX9_part_209 ?_
          refine r_bipush (pc := 210) (v := 20) X rfl dX9_part_210 ?_
          refine ca_X9_176 (pc := 212) X (c_X9_number (x := x1) h7 h60 hx1 20) mW_0 rfl rfl rfl dX9_part_212 (fun r212 M212 hp212 => ?_)
          obtain ⟨rfl, rfl⟩ := hp212
          refine pt_X9_173 (pc := 215) X mW_0  rfl dX9_part_215 ?_
          refine bkV.eq mP_12 ?_
          rw [jff_12]
          exact K dX9_part_218 (by unfold jpx jpa jpb jpd; rw [← ex, ← ey]; first | rfl | (unfold jqx jqa jqb jqc; rw [if_neg y1, if_neg y2, if_neg y3, if_neg y1, if_neg y2, if_neg y3, if_neg y1, if_neg y2, if_neg y3, if_neg y2]))
  refine r_aload_n (pc := 0) X rfl dX9_part_0 ?_
  refine r_aload_n (pc := 1) X rfl dX9_part_1 ?_
  refine gt_X9_157 (pc := 2) X mW_0 rfl dX9_part_2 ?_
  refine bk_top jff10 ?_
  refine r_if_eq (pc := 5) X 12 (by decide) dX9_part_5 (fun q5 => ?_) (fun q5 => ?_)
  · skip
    refine r_aload_n (pc := 12) X rfl dX9_part_12 ?_
    refine ca_X9_161 (pc := 13) X (c_X9_next h7 h60 hx) mW_0 rfl rfl rfl dX9_part_13 (fun r13 M13 hp13 => ?_)
    obtain ⟨rfl, rfl⟩ := hp13
    refine pt_X9_167 (pc := 16) X mW_0  rfl dX9_part_16 ?_
    refine bkV.eq mP_11 ?_
    rw [jff_11]
    refine r_aload_n (pc := 19) X rfl dX9_part_19 ?_
    refine r_aload_n (pc := 20) X rfl dX9_part_20 ?_
    refine gt_X9_157 (pc := 21) X mW_0 rfl dX9_part_21 ?_
    refine bk_top jff10 ?_
    refine r_if_ne (pc := 24) X 63 (by decide) dX9_part_24 (fun q24 => ?_) (fun q24 => ?_)
    · skip
      refine r_iconst (pc := 63) (v := 1) X rfl dX9_part_63 ?_
      refine r_goto (pc := 64) X 68 (by decide) dX9_part_64 ?_
      refine pt_X9_157 (pc := 68) X mW_0 (by first | exact Or.inl rfl | exact Or.inr rfl) rfl dX9_part_68 ?_
      refine bkV.eq mP_10 ?_
      first | rw [jff_10t] | rw [jff_10f]
      refine r_aload_n (pc := 71) X rfl dX9_part_71 ?_
      refine r_dup (pc := 72) X rfl dX9_part_72 ?_
      refine gt_X9_154 (pc := 73) X mW_0 rfl dX9_part_73 ?_
      refine bk_top jff9 ?_
      refine r_aload_n (pc := 76) X rfl dX9_part_76 ?_
      refine gt_X9_157 (pc := 77) X mW_0 rfl dX9_part_77 ?_
      refine bk_top jff10 ?_
      refine r_if_eq (pc := 80) X 87 (by decide) dX9_part_80 (fun q80 => ?_) (fun q80 => ?_)
      · skip
        refine r_iconst (pc := 87) (v := 1) X rfl dX9_part_87 ?_
        refine r_iadd (pc := 88) X dX9_part_88 ?_
        refine pt_X9_154 (pc := 89) X mW_0  rfl dX9_part_89 ?_
        refine bkV.eq mP_9 ?_
        first | rw [jff_9a] | rw [jff_9b]
        exact t92 _ _ (by first | exact hx | exact absurd q80 (by decide) | (have h9 := jp1_le (t := t) hx; have h8 : jp1 t len x = (x.1 + 1, false) := (by clear K X t92; unfold jp1 jpl; grind [bi_0, bi_n0]); rw [h8] at h9; exact h9)) (by clear K X t92; first | exact absurd q80 (by decide) | (unfold jp1 jpl; grind [bi_0, bi_n0])) (by clear K X t92; unfold jpl; grind [bi_0, bi_n0])
      · skip
        refine r_iconst (pc := 83) (v := 0) X rfl dX9_part_83 ?_
        refine r_goto (pc := 84) X 88 (by decide) dX9_part_84 ?_
        refine r_iadd (pc := 88) X dX9_part_88 ?_
        refine pt_X9_154 (pc := 89) X mW_0  rfl dX9_part_89 ?_
        refine bkV.eq mP_9 ?_
        first | rw [jff_9a] | rw [jff_9b]
        exact t92 _ _ (by first | exact hx | exact absurd q80 (by decide) | (have h9 := jp1_le (t := t) hx; have h8 : jp1 t len x = (x.1 + 1, false) := (by clear K X t92; unfold jp1 jpl; grind [bi_0, bi_n0]); rw [h8] at h9; exact h9)) (by clear K X t92; first | exact absurd q80 (by decide) | (unfold jp1 jpl; grind [bi_0, bi_n0])) (by clear K X t92; unfold jpl; grind [bi_0, bi_n0])
    · skip
      refine r_aload_n (pc := 27) X rfl dX9_part_27 ?_
      refine gt_X9_167 (pc := 28) X mW_0 rfl dX9_part_28 ?_
      refine bk_top jff11 ?_
      refine r_bipush (pc := 31) (v := 114) X rfl dX9_part_31 ?_
      refine r_icmp_eq (pc := 33) X 67 (by decide) dX9_part_33 (fun q33 => ?_) (fun q33 => ?_)
      · skip
        refine r_iconst (pc := 67) (v := 0) X rfl dX9_part_67 ?_
        refine pt_X9_157 (pc := 68) X mW_0 (by first | exact Or.inl rfl | exact Or.inr rfl) rfl dX9_part_68 ?_
        refine bkV.eq mP_10 ?_
        first | rw [jff_10t] | rw [jff_10f]
        refine r_aload_n (pc := 71) X rfl dX9_part_71 ?_
        refine r_dup (pc := 72) X rfl dX9_part_72 ?_
        refine gt_X9_154 (pc := 73) X mW_0 rfl dX9_part_73 ?_
        refine bk_top jff9 ?_
        refine r_aload_n (pc := 76) X rfl dX9_part_76 ?_
        refine gt_X9_157 (pc := 77) X mW_0 rfl dX9_part_77 ?_
        refine bk_top jff10 ?_
        refine r_if_eq (pc := 80) X 87 (by decide) dX9_part_80 (fun q80 => ?_) (fun q80 => ?_)
        · skip
          refine r_iconst (pc := 87) (v := 1) X rfl dX9_part_87 ?_
          refine r_iadd (pc := 88) X dX9_part_88 ?_
          refine pt_X9_154 (pc := 89) X mW_0  rfl dX9_part_89 ?_
          refine bkV.eq mP_9 ?_
          first | rw [jff_9a] | rw [jff_9b]
          exact t92 _ _ (by first | exact hx | exact absurd q80 (by decide) | (have h9 := jp1_le (t := t) hx; have h8 : jp1 t len x = (x.1 + 1, false) := (by clear K X t92; unfold jp1 jpl; grind [bi_0, bi_n0]); rw [h8] at h9; exact h9)) (by clear K X t92; first | exact absurd q80 (by decide) | (unfold jp1 jpl; grind [bi_0, bi_n0])) (by clear K X t92; unfold jpl; grind [bi_0, bi_n0])
        · skip
          refine r_iconst (pc := 83) (v := 0) X rfl dX9_part_83 ?_
          refine r_goto (pc := 84) X 88 (by decide) dX9_part_84 ?_
          refine r_iadd (pc := 88) X dX9_part_88 ?_
          refine pt_X9_154 (pc := 89) X mW_0  rfl dX9_part_89 ?_
          refine bkV.eq mP_9 ?_
          first | rw [jff_9a] | rw [jff_9b]
          exact t92 _ _ (by first | exact hx | exact absurd q80 (by decide) | (have h9 := jp1_le (t := t) hx; have h8 : jp1 t len x = (x.1 + 1, false) := (by clear K X t92; unfold jp1 jpl; grind [bi_0, bi_n0]); rw [h8] at h9; exact h9)) (by clear K X t92; first | exact absurd q80 (by decide) | (unfold jp1 jpl; grind [bi_0, bi_n0])) (by clear K X t92; unfold jpl; grind [bi_0, bi_n0])
      · skip
        refine r_aload_n (pc := 36) X rfl dX9_part_36 ?_
        refine gt_X9_167 (pc := 37) X mW_0 rfl dX9_part_37 ?_
        refine bk_top jff11 ?_
        refine r_bipush (pc := 40) (v := 115) X rfl dX9_part_40 ?_
        refine r_icmp_eq (pc := 42) X 67 (by decide) dX9_part_42 (fun q42 => ?_) (fun q42 => ?_)
        · skip
          refine r_iconst (pc := 67) (v := 0) X rfl dX9_part_67 ?_
          refine pt_X9_157 (pc := 68) X mW_0 (by first | exact Or.inl rfl | exact Or.inr rfl) rfl dX9_part_68 ?_
          refine bkV.eq mP_10 ?_
          first | rw [jff_10t] | rw [jff_10f]
          refine r_aload_n (pc := 71) X rfl dX9_part_71 ?_
          refine r_dup (pc := 72) X rfl dX9_part_72 ?_
          refine gt_X9_154 (pc := 73) X mW_0 rfl dX9_part_73 ?_
          refine bk_top jff9 ?_
          refine r_aload_n (pc := 76) X rfl dX9_part_76 ?_
          refine gt_X9_157 (pc := 77) X mW_0 rfl dX9_part_77 ?_
          refine bk_top jff10 ?_
          refine r_if_eq (pc := 80) X 87 (by decide) dX9_part_80 (fun q80 => ?_) (fun q80 => ?_)
          · skip
            refine r_iconst (pc := 87) (v := 1) X rfl dX9_part_87 ?_
            refine r_iadd (pc := 88) X dX9_part_88 ?_
            refine pt_X9_154 (pc := 89) X mW_0  rfl dX9_part_89 ?_
            refine bkV.eq mP_9 ?_
            first | rw [jff_9a] | rw [jff_9b]
            exact t92 _ _ (by first | exact hx | exact absurd q80 (by decide) | (have h9 := jp1_le (t := t) hx; have h8 : jp1 t len x = (x.1 + 1, false) := (by clear K X t92; unfold jp1 jpl; grind [bi_0, bi_n0]); rw [h8] at h9; exact h9)) (by clear K X t92; first | exact absurd q80 (by decide) | (unfold jp1 jpl; grind [bi_0, bi_n0])) (by clear K X t92; unfold jpl; grind [bi_0, bi_n0])
          · skip
            refine r_iconst (pc := 83) (v := 0) X rfl dX9_part_83 ?_
            refine r_goto (pc := 84) X 88 (by decide) dX9_part_84 ?_
            refine r_iadd (pc := 88) X dX9_part_88 ?_
            refine pt_X9_154 (pc := 89) X mW_0  rfl dX9_part_89 ?_
            refine bkV.eq mP_9 ?_
            first | rw [jff_9a] | rw [jff_9b]
            exact t92 _ _ (by first | exact hx | exact absurd q80 (by decide) | (have h9 := jp1_le (t := t) hx; have h8 : jp1 t len x = (x.1 + 1, false) := (by clear K X t92; unfold jp1 jpl; grind [bi_0, bi_n0]); rw [h8] at h9; exact h9)) (by clear K X t92; first | exact absurd q80 (by decide) | (unfold jp1 jpl; grind [bi_0, bi_n0])) (by clear K X t92; unfold jpl; grind [bi_0, bi_n0])
        · skip
          refine r_aload_n (pc := 45) X rfl dX9_part_45 ?_
          refine gt_X9_167 (pc := 46) X mW_0 rfl dX9_part_46 ?_
          refine bk_top jff11 ?_
          refine r_bipush (pc := 49) (v := 100) X rfl dX9_part_49 ?_
          refine r_icmp_eq (pc := 51) X 67 (by decide) dX9_part_51 (fun q51 => ?_) (fun q51 => ?_)
          · skip
            refine r_iconst (pc := 67) (v := 0) X rfl dX9_part_67 ?_
            refine pt_X9_157 (pc := 68) X mW_0 (by first | exact Or.inl rfl | exact Or.inr rfl) rfl dX9_part_68 ?_
            refine bkV.eq mP_10 ?_
            first | rw [jff_10t] | rw [jff_10f]
            refine r_aload_n (pc := 71) X rfl dX9_part_71 ?_
            refine r_dup (pc := 72) X rfl dX9_part_72 ?_
            refine gt_X9_154 (pc := 73) X mW_0 rfl dX9_part_73 ?_
            refine bk_top jff9 ?_
            refine r_aload_n (pc := 76) X rfl dX9_part_76 ?_
            refine gt_X9_157 (pc := 77) X mW_0 rfl dX9_part_77 ?_
            refine bk_top jff10 ?_
            refine r_if_eq (pc := 80) X 87 (by decide) dX9_part_80 (fun q80 => ?_) (fun q80 => ?_)
            · skip
              refine r_iconst (pc := 87) (v := 1) X rfl dX9_part_87 ?_
              refine r_iadd (pc := 88) X dX9_part_88 ?_
              refine pt_X9_154 (pc := 89) X mW_0  rfl dX9_part_89 ?_
              refine bkV.eq mP_9 ?_
              first | rw [jff_9a] | rw [jff_9b]
              exact t92 _ _ (by first | exact hx | exact absurd q80 (by decide) | (have h9 := jp1_le (t := t) hx; have h8 : jp1 t len x = (x.1 + 1, false) := (by clear K X t92; unfold jp1 jpl; grind [bi_0, bi_n0]); rw [h8] at h9; exact h9)) (by clear K X t92; first | exact absurd q80 (by decide) | (unfold jp1 jpl; grind [bi_0, bi_n0])) (by clear K X t92; unfold jpl; grind [bi_0, bi_n0])
            · skip
              refine r_iconst (pc := 83) (v := 0) X rfl dX9_part_83 ?_
              refine r_goto (pc := 84) X 88 (by decide) dX9_part_84 ?_
              refine r_iadd (pc := 88) X dX9_part_88 ?_
              refine pt_X9_154 (pc := 89) X mW_0  rfl dX9_part_89 ?_
              refine bkV.eq mP_9 ?_
              first | rw [jff_9a] | rw [jff_9b]
              exact t92 _ _ (by first | exact hx | exact absurd q80 (by decide) | (have h9 := jp1_le (t := t) hx; have h8 : jp1 t len x = (x.1 + 1, false) := (by clear K X t92; unfold jp1 jpl; grind [bi_0, bi_n0]); rw [h8] at h9; exact h9)) (by clear K X t92; first | exact absurd q80 (by decide) | (unfold jp1 jpl; grind [bi_0, bi_n0])) (by clear K X t92; unfold jpl; grind [bi_0, bi_n0])
          · skip
            refine r_aload_n (pc := 54) X rfl dX9_part_54 ?_
            refine gt_X9_167 (pc := 55) X mW_0 rfl dX9_part_55 ?_
            refine bk_top jff11 ?_
            refine r_bipush (pc := 58) (v := 104) X rfl dX9_part_58 ?_
            refine r_icmp_eq (pc := 60) X 67 (by decide) dX9_part_60 (fun q60 => ?_) (fun q60 => ?_)
            · skip
              refine r_iconst (pc := 67) (v := 0) X rfl dX9_part_67 ?_
              refine pt_X9_157 (pc := 68) X mW_0 (by first | exact Or.inl rfl | exact Or.inr rfl) rfl dX9_part_68 ?_
              refine bkV.eq mP_10 ?_
              first | rw [jff_10t] | rw [jff_10f]
              refine r_aload_n (pc := 71) X rfl dX9_part_71 ?_
              refine r_dup (pc := 72) X rfl dX9_part_72 ?_
              refine gt_X9_154 (pc := 73) X mW_0 rfl dX9_part_73 ?_
              refine bk_top jff9 ?_
              refine r_aload_n (pc := 76) X rfl dX9_part_76 ?_
              refine gt_X9_157 (pc := 77) X mW_0 rfl dX9_part_77 ?_
              refine bk_top jff10 ?_
              refine r_if_eq (pc := 80) X 87 (by decide) dX9_part_80 (fun q80 => ?_) (fun q80 => ?_)
              · skip
                refine r_iconst (pc := 87) (v := 1) X rfl dX9_part_87 ?_
                refine r_iadd (pc := 88) X dX9_part_88 ?_
                refine pt_X9_154 (pc := 89) X mW_0  rfl dX9_part_89 ?_
                refine bkV.eq mP_9 ?_
                first | rw [jff_9a] | rw [jff_9b]
                exact t92 _ _ (by first | exact hx | exact absurd q80 (by decide) | (have h9 := jp1_le (t := t) hx; have h8 : jp1 t len x = (x.1 + 1, false) := (by clear K X t92; unfold jp1 jpl; grind [bi_0, bi_n0]); rw [h8] at h9; exact h9)) (by clear K X t92; first | exact absurd q80 (by decide) | (unfold jp1 jpl; grind [bi_0, bi_n0])) (by clear K X t92; unfold jpl; grind [bi_0, bi_n0])
              · skip
                refine r_iconst (pc := 83) (v := 0) X rfl dX9_part_83 ?_
                refine r_goto (pc := 84) X 88 (by decide) dX9_part_84 ?_
                refine r_iadd (pc := 88) X dX9_part_88 ?_
                refine pt_X9_154 (pc := 89) X mW_0  rfl dX9_part_89 ?_
                refine bkV.eq mP_9 ?_
                first | rw [jff_9a] | rw [jff_9b]
                exact t92 _ _ (by first | exact hx | exact absurd q80 (by decide) | (have h9 := jp1_le (t := t) hx; have h8 : jp1 t len x = (x.1 + 1, false) := (by clear K X t92; unfold jp1 jpl; grind [bi_0, bi_n0]); rw [h8] at h9; exact h9)) (by clear K X t92; first | exact absurd q80 (by decide) | (unfold jp1 jpl; grind [bi_0, bi_n0])) (by clear K X t92; unfold jpl; grind [bi_0, bi_n0])
            · skip
              refine r_iconst (pc := 63) (v := 1) X rfl dX9_part_63 ?_
              refine r_goto (pc := 64) X 68 (by decide) dX9_part_64 ?_
              refine pt_X9_157 (pc := 68) X mW_0 (by first | exact Or.inl rfl | exact Or.inr rfl) rfl dX9_part_68 ?_
              refine bkV.eq mP_10 ?_
              first | rw [jff_10t] | rw [jff_10f]
              refine r_aload_n (pc := 71) X rfl dX9_part_71 ?_
              refine r_dup (pc := 72) X rfl dX9_part_72 ?_
              refine gt_X9_154 (pc := 73) X mW_0 rfl dX9_part_73 ?_
              refine bk_top jff9 ?_
              refine r_aload_n (pc := 76) X rfl dX9_part_76 ?_
              refine gt_X9_157 (pc := 77) X mW_0 rfl dX9_part_77 ?_
              refine bk_top jff10 ?_
              refine r_if_eq (pc := 80) X 87 (by decide) dX9_part_80 (fun q80 => ?_) (fun q80 => ?_)
              · skip
                refine r_iconst (pc := 87) (v := 1) X rfl dX9_part_87 ?_
                refine r_iadd (pc := 88) X dX9_part_88 ?_
                refine pt_X9_154 (pc := 89) X mW_0  rfl dX9_part_89 ?_
                refine bkV.eq mP_9 ?_
                first | rw [jff_9a] | rw [jff_9b]
                exact t92 _ _ (by first | exact hx | exact absurd q80 (by decide) | (have h9 := jp1_le (t := t) hx; have h8 : jp1 t len x = (x.1 + 1, false) := (by clear K X t92; unfold jp1 jpl; grind [bi_0, bi_n0]); rw [h8] at h9; exact h9)) (by clear K X t92; first | exact absurd q80 (by decide) | (unfold jp1 jpl; grind [bi_0, bi_n0])) (by clear K X t92; unfold jpl; grind [bi_0, bi_n0])
              · skip
                refine r_iconst (pc := 83) (v := 0) X rfl dX9_part_83 ?_
                refine r_goto (pc := 84) X 88 (by decide) dX9_part_84 ?_
                refine r_iadd (pc := 88) X dX9_part_88 ?_
                refine pt_X9_154 (pc := 89) X mW_0  rfl dX9_part_89 ?_
                refine bkV.eq mP_9 ?_
                first | rw [jff_9a] | rw [jff_9b]
                exact t92 _ _ (by first | exact hx | exact absurd q80 (by decide) | (have h9 := jp1_le (t := t) hx; have h8 : jp1 t len x = (x.1 + 1, false) := (by clear K X t92; unfold jp1 jpl; grind [bi_0, bi_n0]); rw [h8] at h9; exact h9)) (by clear K X t92; first | exact absurd q80 (by decide) | (unfold jp1 jpl; grind [bi_0, bi_n0])) (by clear K X t92; unfold jpl; grind [bi_0, bi_n0])
  · skip
    refine r_iconst (pc := 8) (v := (-1)) X rfl dX9_part_8 ?_
    refine r_goto (pc := 9) X 16 (by decide) dX9_part_9 ?_
    refine pt_X9_167 (pc := 16) X mW_0  rfl dX9_part_16 ?_
    refine bkV.eq mP_11 ?_
    rw [jff_11]
    refine r_aload_n (pc := 19) X rfl dX9_part_19 ?_
    refine r_aload_n (pc := 20) X rfl dX9_part_20 ?_
    refine gt_X9_157 (pc := 21) X mW_0 rfl dX9_part_21 ?_
    refine bk_top jff10 ?_
    refine r_if_ne (pc := 24) X 63 (by decide) dX9_part_24 (fun q24 => ?_) (fun q24 => ?_)
    · skip
      refine r_iconst (pc := 63) (v := 1) X rfl dX9_part_63 ?_
      refine r_goto (pc := 64) X 68 (by decide) dX9_part_64 ?_
      refine pt_X9_157 (pc := 68) X mW_0 (by first | exact Or.inl rfl | exact Or.inr rfl) rfl dX9_part_68 ?_
      refine bkV.eq mP_10 ?_
      first | rw [jff_10t] | rw [jff_10f]
      refine r_aload_n (pc := 71) X rfl dX9_part_71 ?_
      refine r_dup (pc := 72) X rfl dX9_part_72 ?_
      refine gt_X9_154 (pc := 73) X mW_0 rfl dX9_part_73 ?_
      refine bk_top jff9 ?_
      refine r_aload_n (pc := 76) X rfl dX9_part_76 ?_
      refine gt_X9_157 (pc := 77) X mW_0 rfl dX9_part_77 ?_
      refine bk_top jff10 ?_
      refine r_if_eq (pc := 80) X 87 (by decide) dX9_part_80 (fun q80 => ?_) (fun q80 => ?_)
      · skip
        refine r_iconst (pc := 87) (v := 1) X rfl dX9_part_87 ?_
        refine r_iadd (pc := 88) X dX9_part_88 ?_
        refine pt_X9_154 (pc := 89) X mW_0  rfl dX9_part_89 ?_
        refine bkV.eq mP_9 ?_
        first | rw [jff_9a] | rw [jff_9b]
        exact t92 _ _ (by first | exact hx | exact absurd q80 (by decide) | (have h9 := jp1_le (t := t) hx; have h8 : jp1 t len x = (x.1 + 1, false) := (by clear K X t92; unfold jp1 jpl; grind [bi_0, bi_n0]); rw [h8] at h9; exact h9)) (by clear K X t92; first | exact absurd q80 (by decide) | (unfold jp1 jpl; grind [bi_0, bi_n0])) (by clear K X t92; unfold jpl; grind [bi_0, bi_n0])
      · skip
        refine r_iconst (pc := 83) (v := 0) X rfl dX9_part_83 ?_
        refine r_goto (pc := 84) X 88 (by decide) dX9_part_84 ?_
        refine r_iadd (pc := 88) X dX9_part_88 ?_
        refine pt_X9_154 (pc := 89) X mW_0  rfl dX9_part_89 ?_
        refine bkV.eq mP_9 ?_
        first | rw [jff_9a] | rw [jff_9b]
        exact t92 _ _ (by first | exact hx | exact absurd q80 (by decide) | (have h9 := jp1_le (t := t) hx; have h8 : jp1 t len x = (x.1 + 1, false) := (by clear K X t92; unfold jp1 jpl; grind [bi_0, bi_n0]); rw [h8] at h9; exact h9)) (by clear K X t92; first | exact absurd q80 (by decide) | (unfold jp1 jpl; grind [bi_0, bi_n0])) (by clear K X t92; unfold jpl; grind [bi_0, bi_n0])
    · skip
      refine r_aload_n (pc := 27) X rfl dX9_part_27 ?_
      refine gt_X9_167 (pc := 28) X mW_0 rfl dX9_part_28 ?_
      refine bk_top jff11 ?_
      refine r_bipush (pc := 31) (v := 114) X rfl dX9_part_31 ?_
      refine r_icmp_eq (pc := 33) X 67 (by decide) dX9_part_33 (fun q33 => ?_) (fun q33 => ?_)
      · skip
        refine r_iconst (pc := 67) (v := 0) X rfl dX9_part_67 ?_
        refine pt_X9_157 (pc := 68) X mW_0 (by first | exact Or.inl rfl | exact Or.inr rfl) rfl dX9_part_68 ?_
        refine bkV.eq mP_10 ?_
        first | rw [jff_10t] | rw [jff_10f]
        refine r_aload_n (pc := 71) X rfl dX9_part_71 ?_
        refine r_dup (pc := 72) X rfl dX9_part_72 ?_
        refine gt_X9_154 (pc := 73) X mW_0 rfl dX9_part_73 ?_
        refine bk_top jff9 ?_
        refine r_aload_n (pc := 76) X rfl dX9_part_76 ?_
        refine gt_X9_157 (pc := 77) X mW_0 rfl dX9_part_77 ?_
        refine bk_top jff10 ?_
        refine r_if_eq (pc := 80) X 87 (by decide) dX9_part_80 (fun q80 => ?_) (fun q80 => ?_)
        · skip
          refine r_iconst (pc := 87) (v := 1) X rfl dX9_part_87 ?_
          refine r_iadd (pc := 88) X dX9_part_88 ?_
          refine pt_X9_154 (pc := 89) X mW_0  rfl dX9_part_89 ?_
          refine bkV.eq mP_9 ?_
          first | rw [jff_9a] | rw [jff_9b]
          exact t92 _ _ (by first | exact hx | exact absurd q80 (by decide) | (have h9 := jp1_le (t := t) hx; have h8 : jp1 t len x = (x.1 + 1, false) := (by clear K X t92; unfold jp1 jpl; grind [bi_0, bi_n0]); rw [h8] at h9; exact h9)) (by clear K X t92; first | exact absurd q80 (by decide) | (unfold jp1 jpl; grind [bi_0, bi_n0])) (by clear K X t92; unfold jpl; grind [bi_0, bi_n0])
        · skip
          refine r_iconst (pc := 83) (v := 0) X rfl dX9_part_83 ?_
          refine r_goto (pc := 84) X 88 (by decide) dX9_part_84 ?_
          refine r_iadd (pc := 88) X dX9_part_88 ?_
          refine pt_X9_154 (pc := 89) X mW_0  rfl dX9_part_89 ?_
          refine bkV.eq mP_9 ?_
          first | rw [jff_9a] | rw [jff_9b]
          exact t92 _ _ (by first | exact hx | exact absurd q80 (by decide) | (have h9 := jp1_le (t := t) hx; have h8 : jp1 t len x = (x.1 + 1, false) := (by clear K X t92; unfold jp1 jpl; grind [bi_0, bi_n0]); rw [h8] at h9; exact h9)) (by clear K X t92; first | exact absurd q80 (by decide) | (unfold jp1 jpl; grind [bi_0, bi_n0])) (by clear K X t92; unfold jpl; grind [bi_0, bi_n0])
      · skip
        refine r_aload_n (pc := 36) X rfl dX9_part_36 ?_
        refine gt_X9_167 (pc := 37) X mW_0 rfl dX9_part_37 ?_
        refine bk_top jff11 ?_
        refine r_bipush (pc := 40) (v := 115) X rfl dX9_part_40 ?_
        refine r_icmp_eq (pc := 42) X 67 (by decide) dX9_part_42 (fun q42 => ?_) (fun q42 => ?_)
        · skip
          refine r_iconst (pc := 67) (v := 0) X rfl dX9_part_67 ?_
          refine pt_X9_157 (pc := 68) X mW_0 (by first | exact Or.inl rfl | exact Or.inr rfl) rfl dX9_part_68 ?_
          refine bkV.eq mP_10 ?_
          first | rw [jff_10t] | rw [jff_10f]
          refine r_aload_n (pc := 71) X rfl dX9_part_71 ?_
          refine r_dup (pc := 72) X rfl dX9_part_72 ?_
          refine gt_X9_154 (pc := 73) X mW_0 rfl dX9_part_73 ?_
          refine bk_top jff9 ?_
          refine r_aload_n (pc := 76) X rfl dX9_part_76 ?_
          refine gt_X9_157 (pc := 77) X mW_0 rfl dX9_part_77 ?_
          refine bk_top jff10 ?_
          refine r_if_eq (pc := 80) X 87 (by decide) dX9_part_80 (fun q80 => ?_) (fun q80 => ?_)
          · skip
            refine r_iconst (pc := 87) (v := 1) X rfl dX9_part_87 ?_
            refine r_iadd (pc := 88) X dX9_part_88 ?_
            refine pt_X9_154 (pc := 89) X mW_0  rfl dX9_part_89 ?_
            refine bkV.eq mP_9 ?_
            first | rw [jff_9a] | rw [jff_9b]
            exact t92 _ _ (by first | exact hx | exact absurd q80 (by decide) | (have h9 := jp1_le (t := t) hx; have h8 : jp1 t len x = (x.1 + 1, false) := (by clear K X t92; unfold jp1 jpl; grind [bi_0, bi_n0]); rw [h8] at h9; exact h9)) (by clear K X t92; first | exact absurd q80 (by decide) | (unfold jp1 jpl; grind [bi_0, bi_n0])) (by clear K X t92; unfold jpl; grind [bi_0, bi_n0])
          · skip
            refine r_iconst (pc := 83) (v := 0) X rfl dX9_part_83 ?_
            refine r_goto (pc := 84) X 88 (by decide) dX9_part_84 ?_
            refine r_iadd (pc := 88) X dX9_part_88 ?_
            refine pt_X9_154 (pc := 89) X mW_0  rfl dX9_part_89 ?_
            refine bkV.eq mP_9 ?_
            first | rw [jff_9a] | rw [jff_9b]
            exact t92 _ _ (by first | exact hx | exact absurd q80 (by decide) | (have h9 := jp1_le (t := t) hx; have h8 : jp1 t len x = (x.1 + 1, false) := (by clear K X t92; unfold jp1 jpl; grind [bi_0, bi_n0]); rw [h8] at h9; exact h9)) (by clear K X t92; first | exact absurd q80 (by decide) | (unfold jp1 jpl; grind [bi_0, bi_n0])) (by clear K X t92; unfold jpl; grind [bi_0, bi_n0])
        · skip
          refine r_aload_n (pc := 45) X rfl dX9_part_45 ?_
          refine gt_X9_167 (pc := 46) X mW_0 rfl dX9_part_46 ?_
          refine bk_top jff11 ?_
          refine r_bipush (pc := 49) (v := 100) X rfl dX9_part_49 ?_
          refine r_icmp_eq (pc := 51) X 67 (by decide) dX9_part_51 (fun q51 => ?_) (fun q51 => ?_)
          · skip
            refine r_iconst (pc := 67) (v := 0) X rfl dX9_part_67 ?_
            refine pt_X9_157 (pc := 68) X mW_0 (by first | exact Or.inl rfl | exact Or.inr rfl) rfl dX9_part_68 ?_
            refine bkV.eq mP_10 ?_
            first | rw [jff_10t] | rw [jff_10f]
            refine r_aload_n (pc := 71) X rfl dX9_part_71 ?_
            refine r_dup (pc := 72) X rfl dX9_part_72 ?_
            refine gt_X9_154 (pc := 73) X mW_0 rfl dX9_part_73 ?_
            refine bk_top jff9 ?_
            refine r_aload_n (pc := 76) X rfl dX9_part_76 ?_
            refine gt_X9_157 (pc := 77) X mW_0 rfl dX9_part_77 ?_
            refine bk_top jff10 ?_
            refine r_if_eq (pc := 80) X 87 (by decide) dX9_part_80 (fun q80 => ?_) (fun q80 => ?_)
            · skip
              refine r_iconst (pc := 87) (v := 1) X rfl dX9_part_87 ?_
              refine r_iadd (pc := 88) X dX9_part_88 ?_
              refine pt_X9_154 (pc := 89) X mW_0  rfl dX9_part_89 ?_
              refine bkV.eq mP_9 ?_
              first | rw [jff_9a] | rw [jff_9b]
              exact t92 _ _ (by first | exact hx | exact absurd q80 (by decide) | (have h9 := jp1_le (t := t) hx; have h8 : jp1 t len x = (x.1 + 1, false) := (by clear K X t92; unfold jp1 jpl; grind [bi_0, bi_n0]); rw [h8] at h9; exact h9)) (by clear K X t92; first | exact absurd q80 (by decide) | (unfold jp1 jpl; grind [bi_0, bi_n0])) (by clear K X t92; unfold jpl; grind [bi_0, bi_n0])
            · skip
              refine r_iconst (pc := 83) (v := 0) X rfl dX9_part_83 ?_
              refine r_goto (pc := 84) X 88 (by decide) dX9_part_84 ?_
              refine r_iadd (pc := 88) X dX9_part_88 ?_
              refine pt_X9_154 (pc := 89) X mW_0  rfl dX9_part_89 ?_
              refine bkV.eq mP_9 ?_
              first | rw [jff_9a] | rw [jff_9b]
              exact t92 _ _ (by first | exact hx | exact absurd q80 (by decide) | (have h9 := jp1_le (t := t) hx; have h8 : jp1 t len x = (x.1 + 1, false) := (by clear K X t92; unfold jp1 jpl; grind [bi_0, bi_n0]); rw [h8] at h9; exact h9)) (by clear K X t92; first | exact absurd q80 (by decide) | (unfold jp1 jpl; grind [bi_0, bi_n0])) (by clear K X t92; unfold jpl; grind [bi_0, bi_n0])
          · skip
            refine r_aload_n (pc := 54) X rfl dX9_part_54 ?_
            refine gt_X9_167 (pc := 55) X mW_0 rfl dX9_part_55 ?_
            refine bk_top jff11 ?_
            refine r_bipush (pc := 58) (v := 104) X rfl dX9_part_58 ?_
            refine r_icmp_eq (pc := 60) X 67 (by decide) dX9_part_60 (fun q60 => ?_) (fun q60 => ?_)
            · skip
              refine r_iconst (pc := 67) (v := 0) X rfl dX9_part_67 ?_
              refine pt_X9_157 (pc := 68) X mW_0 (by first | exact Or.inl rfl | exact Or.inr rfl) rfl dX9_part_68 ?_
              refine bkV.eq mP_10 ?_
              first | rw [jff_10t] | rw [jff_10f]
              refine r_aload_n (pc := 71) X rfl dX9_part_71 ?_
              refine r_dup (pc := 72) X rfl dX9_part_72 ?_
              refine gt_X9_154 (pc := 73) X mW_0 rfl dX9_part_73 ?_
              refine bk_top jff9 ?_
              refine r_aload_n (pc := 76) X rfl dX9_part_76 ?_
              refine gt_X9_157 (pc := 77) X mW_0 rfl dX9_part_77 ?_
              refine bk_top jff10 ?_
              refine r_if_eq (pc := 80) X 87 (by decide) dX9_part_80 (fun q80 => ?_) (fun q80 => ?_)
              · skip
                refine r_iconst (pc := 87) (v := 1) X rfl dX9_part_87 ?_
                refine r_iadd (pc := 88) X dX9_part_88 ?_
                refine pt_X9_154 (pc := 89) X mW_0  rfl dX9_part_89 ?_
                refine bkV.eq mP_9 ?_
                first | rw [jff_9a] | rw [jff_9b]
                exact t92 _ _ (by first | exact hx | exact absurd q80 (by decide) | (have h9 := jp1_le (t := t) hx; have h8 : jp1 t len x = (x.1 + 1, false) := (by clear K X t92; unfold jp1 jpl; grind [bi_0, bi_n0]); rw [h8] at h9; exact h9)) (by clear K X t92; first | exact absurd q80 (by decide) | (unfold jp1 jpl; grind [bi_0, bi_n0])) (by clear K X t92; unfold jpl; grind [bi_0, bi_n0])
              · skip
                refine r_iconst (pc := 83) (v := 0) X rfl dX9_part_83 ?_
                refine r_goto (pc := 84) X 88 (by decide) dX9_part_84 ?_
                refine r_iadd (pc := 88) X dX9_part_88 ?_
                refine pt_X9_154 (pc := 89) X mW_0  rfl dX9_part_89 ?_
                refine bkV.eq mP_9 ?_
                first | rw [jff_9a] | rw [jff_9b]
                exact t92 _ _ (by first | exact hx | exact absurd q80 (by decide) | (have h9 := jp1_le (t := t) hx; have h8 : jp1 t len x = (x.1 + 1, false) := (by clear K X t92; unfold jp1 jpl; grind [bi_0, bi_n0]); rw [h8] at h9; exact h9)) (by clear K X t92; first | exact absurd q80 (by decide) | (unfold jp1 jpl; grind [bi_0, bi_n0])) (by clear K X t92; unfold jpl; grind [bi_0, bi_n0])
            · skip
              refine r_iconst (pc := 63) (v := 1) X rfl dX9_part_63 ?_
              refine r_goto (pc := 64) X 68 (by decide) dX9_part_64 ?_
              refine pt_X9_157 (pc := 68) X mW_0 (by first | exact Or.inl rfl | exact Or.inr rfl) rfl dX9_part_68 ?_
              refine bkV.eq mP_10 ?_
              first | rw [jff_10t] | rw [jff_10f]
              refine r_aload_n (pc := 71) X rfl dX9_part_71 ?_
              refine r_dup (pc := 72) X rfl dX9_part_72 ?_
              refine gt_X9_154 (pc := 73) X mW_0 rfl dX9_part_73 ?_
              refine bk_top jff9 ?_
              refine r_aload_n (pc := 76) X rfl dX9_part_76 ?_
              refine gt_X9_157 (pc := 77) X mW_0 rfl dX9_part_77 ?_
              refine bk_top jff10 ?_
              refine r_if_eq (pc := 80) X 87 (by decide) dX9_part_80 (fun q80 => ?_) (fun q80 => ?_)
              · skip
                refine r_iconst (pc := 87) (v := 1) X rfl dX9_part_87 ?_
                refine r_iadd (pc := 88) X dX9_part_88 ?_
                refine pt_X9_154 (pc := 89) X mW_0  rfl dX9_part_89 ?_
                refine bkV.eq mP_9 ?_
                first | rw [jff_9a] | rw [jff_9b]
                exact t92 _ _ (by first | exact hx | exact absurd q80 (by decide) | (have h9 := jp1_le (t := t) hx; have h8 : jp1 t len x = (x.1 + 1, false) := (by clear K X t92; unfold jp1 jpl; grind [bi_0, bi_n0]); rw [h8] at h9; exact h9)) (by clear K X t92; first | exact absurd q80 (by decide) | (unfold jp1 jpl; grind [bi_0, bi_n0])) (by clear K X t92; unfold jpl; grind [bi_0, bi_n0])
              · skip
                refine r_iconst (pc := 83) (v := 0) X rfl dX9_part_83 ?_
                refine r_goto (pc := 84) X 88 (by decide) dX9_part_84 ?_
                refine r_iadd (pc := 88) X dX9_part_88 ?_
                refine pt_X9_154 (pc := 89) X mW_0  rfl dX9_part_89 ?_
                refine bkV.eq mP_9 ?_
                first | rw [jff_9a] | rw [jff_9b]
                exact t92 _ _ (by first | exact hx | exact absurd q80 (by decide) | (have h9 := jp1_le (t := t) hx; have h8 : jp1 t len x = (x.1 + 1, false) := (by clear K X t92; unfold jp1 jpl; grind [bi_0, bi_n0]); rw [h8] at h9; exact h9)) (by clear K X t92; first | exact absurd q80 (by decide) | (unfold jp1 jpl; grind [bi_0, bi_n0])) (by clear K X t92; unfold jpl; grind [bi_0, bi_n0])

