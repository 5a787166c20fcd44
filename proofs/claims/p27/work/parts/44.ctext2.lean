set_option maxHeartbeats 4000000 in
set_option maxRecDepth 100000 in
theorem c_X7_readCell {G : bkG} {Z : Nat → Prop} {M : bkM} {T : Nat} {t : Nat → Int32} {pc : Int32} {pf : Nat → Nat → Int32} {len p : Nat} (h60 : len ≤ 60) (hp : p ≤ len) (ht : tOK t) : bkCi G Z Z yX7_readCell cX7_readCell 3 (some .int) 2 0 0 [.ref T] (tW G T t (nI len) pc (nI p) pf M) (fun v M' => v = kcl t len p ∧ M' = (tW G T t (nI len) pc (nI (jcs t len (p, false)).1) pf M)) := by
  refine bk_meti [some (.ref T), none, none] rfl pf_X7_readCell rfl rfl (fun E X K => ?_)
  refine r_aload_n (pc := 0) X rfl dX7_readCell_0 ?_
  refine r_iconst (pc := 1) (v := 0) X rfl dX7_readCell_1 ?_
  refine r_bipush (pc := 2) (v := 9) X rfl dX7_readCell_2 ?_
  refine ca_X7_58 (pc := 4) X (c_X7_readDigit h60 hp ht 0 9 (by decide)) tW_o rfl rfl rfl dX7_readCell_4 (fun r4 M4 hp4 => ?_)
  obtain ⟨rfl, rfl⟩ := hp4
  refine r_istore_n (pc := 7) X rfl rfl dX7_readCell_7 ?_
  refine r_iload_n (pc := 8) X rfl dX7_readCell_8 ?_
  refine r_if_ge (pc := 9) X 17 (by decide) dX7_readCell_9 (fun q9 => ?_) (fun q9 => ?_)
  · skip
    obtain ⟨e1, k1, j1⟩ := kdg_ge (lo := 0) (hi := 9) (by decide) q9
    have hp1 : p + 1 ≤ len := by have := jdg_le (t := t) (lo := 0) (hi := 9) (x := (p, false)) (by decide) hp; rw [e1] at this; exact this
    rw [e1]
    rw [k1]
    refine r_aload_n (pc := 17) X rfl dX7_readCell_17 ?_
    refine r_iconst (pc := 18) (v := 0) X rfl dX7_readCell_18 ?_
    refine r_bipush (pc := 19) (v := 9) X rfl dX7_readCell_19 ?_
    refine ca_X7_58 (pc := 21) X (c_X7_readDigit h60 hp1 ht 0 9 (by decide)) tW_o rfl rfl rfl dX7_readCell_21 (fun r21 M21 hp21 => ?_)
    obtain ⟨rfl, rfl⟩ := hp21
    refine r_istore_n (pc := 24) X rfl rfl dX7_readCell_24 ?_
    refine r_iload_n (pc := 25) X rfl dX7_readCell_25 ?_
    refine r_if_ge (pc := 26) X 34 (by decide) dX7_readCell_26 (fun q26 => ?_) (fun q26 => ?_)
    · skip
      obtain ⟨e2, k2, j2⟩ := kdg_ge (lo := 0) (hi := 9) (by decide) q26
      rw [e2, k2]
      refine r_bipush (pc := 34) (v := 10) X rfl dX7_readCell_34 ?_
      refine r_iload_n (pc := 36) X rfl dX7_readCell_36 ?_
      refine r_imul (pc := 37) X dX7_readCell_37 ?_
      refine r_iload_n (pc := 38) X rfl dX7_readCell_38 ?_
      refine r_iadd (pc := 39) X dX7_readCell_39 ?_
      exact K dX7_readCell_40 (by first | exact ⟨(kcl_3 e1 e2).1.symm, by rw [(kcl_3 e1 e2).2]⟩ | exact ⟨(kcl_2 e1 e2).1.symm, by rw [(kcl_2 e1 e2).2]⟩ | exact ⟨(kcl_1 e1).1.symm, by rw [(kcl_1 e1).2]⟩)
    · skip
      obtain ⟨e2, k2⟩ := kdg_lt (lo := 0) (hi := 9) (by decide) q26
      rw [e2]
      refine r_bipush (pc := 29) (v := (-5)) X rfl dX7_readCell_29 ?_
      refine r_goto (pc := 31) X 40 (by decide) dX7_readCell_31 ?_
      exact K dX7_readCell_40 (by first | exact ⟨(kcl_3 e1 e2).1.symm, by rw [(kcl_3 e1 e2).2]⟩ | exact ⟨(kcl_2 e1 e2).1.symm, by rw [(kcl_2 e1 e2).2]⟩ | exact ⟨(kcl_1 e1).1.symm, by rw [(kcl_1 e1).2]⟩)
  · skip
    obtain ⟨e1, k1⟩ := kdg_lt (lo := 0) (hi := 9) (by decide) q9
    rw [e1]
    refine r_bipush (pc := 12) (v := (-5)) X rfl dX7_readCell_12 ?_
    refine r_goto (pc := 14) X 24 (by decide) dX7_readCell_14 ?_
    refine r_istore_n (pc := 24) X rfl rfl dX7_readCell_24 ?_
    refine r_iload_n (pc := 25) X rfl dX7_readCell_25 ?_
    refine r_if_ge (pc := 26) X 34 (by decide) dX7_readCell_26 (fun q26 => absurd q26 (by decide)) (fun q26 => ?_)
    refine r_bipush (pc := 29) (v := (-5)) X rfl dX7_readCell_29 ?_
    refine r_goto (pc := 31) X 40 (by decide) dX7_readCell_31 ?_
    exact K dX7_readCell_40 (by first | exact ⟨(kcl_3 e1 e2).1.symm, by rw [(kcl_3 e1 e2).2]⟩ | exact ⟨(kcl_2 e1 e2).1.symm, by rw [(kcl_2 e1 e2).2]⟩ | exact ⟨(kcl_1 e1).1.symm, by rw [(kcl_1 e1).2]⟩)

set_option maxHeartbeats 4000000 in
set_option maxRecDepth 100000 in
theorem c_X7_readNumber {G : bkG} {Z : Nat → Prop} {M : bkM} {T : Nat} {t : Nat → Int32} {pc : Int32} {pf : Nat → Nat → Int32} {len p : Nat} (h60 : len ≤ 60) (hp : p ≤ len) (ht : tOK t) (most : Int32) (hm : most = 99 ∨ most = 20) : bkCi G Z Z yX7_readNumber cX7_readNumber 4 (some .int) 2 0 0 [.ref T, .int most] (tW G T t (nI len) pc (nI p) pf M) (fun v M' => v = knm t len most p ∧ M' = (tW G T t (nI len) pc (nI (jns t len most (p, false)).1) pf M)) := by
  refine bk_meti [some (.ref T), some (.int most), none, none] rfl pf_X7_readNumber rfl rfl (fun E X K => ?_)
  refine r_aload_n (pc := 0) X rfl dX7_readNumber_0 ?_
  refine r_iconst (pc := 1) (v := 1) X rfl dX7_readNumber_1 ?_
  refine r_bipush (pc := 2) (v := 9) X rfl dX7_readNumber_2 ?_
  refine ca_X7_58 (pc := 4) X (c_X7_readDigit h60 hp ht 1 9 (by decide)) tW_o rfl rfl rfl dX7_readNumber_4 (fun r4 M4 hp4 => ?_)
  obtain ⟨rfl, rfl⟩ := hp4
  refine r_istore_n (pc := 7) X rfl rfl dX7_readNumber_7 ?_
  refine r_iload_n (pc := 8) X rfl dX7_readNumber_8 ?_
  refine r_if_ge (pc := 9) X 15 (by decide) dX7_readNumber_9 (fun q9 => ?_) (fun q9 => ?_)
  · skip
    obtain ⟨e1, k1, j1⟩ := kdg_ge (lo := 1) (hi := 9) (by decide) q9
    have hp1 : p + 1 ≤ len := by have := jdg_le (t := t) (lo := 1) (hi := 9) (x := (p, false)) (by decide) hp; rw [e1] at this; exact this
    rw [e1]
    rw [k1]
    refine r_aload_n (pc := 15) X rfl dX7_readNumber_15 ?_
    refine r_iconst (pc := 16) (v := 0) X rfl dX7_readNumber_16 ?_
    refine r_bipush (pc := 17) (v := 9) X rfl dX7_readNumber_17 ?_
    refine r_iload_n (pc := 19) X rfl dX7_readNumber_19 ?_
    refine r_bipush (pc := 20) (v := 10) X rfl dX7_readNumber_20 ?_
    refine r_iload_n (pc := 22) X rfl dX7_readNumber_22 ?_
    refine r_imul (pc := 23) X dX7_readNumber_23 ?_
    refine r_isub (pc := 24) X dX7_readNumber_24 ?_
    refine ca_X7_75 (pc := 25) X (c_J9_min_7cf53 9 (most - 10 * jdv t len (p, false))) rfl rfl rfl dX7_readNumber_25 (fun r25 M25 hp25 => ?_)
    obtain ⟨rfl, rfl⟩ := hp25
    refine ca_X7_58 (pc := 28) X (c_X7_readDigit h60 hp1 ht 0 (cmin 9 (most - 10 * jdv t len (p, false))) (by decide)) tW_o rfl rfl rfl dX7_readNumber_28 (fun r28 M28 hp28 => ?_)
    obtain ⟨rfl, rfl⟩ := hp28
    refine r_istore_n (pc := 31) X rfl rfl dX7_readNumber_31 ?_
    refine r_iload_n (pc := 32) X rfl dX7_readNumber_32 ?_
    refine r_if_ge (pc := 33) X 40 (by decide) dX7_readNumber_33 (fun q33 => ?_) (fun q33 => ?_)
    · skip
      obtain ⟨e2, k2, j2⟩ := kdg_ge (lo := 0) (hi := (cmin 9 (most - 10 * jdv t len (p, false)))) (by decide) q33
      rw [e2, k2]
      refine r_bipush (pc := 40) (v := 10) X rfl dX7_readNumber_40 ?_
      refine r_iload_n (pc := 42) X rfl dX7_readNumber_42 ?_
      refine r_imul (pc := 43) X dX7_readNumber_43 ?_
      refine r_iload_n (pc := 44) X rfl dX7_readNumber_44 ?_
      refine r_iadd (pc := 45) X dX7_readNumber_45 ?_
      exact K dX7_readNumber_46 (by first | exact ⟨(knm_3 hm e1 e2).1.symm, by rw [(knm_3 hm e1 e2).2]⟩ | exact ⟨(knm_2 hm e1 e2).1.symm, by rw [(knm_2 hm e1 e2).2]⟩)
    · skip
      obtain ⟨e2, k2⟩ := kdg_lt (lo := 0) (hi := (cmin 9 (most - 10 * jdv t len (p, false)))) (by decide) q33
      rw [e2]
      refine r_iload_n (pc := 36) X rfl dX7_readNumber_36 ?_
      refine r_goto (pc := 37) X 46 (by decide) dX7_readNumber_37 ?_
      exact K dX7_readNumber_46 (by first | exact ⟨(knm_3 hm e1 e2).1.symm, by rw [(knm_3 hm e1 e2).2]⟩ | exact ⟨(knm_2 hm e1 e2).1.symm, by rw [(knm_2 hm e1 e2).2]⟩)
  · skip
    obtain ⟨e1, k1⟩ := kdg_lt (lo := 1) (hi := 9) (by decide) q9
    rw [e1]
    refine r_bipush (pc := 12) (v := (-5)) X rfl dX7_readNumber_12 ?_
    exact K dX7_readNumber_14 ⟨(knm_1 e1).1.symm, by rw [(knm_1 e1).2]⟩

