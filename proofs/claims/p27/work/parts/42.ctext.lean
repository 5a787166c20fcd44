set_option maxHeartbeats 4000000 in
set_option maxRecDepth 100000 in
theorem c_X7_signAhead {G : bkG} {Z : Nat → Prop} {M : bkM} {T : Nat} {t : Nat → Int32} {pc : Int32} {pf : Nat → Nat → Int32} {len p : Nat} (h60 : len ≤ 60) (hp : p ≤ len) (ht : tOK t) : bkCi G Z Z yX7_signAhead cX7_signAhead 1 (some .char) 0 0 0 [.ref T] (tW G T t (nI len) pc (nI p) pf M) (fun v M' => v = jah t len p ∧ M' = (tW G T t (nI len) pc (nI p) pf M)) := by
  refine bk_metc [some (.ref T)] rfl pf_X7_signAhead rfl rfl (fun E X K => ?_)
  refine r_aload_n (pc := 0) X rfl dX7_signAhead_0 ?_
  refine gt_X7_28 (pc := 1) X tW_o rfl dX7_signAhead_1 ?_
  refine r_aload_n (pc := 4) X rfl dX7_signAhead_4 ?_
  refine gt_X7_15 (pc := 5) X tW_o rfl dX7_signAhead_5 ?_
  refine r_icmpN_ge (pc := 8) X 32 (p) (len) rfl rfl (by omega) (by omega) (by decide) dX7_signAhead_8 (fun q8 => ?_) (fun q8 => ?_)
  · skip
    refine r_iconst (pc := 32) (v := 0) X rfl dX7_signAhead_32 ?_
    exact K dX7_signAhead_33 (by first | exact (ht p (by omega)).1 | rfl) ⟨by first | exact (if_pos q8).symm | exact (if_neg (by omega)).symm, rfl⟩
  · skip
    refine r_aload_n (pc := 11) X rfl dX7_signAhead_11 ?_
    refine gt_X7_28 (pc := 12) X tW_o rfl dX7_signAhead_12 ?_
    refine r_bipush (pc := 15) (v := 60) X rfl dX7_signAhead_15 ?_
    refine r_icmpN_ge (pc := 17) X 32 (p) (60) rfl rfl (by omega) (by omega) (by decide) dX7_signAhead_17 (fun q17 => ?_) (fun q17 => ?_)
    · skip
      exact absurd q17 (by omega)
    · skip
      refine r_aload_n (pc := 20) X rfl dX7_signAhead_20 ?_
      refine gt_X7_9 (pc := 21) X tW_o rfl dX7_signAhead_21 ?_
      refine r_aload_n (pc := 24) X rfl dX7_signAhead_24 ?_
      refine gt_X7_28 (pc := 25) X tW_o rfl dX7_signAhead_25 ?_
      refine r_cald (pc := 28) X tW_c (p) rfl (by omega) (by decide) dX7_signAhead_28 ?_
      refine r_goto (pc := 29) X 33 (by decide) dX7_signAhead_29 ?_
      exact K dX7_signAhead_33 (by first | exact (ht p (by omega)).1 | rfl) ⟨by first | exact (if_pos q8).symm | exact (if_neg (by omega)).symm, rfl⟩

set_option maxHeartbeats 4000000 in
set_option maxRecDepth 100000 in
theorem c_X7_readSign {G : bkG} {Z : Nat → Prop} {M : bkM} {T : Nat} {t : Nat → Int32} {pc : Int32} {pf : Nat → Nat → Int32} {len p : Nat} (h60 : len ≤ 60) (hp : p ≤ len) (ht : tOK t) (c : Int32) (hc : c ≠ -1) (hc0 : c ≠ 0) : bkCi G Z Z yX7_readSign cX7_readSign 2 (some .boolean) 1 0 0 [.ref T, .int c] (tW G T t (nI len) pc (nI p) pf M) (fun v M' => v = bi (!(jsg t len c (p, false)).2) ∧ M' = (tW G T t (nI len) pc (nI (jsg t len c (p, false)).1) pf M)) := by
  refine bk_metz [some (.ref T), some (.int c)] rfl pf_X7_readSign rfl rfl (fun E X K => ?_)
  refine r_aload_n (pc := 0) X rfl dX7_readSign_0 ?_
  refine ca_X7_40 (pc := 1) X (c_X7_signAhead h60 hp ht) tW_o rfl rfl rfl dX7_readSign_1 (fun r1 M1 hp1 => ?_)
  obtain ⟨rfl, rfl⟩ := hp1
  refine r_iload_n (pc := 4) X rfl dX7_readSign_4 ?_
  refine r_icmp_ne (pc := 5) X 20 (by decide) dX7_readSign_5 (fun q5 => ?_) (fun q5 => ?_)
  · skip
    refine r_iconst (pc := 20) (v := 0) X rfl dX7_readSign_20 ?_
    exact K dX7_readSign_21 (Or.inl rfl) ⟨by rw [jsg_f hc (jah_f q5)]; rfl, by rw [jsg_f hc (jah_f q5)]⟩
  · skip
    refine r_aload_n (pc := 8) X rfl dX7_readSign_8 ?_
    refine r_dup (pc := 9) X rfl dX7_readSign_9 ?_
    refine gt_X7_28 (pc := 10) X tW_o rfl dX7_readSign_10 ?_
    refine r_iconst (pc := 13) (v := 1) X rfl dX7_readSign_13 ?_
    refine r_iadd (pc := 14) X dX7_readSign_14 ?_
    refine pt_X7_28 (pc := 15) X tW_o  rfl dX7_readSign_15 ?_
    refine bkV.eq (show bku _ T _ = (tW G T t (nI len) pc (nI p + 1) pf M) from tS_o) ?_
    rw [nI_1]
    refine r_iconst (pc := 18) (v := 1) X rfl dX7_readSign_18 ?_
    exact K dX7_readSign_19 (Or.inr rfl) (by obtain ⟨z1, z2⟩ := jah_t hc0 q5; exact ⟨by rw [jsg_t z1 z2]; rfl, by rw [jsg_t z1 z2]⟩)

set_option maxHeartbeats 4000000 in
set_option maxRecDepth 100000 in
theorem c_X7_readDigit {G : bkG} {Z : Nat → Prop} {M : bkM} {T : Nat} {t : Nat → Int32} {pc : Int32} {pf : Nat → Nat → Int32} {len p : Nat} (h60 : len ≤ 60) (hp : p ≤ len) (ht : tOK t) (lo hi : Int32) (h0 : 0 ≤ lo) : bkCi G Z Z yX7_readDigit cX7_readDigit 4 (some .int) 1 0 0 [.ref T, .int lo, .int hi] (tW G T t (nI len) pc (nI p) pf M) (fun v M' => v = kdg t len lo hi p ∧ M' = (tW G T t (nI len) pc (nI (jdg t len lo hi (p, false)).1) pf M)) := by
  refine bk_meti [some (.ref T), some (.int lo), some (.int hi), none] rfl pf_X7_readDigit rfl rfl (fun E X K => ?_)
  refine r_aload_n (pc := 0) X rfl dX7_readDigit_0 ?_
  refine ca_X7_40 (pc := 1) X (c_X7_signAhead h60 hp ht) tW_o rfl rfl rfl dX7_readDigit_1 (fun r1 M1 hp1 => ?_)
  obtain ⟨rfl, rfl⟩ := hp1
  refine r_bipush (pc := 4) (v := 48) X rfl dX7_readDigit_4 ?_
  refine r_isub (pc := 6) X dX7_readDigit_6 ?_
  refine r_istore_n (pc := 7) X rfl rfl dX7_readDigit_7 ?_
  refine r_iload_n (pc := 8) X rfl dX7_readDigit_8 ?_
  refine r_iload_n (pc := 9) X rfl dX7_readDigit_9 ?_
  refine r_icmp_lt (pc := 10) X 18 (by decide) dX7_readDigit_10 (fun q10 => ?_) (fun q10 => ?_)
  · skip
    refine r_bipush (pc := 18) (v := (-5)) X rfl dX7_readDigit_18 ?_
    exact K dX7_readDigit_20 (by have z : ¬ p < len ∨ ¬ lo ≤ t p - 48 ∨ ¬ t p - 48 ≤ hi := (by first | exact jah_e (Or.inl q10) | exact jah_e (Or.inr q15)); exact ⟨by unfold kdg; rw [jdg_f h0 z]; rfl, by rw [jdg_f h0 z]⟩)
  · skip
    refine r_iload_n (pc := 13) X rfl dX7_readDigit_13 ?_
    refine r_iload_n (pc := 14) X rfl dX7_readDigit_14 ?_
    refine r_icmp_le (pc := 15) X 21 (by decide) dX7_readDigit_15 (fun q15 => ?_) (fun q15 => ?_)
    · skip
      refine r_aload_n (pc := 21) X rfl dX7_readDigit_21 ?_
      refine r_dup (pc := 22) X rfl dX7_readDigit_22 ?_
      refine gt_X7_28 (pc := 23) X tW_o rfl dX7_readDigit_23 ?_
      refine r_iconst (pc := 26) (v := 1) X rfl dX7_readDigit_26 ?_
      refine r_iadd (pc := 27) X dX7_readDigit_27 ?_
      refine pt_X7_28 (pc := 28) X tW_o  rfl dX7_readDigit_28 ?_
      refine bkV.eq (show bku _ T _ = (tW G T t (nI len) pc (nI p + 1) pf M) from tS_o) ?_
      rw [nI_1]
      refine r_iload_n (pc := 31) X rfl dX7_readDigit_31 ?_
      exact K dX7_readDigit_32 (by obtain ⟨z1, z2⟩ := jah_d h0 q10; rw [z2] at q10 q15 ⊢; exact ⟨by unfold kdg; rw [(jdg_t z1 (Int32.not_lt.mp q10) q15).1, (jdg_t z1 (Int32.not_lt.mp q10) q15).2]; rfl, by rw [(jdg_t z1 (Int32.not_lt.mp q10) q15).1]⟩)
    · skip
      refine r_bipush (pc := 18) (v := (-5)) X rfl dX7_readDigit_18 ?_
      exact K dX7_readDigit_20 (by have z : ¬ p < len ∨ ¬ lo ≤ t p - 48 ∨ ¬ t p - 48 ≤ hi := (by first | exact jah_e (Or.inl q10) | exact jah_e (Or.inr q15)); exact ⟨by unfold kdg; rw [jdg_f h0 z]; rfl, by rw [jdg_f h0 z]⟩)

set_option maxHeartbeats 4000000 in
set_option maxRecDepth 100000 in
theorem c_X7_append {G : bkG} {Z : Nat → Prop} {M : bkM} {T : Nat} {t : Nat → Int32} {pc pl : Int32} {pf : Nat → Nat → Int32} {len : Nat} (h60 : len ≤ 60) (x : Int32) : bkCi G Z Z yX7_append cX7_append 2 (some .int) 0 0 0 [.ref T, .int x] (tW G T t (nI len) pc pl pf M) (fun v M' => v = (if len = 60 then -3 else nI (len + 1)) ∧ M' = (if len = 60 then (tW G T t (nI len) pc pl pf M) else (tW G T (upd t len (vp_nar .char x)) (nI (len + 1)) pc pl pf M))) := by
  refine bk_meti [some (.ref T), some (.int x)] rfl pf_X7_append rfl rfl (fun E X K => ?_)
  refine r_aload_n (pc := 0) X rfl dX7_append_0 ?_
  refine gt_X7_15 (pc := 1) X tW_o rfl dX7_append_1 ?_
  refine r_bipush (pc := 4) (v := 60) X rfl dX7_append_4 ?_
  refine r_icmpN_lt (pc := 6) X 12 (len) (60) rfl rfl (by omega) (by omega) (by decide) dX7_append_6 (fun q6 => ?_) (fun q6 => ?_)
  · skip
    refine r_aload_n (pc := 12) X rfl dX7_append_12 ?_
    refine gt_X7_9 (pc := 13) X tW_o rfl dX7_append_13 ?_
    refine r_aload_n (pc := 16) X rfl dX7_append_16 ?_
    refine gt_X7_15 (pc := 17) X tW_o rfl dX7_append_17 ?_
    refine r_iload_n (pc := 20) X rfl dX7_append_20 ?_
    refine r_cast (pc := 21) X tW_c (len) rfl (by omega) (by decide) dX7_append_21 ?_
    refine bkV.eq tS_c ?_
    refine r_aload_n (pc := 22) X rfl dX7_append_22 ?_
    refine r_dup (pc := 23) X rfl dX7_append_23 ?_
    refine gt_X7_15 (pc := 24) X tW_o rfl dX7_append_24 ?_
    refine r_iconst (pc := 27) (v := 1) X rfl dX7_append_27 ?_
    refine r_iadd (pc := 28) X dX7_append_28 ?_
    refine pt_X7_15 (pc := 29) X tW_o  rfl dX7_append_29 ?_
    refine bkV.eq (show bku _ T _ = (tW G T (upd t len (vp_nar .char x)) (nI len + 1) pc pl pf M) from tS_o) ?_
    rw [nI_1]
    refine r_aload_n (pc := 32) X rfl dX7_append_32 ?_
    refine gt_X7_15 (pc := 33) X tW_o rfl dX7_append_33 ?_
    exact K dX7_append_36 ⟨(if_neg (by omega)).symm, (if_neg (by omega)).symm⟩
  · skip
    refine r_bipush (pc := 9) (v := (-3)) X rfl dX7_append_9 ?_
    exact K dX7_append_11 ⟨(if_pos (by omega)).symm, (if_pos (by omega)).symm⟩

