set_option maxHeartbeats 4000000 in
set_option maxRecDepth 100000 in
theorem c_X7_readSign {G : bkG} {Z : Nat → Prop} {M : bkM} {T : Nat} {t : Nat → Int32} {pc : Int32} {pf : Nat → Nat → Int32} {len p : Nat} (h60 : len ≤ 60) (hp : p ≤ len) (c : Int32) (hc : c ≠ -1) : bkCi G Z Z yX7_readSign cX7_readSign 2 (some .boolean) 0 0 0 [.ref T, .int c] (tW G T t (nI len) pc (nI p) pf M) (fun v M' => v = bi (!(jsg t len c (p, false)).2) ∧ M' = (tW G T t (nI len) pc (nI (jsg t len c (p, false)).1) pf M)) := by
  refine bk_metz [some (.ref T), some (.int c)] rfl pf_X7_readSign rfl rfl (fun E X K => ?_)
  refine r_aload_n (pc := 0) X rfl dX7_readSign_0 ?_
  refine gt_X7_28 (pc := 1) X tW_o rfl dX7_readSign_1 ?_
  refine r_aload_n (pc := 4) X rfl dX7_readSign_4 ?_
  refine gt_X7_15 (pc := 5) X tW_o rfl dX7_readSign_5 ?_
  refine r_icmpN_ge (pc := 8) X 36 (p) (len) rfl rfl (by omega) (by omega) (by decide) dX7_readSign_8 (fun q8 => ?_) (fun q8 => ?_)
  · skip
    refine r_iconst (pc := 36) (v := 0) X rfl dX7_readSign_36 ?_
    exact K dX7_readSign_37 (Or.inl rfl) ⟨by first | (rw [jsg_f hc (Or.inl (by omega))]; rfl) | (rw [jsg_f hc (Or.inr q21)]; rfl), by first | rw [jsg_f hc (Or.inl (by omega))] | rw [jsg_f hc (Or.inr q21)]⟩
  · skip
    refine r_aload_n (pc := 11) X rfl dX7_readSign_11 ?_
    refine gt_X7_9 (pc := 12) X tW_o rfl dX7_readSign_12 ?_
    refine r_aload_n (pc := 15) X rfl dX7_readSign_15 ?_
    refine gt_X7_28 (pc := 16) X tW_o rfl dX7_readSign_16 ?_
    refine r_cald (pc := 19) X tW_c (p) rfl (by omega) (by decide) dX7_readSign_19 ?_
    refine r_iload_n (pc := 20) X rfl dX7_readSign_20 ?_
    refine r_icmp_ne (pc := 21) X 36 (by decide) dX7_readSign_21 (fun q21 => ?_) (fun q21 => ?_)
    · skip
      refine r_iconst (pc := 36) (v := 0) X rfl dX7_readSign_36 ?_
      exact K dX7_readSign_37 (Or.inl rfl) ⟨by first | (rw [jsg_f hc (Or.inl (by omega))]; rfl) | (rw [jsg_f hc (Or.inr q21)]; rfl), by first | rw [jsg_f hc (Or.inl (by omega))] | rw [jsg_f hc (Or.inr q21)]⟩
    · skip
      refine r_aload_n (pc := 24) X rfl dX7_readSign_24 ?_
      refine r_dup (pc := 25) X rfl dX7_readSign_25 ?_
      refine gt_X7_28 (pc := 26) X tW_o rfl dX7_readSign_26 ?_
      refine r_iconst (pc := 29) (v := 1) X rfl dX7_readSign_29 ?_
      refine r_iadd (pc := 30) X dX7_readSign_30 ?_
      refine pt_X7_28 (pc := 31) X tW_o  rfl dX7_readSign_31 ?_
      refine bkV.eq (show bku _ T _ = (tW G T t (nI len) pc (nI p + 1) pf M) from tS_o) ?_
      rw [nI_1]
      refine r_iconst (pc := 34) (v := 1) X rfl dX7_readSign_34 ?_
      exact K dX7_readSign_35 (Or.inr rfl) ⟨by rw [jsg_t q8 q21]; rfl, by rw [jsg_t q8 q21]⟩

set_option maxHeartbeats 4000000 in
set_option maxRecDepth 100000 in
theorem c_X7_readDigit {G : bkG} {Z : Nat → Prop} {M : bkM} {T : Nat} {t : Nat → Int32} {pc : Int32} {pf : Nat → Nat → Int32} {len p : Nat} (h60 : len ≤ 60) (hp : p ≤ len) (lo hi : Int32) (h0 : 0 ≤ lo) : bkCi G Z Z yX7_readDigit cX7_readDigit 4 (some .int) 0 0 0 [.ref T, .int lo, .int hi] (tW G T t (nI len) pc (nI p) pf M) (fun v M' => v = kdg t len lo hi p ∧ M' = (tW G T t (nI len) pc (nI (jdg t len lo hi (p, false)).1) pf M)) := by
  refine bk_meti [some (.ref T), some (.int lo), some (.int hi), none] rfl pf_X7_readDigit rfl rfl (fun E X K => ?_)
  refine r_aload_n (pc := 0) X rfl dX7_readDigit_0 ?_
  refine gt_X7_28 (pc := 1) X tW_o rfl dX7_readDigit_1 ?_
  refine r_aload_n (pc := 4) X rfl dX7_readDigit_4 ?_
  refine gt_X7_15 (pc := 5) X tW_o rfl dX7_readDigit_5 ?_
  refine r_icmpN_lt (pc := 8) X 14 (p) (len) rfl rfl (by omega) (by omega) (by decide) dX7_readDigit_8 (fun q8 => ?_) (fun q8 => ?_)
  · skip
    refine r_aload_n (pc := 14) X rfl dX7_readDigit_14 ?_
    refine gt_X7_9 (pc := 15) X tW_o rfl dX7_readDigit_15 ?_
    refine r_aload_n (pc := 18) X rfl dX7_readDigit_18 ?_
    refine gt_X7_28 (pc := 19) X tW_o rfl dX7_readDigit_19 ?_
    refine r_cald (pc := 22) X tW_c (p) rfl (by omega) (by decide) dX7_readDigit_22 ?_
    refine r_bipush (pc := 23) (v := 48) X rfl dX7_readDigit_23 ?_
    refine r_isub (pc := 25) X dX7_readDigit_25 ?_
    refine r_istore_n (pc := 26) X rfl rfl dX7_readDigit_26 ?_
    refine r_iload_n (pc := 27) X rfl dX7_readDigit_27 ?_
    refine r_iload_n (pc := 28) X rfl dX7_readDigit_28 ?_
    refine r_icmp_lt (pc := 29) X 37 (by decide) dX7_readDigit_29 (fun q29 => ?_) (fun q29 => ?_)
    · skip
      refine r_bipush (pc := 37) (v := (-5)) X rfl dX7_readDigit_37 ?_
      exact K dX7_readDigit_39 (by first | exact ⟨by unfold kdg; rw [jdg_f h0 (Or.inr (Or.inl (Int32.not_le.mpr q29)))]; rfl, by rw [jdg_f h0 (Or.inr (Or.inl (Int32.not_le.mpr q29)))]⟩ | exact ⟨by unfold kdg; rw [jdg_f h0 (Or.inr (Or.inr q34))]; rfl, by rw [jdg_f h0 (Or.inr (Or.inr q34))]⟩)
    · skip
      refine r_iload_n (pc := 32) X rfl dX7_readDigit_32 ?_
      refine r_iload_n (pc := 33) X rfl dX7_readDigit_33 ?_
      refine r_icmp_le (pc := 34) X 40 (by decide) dX7_readDigit_34 (fun q34 => ?_) (fun q34 => ?_)
      · skip
        refine r_aload_n (pc := 40) X rfl dX7_readDigit_40 ?_
        refine r_dup (pc := 41) X rfl dX7_readDigit_41 ?_
        refine gt_X7_28 (pc := 42) X tW_o rfl dX7_readDigit_42 ?_
        refine r_iconst (pc := 45) (v := 1) X rfl dX7_readDigit_45 ?_
        refine r_iadd (pc := 46) X dX7_readDigit_46 ?_
        refine pt_X7_28 (pc := 47) X tW_o  rfl dX7_readDigit_47 ?_
        refine bkV.eq (show bku _ T _ = (tW G T t (nI len) pc (nI p + 1) pf M) from tS_o) ?_
        rw [nI_1]
        refine r_iload_n (pc := 50) X rfl dX7_readDigit_50 ?_
        exact K dX7_readDigit_51 ⟨by unfold kdg; rw [(jdg_t q8 (Int32.not_lt.mp q29) q34).1, (jdg_t q8 (Int32.not_lt.mp q29) q34).2]; rfl, by rw [(jdg_t q8 (Int32.not_lt.mp q29) q34).1]⟩
      · skip
        refine r_bipush (pc := 37) (v := (-5)) X rfl dX7_readDigit_37 ?_
        exact K dX7_readDigit_39 (by first | exact ⟨by unfold kdg; rw [jdg_f h0 (Or.inr (Or.inl (Int32.not_le.mpr q29)))]; rfl, by rw [jdg_f h0 (Or.inr (Or.inl (Int32.not_le.mpr q29)))]⟩ | exact ⟨by unfold kdg; rw [jdg_f h0 (Or.inr (Or.inr q34))]; rfl, by rw [jdg_f h0 (Or.inr (Or.inr q34))]⟩)
  · skip
    refine r_bipush (pc := 11) (v := (-5)) X rfl dX7_readDigit_11 ?_
    exact K dX7_readDigit_13 ⟨by unfold kdg; rw [jdg_f h0 (Or.inl (by omega))]; rfl, by rw [jdg_f h0 (Or.inl (by omega))]⟩

set_option maxHeartbeats 4000000 in
set_option maxRecDepth 100000 in
theorem c_X7_append {G : bkG} {Z : Nat → Prop} {M : bkM} {T : Nat} {t : Nat → Int32} {pc pl : Int32} {pf : Nat → Nat → Int32} {len : Nat} (h60 : len ≤ 60) (x : Int32) : bkCi G Z Z yX7_append cX7_append 2 (some .int) 0 0 0 [.ref T, .int x] (tW G T t (nI len) pc pl pf M) (fun v M' => v = (if len = 60 then -3 else nI (len + 1)) ∧ M' = (if len = 60 then (tW G T t (nI len) pc pl pf M) else (tW G T (upd t len (vp_nar .char x)) (nI (len + 1)) pc pl pf M))) := by
  refine bk_meti [some (.ref T), some (.int x)] rfl pf_X7_append rfl rfl (fun E X K => ?_)
  refine r_aload_n (pc := 0) X rfl dX7_append_0 ?_
  refine gt_X7_15 (pc := 1) X tW_o rfl dX7_append_1 ?_
  refine r_bipush (pc := 4) (v := 60) X rfl dX7_append_4 ?_
  refine r_icmpN_lt (pc := 6) X 12 (len) (60) rfl rfl (by omega) (by omega) (by decide) dX7_append_6 (fun q6 => ?_) (fun q6 => ?_)
  · skip
    refine r_aload_n (pc := 12) X rfl dX7_append_12 ?_
    refine gt_X7_9 (pc := 13) X tW_o rfl dX7_append_13 ?_
    refine r_aload_n (pc := 16) X rfl dX7_append_16 ?_
    refine gt_X7_15 (pc := 17) X tW_o rfl dX7_append_17 ?_
    refine r_iload_n (pc := 20) X rfl dX7_append_20 ?_
    refine r_cast (pc := 21) X tW_c (len) rfl (by omega) (by decide) dX7_append_21 ?_
    refine bkV.eq tS_c ?_
    refine r_aload_n (pc := 22) X rfl dX7_append_22 ?_
    refine r_dup (pc := 23) X rfl dX7_append_23 ?_
    refine gt_X7_15 (pc := 24) X tW_o rfl dX7_append_24 ?_
    refine r_iconst (pc := 27) (v := 1) X rfl dX7_append_27 ?_
    refine r_iadd (pc := 28) X dX7_append_28 ?_
    refine pt_X7_15 (pc := 29) X tW_o  rfl dX7_append_29 ?_
    refine bkV.eq (show bku _ T _ = (tW G T (upd t len (vp_nar .char x)) (nI len + 1) pc pl pf M) from tS_o) ?_
    rw [nI_1]
    refine r_aload_n (pc := 32) X rfl dX7_append_32 ?_
    refine gt_X7_15 (pc := 33) X tW_o rfl dX7_append_33 ?_
    exact K dX7_append_36 ⟨(if_neg (by omega)).symm, (if_neg (by omega)).symm⟩
  · skip
    refine r_bipush (pc := 9) (v := (-3)) X rfl dX7_append_9 ?_
    exact K dX7_append_11 ⟨(if_pos (by omega)).symm, (if_pos (by omega)).symm⟩

