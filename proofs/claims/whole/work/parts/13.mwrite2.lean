set_option maxHeartbeats 4000000 in
set_option maxRecDepth 100000 in
theorem c_X9_passes {G : bkG} {Z : Nat → Prop} {M : bkM} {r : Nat} {s a p q t o f : Nat → Int32} {n : Nat} (hw : jwf s n) (h : Nat) (hh : h ≤ 40) : bkCi G Z Z yX9_passes cX9_passes 4 (some .int) 7 0 0 [.ref r, .int (nI h)] (mW G M r s a p q t o f) (fun v M' => v = nI (jset (jwr s n h) n) ∧ ∃ o', M' = (mW G M r (jhrs s n h) a p q t o' f)) := by
  refine bk_meti [some (.ref r), some (.int (nI h)), none, none] rfl pf_X9_passes rfl rfl (fun E X K => ?_)
  refine r_aload_n (pc := 0) X rfl dX9_passes_0 ?_
  refine r_iconst (pc := 1) (v := 2) X rfl dX9_passes_1 ?_
  refine ca_X9_129 (pc := 2) X (c_X9_shipsIn hw.1 hw.2.1 2) mW_0 rfl rfl rfl dX9_passes_2 (fun r2 M2 hp2 => ?_)
  obtain ⟨rfl, rfl⟩ := hp2
  refine r_istore_n (pc := 5) X rfl rfl dX9_passes_5 ?_
  refine r_iconst (pc := 6) (v := 0) X rfl dX9_passes_6 ?_
  refine r_istore_n (pc := 7) X rfl rfl dX9_passes_7 ?_
  have lp8 : ∀ (d j : Nat) (y : Int32) (oo : Nat → Int32), j ≤ h → h < j + d → (y = nI j) → bkV E G Z 0 0 (mW G M r (jhrs s n j) a p q t oo f) 8 [some (.ref r), some (.int (nI h)), some (.int (nI (jset (jst s 2) n))), some (.int y)] [] := by
    intro d
    induction d with
    | zero => intro j y oo; intros; exfalso; omega
    | succ d ih =>
      intro j y oo hj hd e1
      subst e1
      refine r_iload_n (pc := 8) X rfl dX9_passes_8 ?_
      refine r_iload_n (pc := 9) X rfl dX9_passes_9 ?_
      refine r_icmpN_ge (pc := 10) X 23 (j) (h) rfl rfl (by omega) (by omega) (by decide) dX9_passes_10 (fun q10 => ?_) (fun q10 => ?_)
      · skip
        refine r_aload_n (pc := 23) X rfl dX9_passes_23 ?_
        refine r_iconst (pc := 24) (v := 2) X rfl dX9_passes_24 ?_
        refine ca_X9_129 (pc := 25) X (c_X9_shipsIn (hw.hrs j).1 (hw.hrs j).2.1 2) mW_0 rfl rfl rfl dX9_passes_25 (fun r25 M25 hp25 => ?_)
        obtain ⟨rfl, rfl⟩ := hp25
        refine r_iload_n (pc := 28) X rfl dX9_passes_28 ?_
        refine r_iconst (pc := 29) (v := (-1)) X rfl dX9_passes_29 ?_
        refine r_ixor (pc := 30) X dX9_passes_30 ?_
        refine r_iand (pc := 31) X dX9_passes_31 ?_
        exact K dX9_passes_32 ⟨by rw [jset_andnot _ _ hw.1, show j = h by omega]; rfl, oo, by rw [show j = h by omega]⟩
      · skip
        refine r_aload_n (pc := 13) X rfl dX9_passes_13 ?_
        refine ca_X9_132 (pc := 14) X (c_X9_hour (hw.hrs j)) mW_0 rfl rfl rfl dX9_passes_14 (fun M14 hp14 => ?_)
        obtain ⟨o2, rfl⟩ := hp14
        refine r_iinc (pc := 17) X rfl rfl rfl dX9_passes_17 ?_
        refine r_goto (pc := 20) X 8 (by decide) dX9_passes_20 ?_
        exact ih (j + 1) _ _ (by omega) (by omega) (nI_1 j)
  exact lp8 (h + 1) 0 _ o (by omega) (by omega) rfl

set_option maxHeartbeats 4000000 in
set_option maxRecDepth 100000 in
theorem c_X9_lays {G : bkG} {Z : Nat → Prop} {M : bkM} {r : Nat} {s a p q t o f : Nat → Int32} (k l : Nat) (hk : k < 4) (hl : l < 4) : bkCv G Z Z yX9_lays cX9_lays 4 1 0 0 [.ref r, .int (nI k), .int (nI l)] (mW G M r s a p q t o f) (fun M' => M' = (mW G M r (jly s k l) a p q t o f)) := by
  refine bk_metv [some (.ref r), some (.int (nI k)), some (.int (nI l)), none] rfl pf_X9_lays rfl rfl (fun E X hn K => ?_)
  refine r_aload_n (pc := 0) X rfl dX9_lays_0 ?_
  refine gt_X9_7 (pc := 1) X mW_0 rfl dX9_lays_1 ?_
  refine r_iload_n (pc := 4) X rfl dX9_lays_4 ?_
  refine r_iconst (pc := 5) (v := 4) X rfl dX9_lays_5 ?_
  refine ca_X9_29 (pc := 6) X (c_X9_ofL l 4) rfl rfl rfl dX9_lays_6 (fun r6 M6 hp6 => ?_)
  obtain ⟨rfl, rfl⟩ := hp6
  refine r_iald (pc := 9) X mW_1 (100 + 5 * l + 4) rfl (by omega) (by decide) dX9_lays_9 ?_
  refine r_iconst (pc := 10) (v := 3) X rfl dX9_lays_10 ?_
  refine r_iadd (pc := 11) X dX9_lays_11 ?_
  refine r_istore_n (pc := 12) X rfl rfl dX9_lays_12 ?_
  refine r_aload_n (pc := 13) X rfl dX9_lays_13 ?_
  refine gt_X9_7 (pc := 14) X mW_0 rfl dX9_lays_14 ?_
  refine r_iload_n (pc := 17) X rfl dX9_lays_17 ?_
  refine r_iconst (pc := 18) (v := 4) X rfl dX9_lays_18 ?_
  refine ca_X9_29 (pc := 19) X (c_X9_ofL l 4) rfl rfl rfl dX9_lays_19 (fun r19 M19 hp19 => ?_)
  obtain ⟨rfl, rfl⟩ := hp19
  refine r_iload_n (pc := 22) X rfl dX9_lays_22 ?_
  refine r_bipush (pc := 23) (v := 9) X rfl dX9_lays_23 ?_
  refine r_icmp_le (pc := 25) X 33 (by decide) dX9_lays_25 (fun q25 => ?_) (fun q25 => ?_)
  · skip
    refine r_iload_n (pc := 33) X rfl dX9_lays_33 ?_
    refine r_iast (pc := 34) X mW_1 (100 + 5 * l + 4) rfl (by omega) (by decide) dX9_lays_34 ?_
    refine bkV.eq mS_1 ?_
    refine r_aload_n (pc := 35) X rfl dX9_lays_35 ?_
    refine gt_X9_7 (pc := 36) X mW_0 rfl dX9_lays_36 ?_
    refine r_iload_n (pc := 39) X rfl dX9_lays_39 ?_
    refine r_iconst (pc := 40) (v := 2) X rfl dX9_lays_40 ?_
    refine ca_X9_33 (pc := 41) X (c_X9_ofK k 2) rfl rfl rfl dX9_lays_41 (fun r41 M41 hp41 => ?_)
    obtain ⟨rfl, rfl⟩ := hp41
    refine r_dup2 (pc := 44) X rfl rfl dX9_lays_44 ?_
    refine r_iald (pc := 45) X mW_1 (120 + 5 * k + 2) rfl (by omega) (by decide) dX9_lays_45 ?_
    refine r_iconst (pc := 46) (v := 1) X rfl dX9_lays_46 ?_
    refine r_isub (pc := 47) X dX9_lays_47 ?_
    refine r_iast (pc := 48) X mW_1 (120 + 5 * k + 2) rfl (by omega) (by decide) dX9_lays_48 ?_
    refine bkV.eq mS_1 ?_
    exact K dX9_lays_49 (by unfold jly; simp [q25])
  · skip
    refine r_bipush (pc := 28) (v := 9) X rfl dX9_lays_28 ?_
    refine r_goto (pc := 30) X 34 (by decide) dX9_lays_30 ?_
    refine r_iast (pc := 34) X mW_1 (100 + 5 * l + 4) rfl (by omega) (by decide) dX9_lays_34 ?_
    refine bkV.eq mS_1 ?_
    refine r_aload_n (pc := 35) X rfl dX9_lays_35 ?_
    refine gt_X9_7 (pc := 36) X mW_0 rfl dX9_lays_36 ?_
    refine r_iload_n (pc := 39) X rfl dX9_lays_39 ?_
    refine r_iconst (pc := 40) (v := 2) X rfl dX9_lays_40 ?_
    refine ca_X9_33 (pc := 41) X (c_X9_ofK k 2) rfl rfl rfl dX9_lays_41 (fun r41 M41 hp41 => ?_)
    obtain ⟨rfl, rfl⟩ := hp41
    refine r_dup2 (pc := 44) X rfl rfl dX9_lays_44 ?_
    refine r_iald (pc := 45) X mW_1 (120 + 5 * k + 2) rfl (by omega) (by decide) dX9_lays_45 ?_
    refine r_iconst (pc := 46) (v := 1) X rfl dX9_lays_46 ?_
    refine r_isub (pc := 47) X dX9_lays_47 ?_
    refine r_iast (pc := 48) X mW_1 (120 + 5 * k + 2) rfl (by omega) (by decide) dX9_lays_48 ?_
    refine bkV.eq mS_1 ?_
    exact K dX9_lays_49 (by unfold jly; simp [q25])

