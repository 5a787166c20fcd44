set_option maxHeartbeats 4000000 in
set_option maxRecDepth 100000 in
theorem c_X8_isSetting {G : bkG} {Z : Nat → Prop} {M : bkM} (w v : Int32) : bkCi G Z Z yX8_isSetting cX8_isSetting 2 (some .boolean) 0 0 0 [.int w, .int v] M (fun x M' => x = bi (jfit w v) ∧ M' = M) := by
  refine bk_metz [some (.int w), some (.int v)] rfl pf_X8_isSetting rfl rfl (fun E X K => ?_)
  refine r_iload_n (pc := 0) X rfl dX8_isSetting_0 ?_
  refine r_if_lt (pc := 1) X 34 (by decide) dX8_isSetting_1 (fun q1 => ?_) (fun q1 => ?_)
  · skip
    refine r_iconst (pc := 34) (v := 0) X rfl dX8_isSetting_34 ?_
    exact K dX8_isSetting_35 (by first | exact Or.inl rfl | exact Or.inr rfl) ⟨by clear K X; first | (rw [jfit_o (Or.inl q1)]; rfl) | (rw [jfit_o (Or.inr q9)]; rfl) | (rw [jfit_n hwn, (decide_eq_false (Int32.not_le.mpr q18) : decide (bkLS wn ≤ v) = false)]; rfl) | (rw [jfit_n hwn, (decide_eq_false (Int32.not_le.mpr q27) : decide (v ≤ bkMS wn) = false), Bool.and_false]; rfl) | (rw [jfit_n hwn, (decide_eq_true (Int32.not_lt.mp q18) : decide (bkLS wn ≤ v) = true), (decide_eq_true (Int32.not_lt.mp q27) : decide (v ≤ bkMS wn) = true)]; rfl), rfl⟩
  · skip
    refine r_iload_n (pc := 4) X rfl dX8_isSetting_4 ?_
    refine r_gets (pc := 5) X (fun z => z.2.1) fl_X8_235 dX8_isSetting_5 ?_
    refine r_alenS (pc := 8) X (fun z => z.2.1) dX8_isSetting_8 ?_
    refine r_icmp_ge (pc := 9) X 34 (by decide) dX8_isSetting_9 (fun q9 => ?_) (fun q9 => ?_)
    · skip
      refine r_iconst (pc := 34) (v := 0) X rfl dX8_isSetting_34 ?_
      exact K dX8_isSetting_35 (by first | exact Or.inl rfl | exact Or.inr rfl) ⟨by clear K X; first | (rw [jfit_o (Or.inl q1)]; rfl) | (rw [jfit_o (Or.inr q9)]; rfl) | (rw [jfit_n hwn, (decide_eq_false (Int32.not_le.mpr q18) : decide (bkLS wn ≤ v) = false)]; rfl) | (rw [jfit_n hwn, (decide_eq_false (Int32.not_le.mpr q27) : decide (v ≤ bkMS wn) = false), Bool.and_false]; rfl) | (rw [jfit_n hwn, (decide_eq_true (Int32.not_lt.mp q18) : decide (bkLS wn ≤ v) = true), (decide_eq_true (Int32.not_lt.mp q27) : decide (v ≤ bkMS wn) = true)]; rfl), rfl⟩
    · skip
      obtain ⟨wn, hwn, rfl⟩ : ∃ j, j < 4 ∧ w = nI j := by
        rcases pk_ix (n := 4) w (by decide) with z | z | ⟨j, hj, e⟩
        · exact absurd z (Int32.not_lt.mpr (Int32.not_lt.mp q1))
        · exact absurd z q9
        · exact ⟨j, hj, e⟩
      refine r_iload_n (pc := 12) X rfl dX8_isSetting_12 ?_
      refine r_gets (pc := 13) X (fun z => z.2.2.1) fl_X8_238 dX8_isSetting_13 ?_
      refine r_iload_n (pc := 16) X rfl dX8_isSetting_16 ?_
      refine r_ialdS (pc := 17) X (fun z => z.2.2.1) (wn) rfl (by omega) dX8_isSetting_17 ?_
      refine r_icmp_lt (pc := 18) X 34 (by decide) dX8_isSetting_18 (fun q18 => ?_) (fun q18 => ?_)
      · skip
        refine r_iconst (pc := 34) (v := 0) X rfl dX8_isSetting_34 ?_
        exact K dX8_isSetting_35 (by first | exact Or.inl rfl | exact Or.inr rfl) ⟨by clear K X; first | (rw [jfit_o (Or.inl q1)]; rfl) | (rw [jfit_o (Or.inr q9)]; rfl) | (rw [jfit_n hwn, (decide_eq_false (Int32.not_le.mpr q18) : decide (bkLS wn ≤ v) = false)]; rfl) | (rw [jfit_n hwn, (decide_eq_false (Int32.not_le.mpr q27) : decide (v ≤ bkMS wn) = false), Bool.and_false]; rfl) | (rw [jfit_n hwn, (decide_eq_true (Int32.not_lt.mp q18) : decide (bkLS wn ≤ v) = true), (decide_eq_true (Int32.not_lt.mp q27) : decide (v ≤ bkMS wn) = true)]; rfl), rfl⟩
      · skip
        refine r_iload_n (pc := 21) X rfl dX8_isSetting_21 ?_
        refine r_gets (pc := 22) X (fun z => z.2.1) fl_X8_235 dX8_isSetting_22 ?_
        refine r_iload_n (pc := 25) X rfl dX8_isSetting_25 ?_
        refine r_ialdS (pc := 26) X (fun z => z.2.1) (wn) rfl (by omega) dX8_isSetting_26 ?_
        refine r_icmp_gt (pc := 27) X 34 (by decide) dX8_isSetting_27 (fun q27 => ?_) (fun q27 => ?_)
        · skip
          refine r_iconst (pc := 34) (v := 0) X rfl dX8_isSetting_34 ?_
          exact K dX8_isSetting_35 (by first | exact Or.inl rfl | exact Or.inr rfl) ⟨by clear K X; first | (rw [jfit_o (Or.inl q1)]; rfl) | (rw [jfit_o (Or.inr q9)]; rfl) | (rw [jfit_n hwn, (decide_eq_false (Int32.not_le.mpr q18) : decide (bkLS wn ≤ v) = false)]; rfl) | (rw [jfit_n hwn, (decide_eq_false (Int32.not_le.mpr q27) : decide (v ≤ bkMS wn) = false), Bool.and_false]; rfl) | (rw [jfit_n hwn, (decide_eq_true (Int32.not_lt.mp q18) : decide (bkLS wn ≤ v) = true), (decide_eq_true (Int32.not_lt.mp q27) : decide (v ≤ bkMS wn) = true)]; rfl), rfl⟩
        · skip
          refine r_iconst (pc := 30) (v := 1) X rfl dX8_isSetting_30 ?_
          refine r_goto (pc := 31) X 35 (by decide) dX8_isSetting_31 ?_
          exact K dX8_isSetting_35 (by first | exact Or.inl rfl | exact Or.inr rfl) ⟨by clear K X; first | (rw [jfit_o (Or.inl q1)]; rfl) | (rw [jfit_o (Or.inr q9)]; rfl) | (rw [jfit_n hwn, (decide_eq_false (Int32.not_le.mpr q18) : decide (bkLS wn ≤ v) = false)]; rfl) | (rw [jfit_n hwn, (decide_eq_false (Int32.not_le.mpr q27) : decide (v ≤ bkMS wn) = false), Bool.and_false]; rfl) | (rw [jfit_n hwn, (decide_eq_true (Int32.not_lt.mp q18) : decide (bkLS wn ≤ v) = true), (decide_eq_true (Int32.not_lt.mp q27) : decide (v ≤ bkMS wn) = true)]; rfl), rfl⟩

set_option maxHeartbeats 4000000 in
set_option maxRecDepth 100000 in
theorem c_J9_floorMod_7cf53 {G : bkG} {Z : Nat → Prop} {M : bkM} (x y : Int32) (hy : ¬ y = 0) : bkCi G Z Z yJ9_floorMod_7cf53 cJ9_floorMod_7cf53 3 (some .int) 0 0 0 [.int x, .int y] M (fun v M' => v = cfm x y ∧ M' = M) := by
  refine bk_meti [some (.int x), some (.int y), none] rfl pf_J9_floorMod_7cf53 rfl rfl (fun E X K => ?_)
  refine r_iload_n (pc := 0) X rfl dJ9_floorMod_7cf53_0 ?_
  refine r_iload_n (pc := 1) X rfl dJ9_floorMod_7cf53_1 ?_
  refine r_irem (pc := 2) X hy dJ9_floorMod_7cf53_2 ?_
  refine r_istore_n (pc := 3) X rfl rfl dJ9_floorMod_7cf53_3 ?_
  refine r_iload_n (pc := 4) X rfl dJ9_floorMod_7cf53_4 ?_
  refine r_iload_n (pc := 5) X rfl dJ9_floorMod_7cf53_5 ?_
  refine r_ixor (pc := 6) X dJ9_floorMod_7cf53_6 ?_
  refine r_if_ge (pc := 7) X 18 (by decide) dJ9_floorMod_7cf53_7 (fun q7 => ?_) (fun q7 => ?_)
  · skip
    refine r_iload_n (pc := 18) X rfl dJ9_floorMod_7cf53_18 ?_
    exact K dJ9_floorMod_7cf53_19 ⟨by clear K X; unfold cfm; first | (refine Eq.symm (if_pos ⟨q7, q11⟩)) | (refine Eq.symm (if_neg ?_); rintro ⟨z1, z2⟩; first | exact z1 q7 | exact z2 q11), rfl⟩
  · skip
    refine r_iload_n (pc := 10) X rfl dJ9_floorMod_7cf53_10 ?_
    refine r_if_eq (pc := 11) X 18 (by decide) dJ9_floorMod_7cf53_11 (fun q11 => ?_) (fun q11 => ?_)
    · skip
      refine r_iload_n (pc := 18) X rfl dJ9_floorMod_7cf53_18 ?_
      exact K dJ9_floorMod_7cf53_19 ⟨by clear K X; unfold cfm; first | (refine Eq.symm (if_pos ⟨q7, q11⟩)) | (refine Eq.symm (if_neg ?_); rintro ⟨z1, z2⟩; first | exact z1 q7 | exact z2 q11), rfl⟩
    · skip
      refine r_iload_n (pc := 14) X rfl dJ9_floorMod_7cf53_14 ?_
      refine r_iload_n (pc := 15) X rfl dJ9_floorMod_7cf53_15 ?_
      refine r_iadd (pc := 16) X dJ9_floorMod_7cf53_16 ?_
      exact K dJ9_floorMod_7cf53_17 ⟨by clear K X; unfold cfm; first | (refine Eq.symm (if_pos ⟨q7, q11⟩)) | (refine Eq.symm (if_neg ?_); rintro ⟨z1, z2⟩; first | exact z1 q7 | exact z2 q11), rfl⟩

set_option maxHeartbeats 4000000 in
set_option maxRecDepth 100000 in
theorem c_X2_told {G : bkG} {Z : Nat → Prop} {M : bkM} {a i : Nat} {s : Nat → Int32} (hm : M a = some (.inr (2, kpF s i))) (w : Int32) : bkCi G Z Z yX2_told cX2_told 2 (some .int) 0 0 0 [.ref a, .int w] M (fun v M' => v = (if w = 0 then s (120 + 5 * i + 0) else if w = 1 then s (120 + 5 * i + 1) else if w = 2 then s (120 + 5 * i + 2) else if w = 3 then s (120 + 5 * i + 3) else if w = 4 then s (120 + 5 * i + 4) else -2) ∧ M' = M) := by
  refine bk_meti [some (.ref a), some (.int w)] rfl pf_X2_told rfl rfl (fun E X K => ?_)
  refine r_iload_n (pc := 0) X rfl dX2_told_0 ?_
  rcases tb_case 4 (by decide) w with ⟨w9, hw9, rfl⟩ | ⟨hq, hne⟩
  · match w9, hw9 with
    | 0, _ =>
      refine r_tableIn (pc := 1) X 36 (by decide) (by decide) rfl (by decide) dX2_told_1 ?_
      refine r_aload_n (pc := 36) X rfl dX2_told_36 ?_
      refine gt_X2_9 (pc := 37) X hm rfl dX2_told_37 ?_
      exact K dX2_told_40 ⟨(if_pos rfl).symm, rfl⟩
    | 1, _ =>
      refine r_tableIn (pc := 1) X 41 (by decide) (by decide) rfl (by decide) dX2_told_1 ?_
      refine r_aload_n (pc := 41) X rfl dX2_told_41 ?_
      refine gt_X2_15 (pc := 42) X hm rfl dX2_told_42 ?_
      exact K dX2_told_45 ⟨((if_neg (by decide)).trans (if_pos rfl)).symm, rfl⟩
    | 2, _ =>
      refine r_tableIn (pc := 1) X 46 (by decide) (by decide) rfl (by decide) dX2_told_1 ?_
      refine r_aload_n (pc := 46) X rfl dX2_told_46 ?_
      refine gt_X2_18 (pc := 47) X hm rfl dX2_told_47 ?_
      exact K dX2_told_50 ⟨((if_neg (by decide)).trans ((if_neg (by decide)).trans (if_pos rfl))).symm, rfl⟩
    | 3, _ =>
      refine r_tableIn (pc := 1) X 51 (by decide) (by decide) rfl (by decide) dX2_told_1 ?_
      refine r_aload_n (pc := 51) X rfl dX2_told_51 ?_
      refine gt_X2_21 (pc := 52) X hm rfl dX2_told_52 ?_
      exact K dX2_told_55 ⟨((if_neg (by decide)).trans ((if_neg (by decide)).trans ((if_neg (by decide)).trans (if_pos rfl)))).symm, rfl⟩
    | 4, _ =>
      refine r_tableIn (pc := 1) X 56 (by decide) (by decide) rfl (by decide) dX2_told_1 ?_
      refine r_aload_n (pc := 56) X rfl dX2_told_56 ?_
      refine gt_X2_24 (pc := 57) X hm rfl dX2_told_57 ?_
      exact K dX2_told_60 ⟨((if_neg (by decide)).trans ((if_neg (by decide)).trans ((if_neg (by decide)).trans ((if_neg (by decide)).trans (if_pos rfl))))).symm, rfl⟩
    | w9 + 5, hw9 => exact absurd hw9 (by omega)
  · refine r_tableOut (pc := 1) X 61 hq (by decide) dX2_told_1 ?_
    have n0 : w ≠ 0 := hne 0 (by omega)
    have n1 : w ≠ 1 := hne 1 (by omega)
    have n2 : w ≠ 2 := hne 2 (by omega)
    have n3 : w ≠ 3 := hne 3 (by omega)
    have n4 : w ≠ 4 := hne 4 (by omega)
    refine r_bipush (pc := 61) (v := (-2)) X rfl dX2_told_61 ?_
    exact K dX2_told_63 ⟨by first | rfl | rw [if_neg n0, if_neg n1, if_neg n2, if_neg n3, if_neg n4], rfl⟩

set_option maxHeartbeats 4000000 in
set_option maxRecDepth 100000 in
theorem c_X2_oweWreck {G : bkG} {Z : Nat → Prop} {M : bkM} {a i : Nat} {s : Nat → Int32} (hm : M a = some (.inr (2, kpF s i))) (w : Int32) : bkCv G Z Z yX2_oweWreck cX2_oweWreck 2 0 0 0 [.ref a, .int w] M (fun M' => M' = bku M a (.inr (2, kpF (upd (upd s (120 + 5 * i + 1) (s (120 + 5 * i + 1) + w)) (120 + 5 * i + 3) (s (120 + 5 * i + 3) + 1)) i))) := by
  refine bk_metv [some (.ref a), some (.int w)] rfl pf_X2_oweWreck rfl rfl (fun E X hn K => ?_)
  refine r_aload_n (pc := 0) X rfl dX2_oweWreck_0 ?_
  refine r_dup (pc := 1) X rfl dX2_oweWreck_1 ?_
  refine gt_X2_15 (pc := 2) X hm rfl dX2_oweWreck_2 ?_
  refine r_iload_n (pc := 5) X rfl dX2_oweWreck_5 ?_
  refine r_iadd (pc := 6) X dX2_oweWreck_6 ?_
  refine pt_X2_15 (pc := 7) X hm  rfl dX2_oweWreck_7 ?_
  refine r_aload_n (pc := 10) X rfl dX2_oweWreck_10 ?_
  refine r_dup (pc := 11) X rfl dX2_oweWreck_11 ?_
  refine gt_X2_21 (pc := 12) X bku_at rfl dX2_oweWreck_12 ?_
  refine r_iconst (pc := 15) (v := 1) X rfl dX2_oweWreck_15 ?_
  refine r_iadd (pc := 16) X dX2_oweWreck_16 ?_
  refine pt_X2_21 (pc := 17) X bku_at  rfl dX2_oweWreck_17 ?_
  refine bkV.eq bku_bku ?_
  exact K dX2_oweWreck_20 (by simp [kpF, upd])

set_option maxHeartbeats 4000000 in
set_option maxRecDepth 100000 in
theorem c_X2_earn {G : bkG} {Z : Nat → Prop} {M : bkM} {a i : Nat} {s : Nat → Int32} (hm : M a = some (.inr (2, kpF s i))) (w : Int32) (hw : w = s 182) : bkCv G Z Z yX2_earn cX2_earn 3 1 0 0 [.ref a, .int w] M (fun M' => M' = bku M a (.inr (2, kpF (jkB s i (jkP s i)) i))) := by
  refine bk_metv [some (.ref a), some (.int w), none] rfl pf_X2_earn rfl rfl (fun E X hn K => ?_)
  refine r_aload_n (pc := 0) X rfl dX2_earn_0 ?_
  refine r_dup (pc := 1) X rfl dX2_earn_1 ?_
  refine gt_X2_9 (pc := 2) X hm rfl dX2_earn_2 ?_
  refine r_iload_n (pc := 5) X rfl dX2_earn_5 ?_
  refine r_iadd (pc := 6) X dX2_earn_6 ?_
  refine pt_X2_9 (pc := 7) X hm  rfl dX2_earn_7 ?_
  refine r_aload_n (pc := 10) X rfl dX2_earn_10 ?_
  refine gt_X2_9 (pc := 11) X bku_at rfl dX2_earn_11 ?_
  refine r_aload_n (pc := 14) X rfl dX2_earn_14 ?_
  refine gt_X2_15 (pc := 15) X bku_at rfl dX2_earn_15 ?_
  refine ca_X2_27 (pc := 18) X (c_J9_min_7cf53 (s (120 + 5 * i + 0) + w) (s (120 + 5 * i + 1))) rfl rfl rfl dX2_earn_18 (fun r18 M18 hp18 => ?_)
  obtain ⟨rfl, rfl⟩ := hp18
  refine r_istore_n (pc := 21) X rfl rfl dX2_earn_21 ?_
  refine r_aload_n (pc := 22) X rfl dX2_earn_22 ?_
  refine r_dup (pc := 23) X rfl dX2_earn_23 ?_
  refine gt_X2_9 (pc := 24) X bku_at rfl dX2_earn_24 ?_
  refine r_iload_n (pc := 27) X rfl dX2_earn_27 ?_
  refine r_isub (pc := 28) X dX2_earn_28 ?_
  refine pt_X2_9 (pc := 29) X bku_at  rfl dX2_earn_29 ?_
  refine bkV.eq bku_bku ?_
  refine r_aload_n (pc := 32) X rfl dX2_earn_32 ?_
  refine r_dup (pc := 33) X rfl dX2_earn_33 ?_
  refine gt_X2_15 (pc := 34) X bku_at rfl dX2_earn_34 ?_
  refine r_iload_n (pc := 37) X rfl dX2_earn_37 ?_
  refine r_isub (pc := 38) X dX2_earn_38 ?_
  refine pt_X2_15 (pc := 39) X bku_at  rfl dX2_earn_39 ?_
  refine bkV.eq bku_bku ?_
  refine r_aload_n (pc := 42) X rfl dX2_earn_42 ?_
  refine r_dup (pc := 43) X rfl dX2_earn_43 ?_
  refine gt_X2_24 (pc := 44) X bku_at rfl dX2_earn_44 ?_
  refine r_iload_n (pc := 47) X rfl dX2_earn_47 ?_
  refine r_iadd (pc := 48) X dX2_earn_48 ?_
  refine pt_X2_24 (pc := 49) X bku_at  rfl dX2_earn_49 ?_
  refine bkV.eq bku_bku ?_
  exact K dX2_earn_52 (by subst hw; rw [cmin_jkP]; simp [kpF, upd])

set_option maxHeartbeats 4000000 in
set_option maxRecDepth 100000 in
theorem c_X2_copyFrom {G : bkG} {Z : Nat → Prop} {M : bkM} {a o i : Nat} {s s' : Nat → Int32} (hne : o ≠ a) (hm : M a = some (.inr (2, kpF s i))) (hmo : M o = some (.inr (2, kpF s' i))) : bkCv G Z Z yX2_copyFrom cX2_copyFrom 2 0 0 0 [.ref a, .ref o] M (fun M' => M' = bku M a (.inr (2, kpF s' i))) := by
  refine bk_metv [some (.ref a), some (.ref o)] rfl pf_X2_copyFrom rfl rfl (fun E X hn K => ?_)
  refine r_aload_n (pc := 0) X rfl dX2_copyFrom_0 ?_
  refine r_aload_n (pc := 1) X rfl dX2_copyFrom_1 ?_
  refine gt_X2_9 (pc := 2) X hmo rfl dX2_copyFrom_2 ?_
  refine pt_X2_9 (pc := 5) X hm  rfl dX2_copyFrom_5 ?_
  refine r_aload_n (pc := 8) X rfl dX2_copyFrom_8 ?_
  refine r_aload_n (pc := 9) X rfl dX2_copyFrom_9 ?_
  refine gt_X2_15 (pc := 10) X ((bku_ne hne).trans hmo) rfl dX2_copyFrom_10 ?_
  refine pt_X2_15 (pc := 13) X bku_at  rfl dX2_copyFrom_13 ?_
  refine bkV.eq bku_bku ?_
  refine r_aload_n (pc := 16) X rfl dX2_copyFrom_16 ?_
  refine r_aload_n (pc := 17) X rfl dX2_copyFrom_17 ?_
  refine gt_X2_18 (pc := 18) X ((bku_ne hne).trans hmo) rfl dX2_copyFrom_18 ?_
  refine pt_X2_18 (pc := 21) X bku_at  rfl dX2_copyFrom_21 ?_
  refine bkV.eq bku_bku ?_
  refine r_aload_n (pc := 24) X rfl dX2_copyFrom_24 ?_
  refine r_aload_n (pc := 25) X rfl dX2_copyFrom_25 ?_
  refine gt_X2_21 (pc := 26) X ((bku_ne hne).trans hmo) rfl dX2_copyFrom_26 ?_
  refine pt_X2_21 (pc := 29) X bku_at  rfl dX2_copyFrom_29 ?_
  refine bkV.eq bku_bku ?_
  refine r_aload_n (pc := 32) X rfl dX2_copyFrom_32 ?_
  refine r_aload_n (pc := 33) X rfl dX2_copyFrom_33 ?_
  refine gt_X2_24 (pc := 34) X ((bku_ne hne).trans hmo) rfl dX2_copyFrom_34 ?_
  refine pt_X2_24 (pc := 37) X bku_at  rfl dX2_copyFrom_37 ?_
  refine bkV.eq bku_bku ?_
  exact K dX2_copyFrom_40 rfl

set_option maxHeartbeats 4000000 in
set_option maxRecDepth 100000 in
theorem c_X5_copyFrom {G : bkG} {Z : Nat → Prop} {M : bkM} {a o i : Nat} {s s' go go' : Nat → Int32} (hne : o ≠ a) (hm : M a = some (.inr (5, shF s go i))) (hmo : M o = some (.inr (5, shF s' go' i))) : bkCv G Z Z yX5_copyFrom cX5_copyFrom 2 0 0 0 [.ref a, .ref o] M (fun M' => M' = bku M a (.inr (5, [.int (s' (140 + 5 * i + 0)), .int (s' (140 + 5 * i + 1)), .int (s' (140 + 5 * i + 2)), .int (go' (8 + i)), .int (s' (140 + 5 * i + 4)), .int (go i)]))) := by
  refine bk_metv [some (.ref a), some (.ref o)] rfl pf_X5_copyFrom rfl rfl (fun E X hn K => ?_)
  refine r_aload_n (pc := 0) X rfl dX5_copyFrom_0 ?_
  refine r_aload_n (pc := 1) X rfl dX5_copyFrom_1 ?_
  refine gt_X5_9 (pc := 2) X hmo rfl dX5_copyFrom_2 ?_
  refine pt_X5_9 (pc := 5) X hm  rfl dX5_copyFrom_5 ?_
  refine r_aload_n (pc := 8) X rfl dX5_copyFrom_8 ?_
  refine r_aload_n (pc := 9) X rfl dX5_copyFrom_9 ?_
  refine gt_X5_15 (pc := 10) X ((bku_ne hne).trans hmo) rfl dX5_copyFrom_10 ?_
  refine pt_X5_15 (pc := 13) X bku_at  rfl dX5_copyFrom_13 ?_
  refine bkV.eq bku_bku ?_
  refine r_aload_n (pc := 16) X rfl dX5_copyFrom_16 ?_
  refine r_aload_n (pc := 17) X rfl dX5_copyFrom_17 ?_
  refine gt_X5_18 (pc := 18) X ((bku_ne hne).trans hmo) rfl dX5_copyFrom_18 ?_
  refine pt_X5_18 (pc := 21) X bku_at  rfl dX5_copyFrom_21 ?_
  refine bkV.eq bku_bku ?_
  refine r_aload_n (pc := 24) X rfl dX5_copyFrom_24 ?_
  refine r_aload_n (pc := 25) X rfl dX5_copyFrom_25 ?_
  refine gt_X5_21 (pc := 26) X ((bku_ne hne).trans hmo) rfl dX5_copyFrom_26 ?_
  refine pt_X5_21 (pc := 29) X bku_at  rfl dX5_copyFrom_29 ?_
  refine bkV.eq bku_bku ?_
  refine r_aload_n (pc := 32) X rfl dX5_copyFrom_32 ?_
  refine r_aload_n (pc := 33) X rfl dX5_copyFrom_33 ?_
  refine gt_X5_24 (pc := 34) X ((bku_ne hne).trans hmo) rfl dX5_copyFrom_34 ?_
  refine pt_X5_24 (pc := 37) X bku_at  rfl dX5_copyFrom_37 ?_
  refine bkV.eq bku_bku ?_
  exact K dX5_copyFrom_40 rfl

set_option maxHeartbeats 4000000 in
set_option maxRecDepth 100000 in
theorem c_X3_copyFrom {G : bkG} {Z : Nat → Prop} {M : bkM} {a o i B : Nat} {s s' : Nat → Int32} (hne : o ≠ a) (hm : M a = some (.inr (3, ltF B s i))) (hmo : M o = some (.inr (3, ltF B s' i))) : bkCv G Z Z yX3_copyFrom cX3_copyFrom 2 0 0 0 [.ref a, .ref o] M (fun M' => M' = bku M a (.inr (3, ltF B s' i))) := by
  refine bk_metv [some (.ref a), some (.ref o)] rfl pf_X3_copyFrom rfl rfl (fun E X hn K => ?_)
  refine r_aload_n (pc := 0) X rfl dX3_copyFrom_0 ?_
  refine r_aload_n (pc := 1) X rfl dX3_copyFrom_1 ?_
  refine gt_X3_44 (pc := 2) X hmo rfl dX3_copyFrom_2 ?_
  refine pt_X3_44 (pc := 5) X hm  rfl dX3_copyFrom_5 ?_
  refine r_aload_n (pc := 8) X rfl dX3_copyFrom_8 ?_
  refine r_aload_n (pc := 9) X rfl dX3_copyFrom_9 ?_
  refine gt_X3_9 (pc := 10) X ((bku_ne hne).trans hmo) rfl dX3_copyFrom_10 ?_
  refine pt_X3_9 (pc := 13) X bku_at  rfl dX3_copyFrom_13 ?_
  refine bkV.eq bku_bku ?_
  refine r_aload_n (pc := 16) X rfl dX3_copyFrom_16 ?_
  refine r_aload_n (pc := 17) X rfl dX3_copyFrom_17 ?_
  refine gt_X3_15 (pc := 18) X ((bku_ne hne).trans hmo) rfl dX3_copyFrom_18 ?_
  refine pt_X3_15 (pc := 21) X bku_at  rfl dX3_copyFrom_21 ?_
  refine bkV.eq bku_bku ?_
  refine r_aload_n (pc := 24) X rfl dX3_copyFrom_24 ?_
  refine r_aload_n (pc := 25) X rfl dX3_copyFrom_25 ?_
  refine gt_X3_18 (pc := 26) X ((bku_ne hne).trans hmo) rfl dX3_copyFrom_26 ?_
  refine pt_X3_18 (pc := 29) X bku_at  rfl dX3_copyFrom_29 ?_
  refine bkV.eq bku_bku ?_
  refine r_aload_n (pc := 32) X rfl dX3_copyFrom_32 ?_
  refine r_aload_n (pc := 33) X rfl dX3_copyFrom_33 ?_
  refine gt_X3_21 (pc := 34) X ((bku_ne hne).trans hmo) rfl dX3_copyFrom_34 ?_
  refine pt_X3_21 (pc := 37) X bku_at  rfl dX3_copyFrom_37 ?_
  refine bkV.eq bku_bku ?_
  exact K dX3_copyFrom_40 rfl

set_option maxHeartbeats 4000000 in
set_option maxRecDepth 100000 in
theorem c_X5_told {G : bkG} {Z : Nat → Prop} {M : bkM} {a i : Nat} {s go : Nat → Int32} (hm : M a = some (.inr (5, shF s go i))) {ce h : Nat} (hce : ce < 100) (hh : h < 100) (ec : s (140 + 5 * i + 1) = nI ce) (eh : s (140 + 5 * i + 2) = nI h) (w : Int32) : bkCi G Z Z yX5_told cX5_told 2 (some .int) 2 0 0 [.ref a, .int w] M (fun v M' => v = (if w = 0 then s (140 + 5 * i + 0) else if w = 1 then s (140 + 5 * i + 1) else if w = 2 then s (140 + 5 * i + 2) else if w = 3 then go (8 + i) else if w = 4 then s (140 + 5 * i + 4) else if w = 5 then jds ce h else -2) ∧ M' = M) := by
  refine bk_meti [some (.ref a), some (.int w)] rfl pf_X5_told rfl rfl (fun E X K => ?_)
  refine r_iload_n (pc := 0) X rfl dX5_told_0 ?_
  rcases tb_case 5 (by decide) w with ⟨w9, hw9, rfl⟩ | ⟨hq, hne⟩
  · match w9, hw9 with
    | 0, _ =>
      refine r_tableIn (pc := 1) X 40 (by decide) (by decide) rfl (by decide) dX5_told_1 ?_
      refine r_aload_n (pc := 40) X rfl dX5_told_40 ?_
      refine gt_X5_9 (pc := 41) X hm rfl dX5_told_41 ?_
      exact K dX5_told_44 ⟨(if_pos rfl).symm, rfl⟩
    | 1, _ =>
      refine r_tableIn (pc := 1) X 45 (by decide) (by decide) rfl (by decide) dX5_told_1 ?_
      refine r_aload_n (pc := 45) X rfl dX5_told_45 ?_
      refine gt_X5_15 (pc := 46) X hm rfl dX5_told_46 ?_
      exact K dX5_told_49 ⟨((if_neg (by decide)).trans (if_pos rfl)).symm, rfl⟩
    | 2, _ =>
      refine r_tableIn (pc := 1) X 50 (by decide) (by decide) rfl (by decide) dX5_told_1 ?_
      refine r_aload_n (pc := 50) X rfl dX5_told_50 ?_
      refine gt_X5_18 (pc := 51) X hm rfl dX5_told_51 ?_
      exact K dX5_told_54 ⟨((if_neg (by decide)).trans ((if_neg (by decide)).trans (if_pos rfl))).symm, rfl⟩
    | 3, _ =>
      refine r_tableIn (pc := 1) X 55 (by decide) (by decide) rfl (by decide) dX5_told_1 ?_
      refine r_aload_n (pc := 55) X rfl dX5_told_55 ?_
      refine gt_X5_21 (pc := 56) X hm rfl dX5_told_56 ?_
      exact K dX5_told_59 ⟨((if_neg (by decide)).trans ((if_neg (by decide)).trans ((if_neg (by decide)).trans (if_pos rfl)))).symm, rfl⟩
    | 4, _ =>
      refine r_tableIn (pc := 1) X 60 (by decide) (by decide) rfl (by decide) dX5_told_1 ?_
      refine r_aload_n (pc := 60) X rfl dX5_told_60 ?_
      refine gt_X5_24 (pc := 61) X hm rfl dX5_told_61 ?_
      exact K dX5_told_64 ⟨((if_neg (by decide)).trans ((if_neg (by decide)).trans ((if_neg (by decide)).trans ((if_neg (by decide)).trans (if_pos rfl))))).symm, rfl⟩
    | 5, _ =>
      refine r_tableIn (pc := 1) X 65 (by decide) (by decide) rfl (by decide) dX5_told_1 ?_
      refine r_aload_n (pc := 65) X rfl dX5_told_65 ?_
      refine gt_X5_15 (pc := 66) X hm rfl dX5_told_66 ?_
      refine bk_top ec ?_
      refine r_aload_n (pc := 69) X rfl dX5_told_69 ?_
      refine gt_X5_18 (pc := 70) X hm rfl dX5_told_70 ?_
      refine bk_top eh ?_
      refine ca_X5_31 (pc := 73) X (c_X8_distanceBetween ce h hce hh) rfl rfl rfl dX5_told_73 (fun r73 M73 hp73 => ?_)
      obtain ⟨rfl, rfl⟩ := hp73
      exact K dX5_told_76 ⟨((if_neg (by decide)).trans ((if_neg (by decide)).trans ((if_neg (by decide)).trans ((if_neg (by decide)).trans ((if_neg (by decide)).trans (if_pos rfl)))))).symm, rfl⟩
    | w9 + 6, hw9 => exact absurd hw9 (by omega)
  · refine r_tableOut (pc := 1) X 77 hq (by decide) dX5_told_1 ?_
    have n0 : w ≠ 0 := hne 0 (by omega)
    have n1 : w ≠ 1 := hne 1 (by omega)
    have n2 : w ≠ 2 := hne 2 (by omega)
    have n3 : w ≠ 3 := hne 3 (by omega)
    have n4 : w ≠ 4 := hne 4 (by omega)
    have n5 : w ≠ 5 := hne 5 (by omega)
    refine r_bipush (pc := 77) (v := (-2)) X rfl dX5_told_77 ?_
    exact K dX5_told_79 ⟨by first | rfl | rw [if_neg n0, if_neg n1, if_neg n2, if_neg n3, if_neg n4, if_neg n5], rfl⟩

set_option maxHeartbeats 4000000 in
set_option maxRecDepth 100000 in
theorem c_X5_begin {G : bkG} {Z : Nat → Prop} {M : bkM} {a i : Nat} {s go : Nat → Int32} (hm : M a = some (.inr (5, shF s go i))) (w ce h : Int32) : bkCv G Z Z yX5_begin cX5_begin 4 0 0 0 [.ref a, .int w, .int ce, .int h] M (fun M' => M' = bku M a (.inr (5, [.int w, .int ce, .int h, .int 0, .int 0, .int (go i)]))) := by
  refine bk_metv [some (.ref a), some (.int w), some (.int ce), some (.int h)] rfl pf_X5_begin rfl rfl (fun E X hn K => ?_)
  refine r_aload_n (pc := 0) X rfl dX5_begin_0 ?_
  refine r_iload_n (pc := 1) X rfl dX5_begin_1 ?_
  refine pt_X5_9 (pc := 2) X hm  rfl dX5_begin_2 ?_
  refine r_aload_n (pc := 5) X rfl dX5_begin_5 ?_
  refine r_iload_n (pc := 6) X rfl dX5_begin_6 ?_
  refine pt_X5_15 (pc := 7) X bku_at  rfl dX5_begin_7 ?_
  refine bkV.eq bku_bku ?_
  refine r_aload_n (pc := 10) X rfl dX5_begin_10 ?_
  refine r_iload_n (pc := 11) X rfl dX5_begin_11 ?_
  refine pt_X5_18 (pc := 12) X bku_at  rfl dX5_begin_12 ?_
  refine bkV.eq bku_bku ?_
  refine r_aload_n (pc := 15) X rfl dX5_begin_15 ?_
  refine r_iconst (pc := 16) (v := 0) X rfl dX5_begin_16 ?_
  refine pt_X5_21 (pc := 17) X bku_at  rfl dX5_begin_17 ?_
  refine bkV.eq bku_bku ?_
  refine r_aload_n (pc := 20) X rfl dX5_begin_20 ?_
  refine r_iconst (pc := 21) (v := 0) X rfl dX5_begin_21 ?_
  refine pt_X5_24 (pc := 22) X bku_at  rfl dX5_begin_22 ?_
  refine bkV.eq bku_bku ?_
  exact K dX5_begin_25 rfl

set_option maxHeartbeats 4000000 in
set_option maxRecDepth 100000 in
theorem c_X5_nextCell {G : bkG} {Z : Nat → Prop} {M : bkM} {a i : Nat} {s go : Nat → Int32} (hm : M a = some (.inr (5, shF s go i))) {ce h : Nat} (hce : ce < 100) (hh : h < 100) (ec : s (140 + 5 * i + 1) = nI ce) (eh : s (140 + 5 * i + 2) = nI h) : bkCi G Z Z yX5_nextCell cX5_nextCell 3 (some .int) 1 0 0 [.ref a] M (fun v M' => v = nI (jnx ce h) ∧ M' = M) := by
  refine bk_meti [some (.ref a), none, none] rfl pf_X5_nextCell rfl rfl (fun E X K => ?_)
  refine r_aload_n (pc := 0) X rfl dX5_nextCell_0 ?_
  refine gt_X5_18 (pc := 1) X hm rfl dX5_nextCell_1 ?_
  refine bk_top eh ?_
  refine r_bipush (pc := 4) (v := 10) X rfl dX5_nextCell_4 ?_
  refine r_irem (pc := 6) X (by decide) dX5_nextCell_6 ?_
  refine bk_top (pk_rem (a := h) (d := 10) (by omega) (by omega) (by omega)) ?_
  refine r_aload_n (pc := 7) X rfl dX5_nextCell_7 ?_
  refine gt_X5_15 (pc := 8) X hm rfl dX5_nextCell_8 ?_
  refine bk_top ec ?_
  refine r_bipush (pc := 11) (v := 10) X rfl dX5_nextCell_11 ?_
  refine r_irem (pc := 13) X (by decide) dX5_nextCell_13 ?_
  refine bk_top (pk_rem (a := ce) (d := 10) (by omega) (by omega) (by omega)) ?_
  refine ca_X5_35 (pc := 14) X (c_J6_compare_7cf53 (nI (h % 10)) (nI (ce % 10))) rfl rfl rfl dX5_nextCell_14 (fun r14 M14 hp14 => ?_)
  obtain ⟨rfl, rfl⟩ := hp14
  refine r_istore_n (pc := 17) X rfl rfl dX5_nextCell_17 ?_
  refine r_aload_n (pc := 18) X rfl dX5_nextCell_18 ?_
  refine gt_X5_18 (pc := 19) X hm rfl dX5_nextCell_19 ?_
  refine bk_top eh ?_
  refine r_bipush (pc := 22) (v := 10) X rfl dX5_nextCell_22 ?_
  refine r_idiv (pc := 24) X (by decide) dX5_nextCell_24 ?_
  refine bk_top (pk_div (a := h) (d := 10) (by omega) (by omega) (by omega)) ?_
  refine r_aload_n (pc := 25) X rfl dX5_nextCell_25 ?_
  refine gt_X5_15 (pc := 26) X hm rfl dX5_nextCell_26 ?_
  refine bk_top ec ?_
  refine r_bipush (pc := 29) (v := 10) X rfl dX5_nextCell_29 ?_
  refine r_idiv (pc := 31) X (by decide) dX5_nextCell_31 ?_
  refine bk_top (pk_div (a := ce) (d := 10) (by omega) (by omega) (by omega)) ?_
  refine ca_X5_35 (pc := 32) X (c_J6_compare_7cf53 (nI (h / 10)) (nI (ce / 10))) rfl rfl rfl dX5_nextCell_32 (fun r32 M32 hp32 => ?_)
  obtain ⟨rfl, rfl⟩ := hp32
  refine r_istore_n (pc := 35) X rfl rfl dX5_nextCell_35 ?_
  refine r_aload_n (pc := 36) X rfl dX5_nextCell_36 ?_
  refine gt_X5_15 (pc := 37) X hm rfl dX5_nextCell_37 ?_
  refine bk_top ec ?_
  refine r_iload_n (pc := 40) X rfl dX5_nextCell_40 ?_
  refine r_iadd (pc := 41) X dX5_nextCell_41 ?_
  refine r_bipush (pc := 42) (v := 10) X rfl dX5_nextCell_42 ?_
  refine r_iload_n (pc := 44) X rfl dX5_nextCell_44 ?_
  refine r_imul (pc := 45) X dX5_nextCell_45 ?_
  refine r_iadd (pc := 46) X dX5_nextCell_46 ?_
  exact K dX5_nextCell_47 ⟨by rw [ccmp_tw, ccmp_tw]; exact jnx_eq hce hh, rfl⟩

set_option maxHeartbeats 4000000 in
set_option maxRecDepth 100000 in
theorem c_X5_isAtSeaIn {G : bkG} {Z : Nat → Prop} {M : bkM} {a i : Nat} {s go : Nat → Int32} (hm : M a = some (.inr (5, shF s go i))) (x : Int32) : bkCi G Z Z yX5_isAtSeaIn cX5_isAtSeaIn 2 (some .boolean) 0 0 0 [.ref a, .int x] M (fun v M' => v = bi (decide (go (8 + i) = 0) && decide (s (140 + 5 * i + 1) = x)) ∧ M' = M) := by
  refine bk_metz [some (.ref a), some (.int x)] rfl pf_X5_isAtSeaIn rfl rfl (fun E X K => ?_)
  refine r_aload_n (pc := 0) X rfl dX5_isAtSeaIn_0 ?_
  refine gt_X5_21 (pc := 1) X hm rfl dX5_isAtSeaIn_1 ?_
  refine r_if_ne (pc := 4) X 19 (by decide) dX5_isAtSeaIn_4 (fun q4 => ?_) (fun q4 => ?_)
  · skip
    refine r_iconst (pc := 19) (v := 0) X rfl dX5_isAtSeaIn_19 ?_
    exact K dX5_isAtSeaIn_20 (by first | exact Or.inl rfl | exact Or.inr rfl) ⟨by first | (rw [decide_eq_false q4]; rfl) | (rw [decide_eq_true q4, decide_eq_false q12]; rfl) | (rw [decide_eq_true q4, decide_eq_true q12]; rfl), rfl⟩
  · skip
    refine r_aload_n (pc := 7) X rfl dX5_isAtSeaIn_7 ?_
    refine gt_X5_15 (pc := 8) X hm rfl dX5_isAtSeaIn_8 ?_
    refine r_iload_n (pc := 11) X rfl dX5_isAtSeaIn_11 ?_
    refine r_icmp_ne (pc := 12) X 19 (by decide) dX5_isAtSeaIn_12 (fun q12 => ?_) (fun q12 => ?_)
    · skip
      refine r_iconst (pc := 19) (v := 0) X rfl dX5_isAtSeaIn_19 ?_
      exact K dX5_isAtSeaIn_20 (by first | exact Or.inl rfl | exact Or.inr rfl) ⟨by first | (rw [decide_eq_false q4]; rfl) | (rw [decide_eq_true q4, decide_eq_false q12]; rfl) | (rw [decide_eq_true q4, decide_eq_true q12]; rfl), rfl⟩
    · skip
      refine r_iconst (pc := 15) (v := 1) X rfl dX5_isAtSeaIn_15 ?_
      refine r_goto (pc := 16) X 20 (by decide) dX5_isAtSeaIn_16 ?_
      exact K dX5_isAtSeaIn_20 (by first | exact Or.inl rfl | exact Or.inr rfl) ⟨by first | (rw [decide_eq_false q4]; rfl) | (rw [decide_eq_true q4, decide_eq_false q12]; rfl) | (rw [decide_eq_true q4, decide_eq_true q12]; rfl), rfl⟩

theorem shF_m {i : Nat} {s go : Nat → Int32} {x : Int32} : [.int (s (140 + 5 * i + 0)), .int x, .int (s (140 + 5 * i + 2)), .int (go (8 + i)), .int (s (140 + 5 * i + 4)), .int (go i)] = shF (upd s (140 + 5 * i + 1) x) go i := by simp [shF, upd]
theorem shF_c {i : Nat} {s go : Nat → Int32} {x v : Int32} : [.int (s (140 + 5 * i + 0)), .int x, .int (s (140 + 5 * i + 2)), .int v, .int (s (140 + 5 * i + 4)), .int (go i)] = shF (upd (upd s (140 + 5 * i + 1) x) (140 + 5 * i + 3) v) (upd go (8 + i) v) i := by
  have h : ¬ i = 8 + i := by omega
  simp [shF, upd, h]
set_option maxHeartbeats 4000000 in
set_option maxRecDepth 100000 in
theorem c_X5_comeTo {G : bkG} {Z : Nat → Prop} {M : bkM} {a i : Nat} {s go : Nat → Int32} (hm : M a = some (.inr (5, shF s go i))) (x : Int32) : bkCv G Z Z yX5_comeTo cX5_comeTo 2 0 0 0 [.ref a, .int x] M (fun M' => M' = bku M a (.inr (5, shF (if x = s (140 + 5 * i + 2) then upd (upd s (140 + 5 * i + 1) x) (140 + 5 * i + 3) 1 else upd s (140 + 5 * i + 1) x) (if x = s (140 + 5 * i + 2) then upd go (8 + i) 1 else go) i))) := by
  refine bk_metv [some (.ref a), some (.int x)] rfl pf_X5_comeTo rfl rfl (fun E X hn K => ?_)
  refine r_aload_n (pc := 0) X rfl dX5_comeTo_0 ?_
  refine r_iload_n (pc := 1) X rfl dX5_comeTo_1 ?_
  refine pt_X5_15 (pc := 2) X hm  rfl dX5_comeTo_2 ?_
  refine r_aload_n (pc := 5) X rfl dX5_comeTo_5 ?_
  refine gt_X5_15 (pc := 6) X bku_at rfl dX5_comeTo_6 ?_
  refine r_aload_n (pc := 9) X rfl dX5_comeTo_9 ?_
  refine gt_X5_18 (pc := 10) X bku_at rfl dX5_comeTo_10 ?_
  refine r_icmp_ne (pc := 13) X 21 (by decide) dX5_comeTo_13 (fun q13 => ?_) (fun q13 => ?_)
  · skip
    exact K dX5_comeTo_21 (by first | (rw [if_pos q13, if_pos q13]; exact congrArg (fun z => bku M a (.inr (5, z))) shF_c) | (rw [if_neg q13, if_neg q13]; exact congrArg (fun z => bku M a (.inr (5, z))) shF_m))
  · skip
    refine r_aload_n (pc := 16) X rfl dX5_comeTo_16 ?_
    refine r_iconst (pc := 17) (v := 1) X rfl dX5_comeTo_17 ?_
    refine pt_X5_21 (pc := 18) X bku_at  rfl dX5_comeTo_18 ?_
    refine bkV.eq bku_bku ?_
    exact K dX5_comeTo_21 (by first | (rw [if_pos q13, if_pos q13]; exact congrArg (fun z => bku M a (.inr (5, z))) shF_c) | (rw [if_neg q13, if_neg q13]; exact congrArg (fun z => bku M a (.inr (5, z))) shF_m))

set_option maxHeartbeats 4000000 in
set_option maxRecDepth 100000 in
theorem c_X5_breakIn {G : bkG} {Z : Nat → Prop} {M : bkM} {a i : Nat} {s go : Nat → Int32} (hm : M a = some (.inr (5, shF s go i))) (x : Int32) : bkCv G Z Z yX5_breakIn cX5_breakIn 2 0 0 0 [.ref a, .int x] M (fun M' => M' = bku M a (.inr (5, shF (upd (upd s (140 + 5 * i + 1) x) (140 + 5 * i + 3) 2) (upd go (8 + i) 2) i))) := by
  refine bk_metv [some (.ref a), some (.int x)] rfl pf_X5_breakIn rfl rfl (fun E X hn K => ?_)
  refine r_aload_n (pc := 0) X rfl dX5_breakIn_0 ?_
  refine r_iload_n (pc := 1) X rfl dX5_breakIn_1 ?_
  refine pt_X5_15 (pc := 2) X hm  rfl dX5_breakIn_2 ?_
  refine r_aload_n (pc := 5) X rfl dX5_breakIn_5 ?_
  refine r_iconst (pc := 6) (v := 2) X rfl dX5_breakIn_6 ?_
  refine pt_X5_21 (pc := 7) X bku_at  rfl dX5_breakIn_7 ?_
  refine bkV.eq bku_bku ?_
  exact K dX5_breakIn_10 (congrArg (fun z => bku M a (.inr (5, z))) shF_c)

