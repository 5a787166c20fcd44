set_option maxHeartbeats 4000000 in
set_option maxRecDepth 100000 in
theorem c_X3_eastOnRing {G : bkG} {Z : Nat → Prop} {M : bkM} (a b : Int32) (ha : ¬ 8 * a = 0) (h1 : 1 ≤ a) : bkCi G Z Z yX3_eastOnRing cX3_eastOnRing 3 (some .int) 1 0 0 [.int a, .int b] M (fun v M' => v = ceo a b ∧ M' = M) := by
  refine bk_meti [some (.int a), some (.int b), none] rfl pf_X3_eastOnRing rfl rfl (fun E X K => ?_)
  refine r_iload_n (pc := 0) X rfl dX3_eastOnRing_0 ?_
  refine r_iconst (pc := 1) (v := 1) X rfl dX3_eastOnRing_1 ?_
  refine r_icmp_ge (pc := 2) X 7 (by decide) dX3_eastOnRing_2 (fun q2 => ?_) (fun q2 => ?_)
  · skip
    refine r_iload_n (pc := 7) X rfl dX3_eastOnRing_7 ?_
    refine r_bipush (pc := 8) (v := 8) X rfl dX3_eastOnRing_8 ?_
    refine r_iload_n (pc := 10) X rfl dX3_eastOnRing_10 ?_
    refine r_imul (pc := 11) X dX3_eastOnRing_11 ?_
    refine ca_X3_76 (pc := 12) X (c_J9_floorMod_7cf53 b (8 * a) ha) rfl rfl rfl dX3_eastOnRing_12 (fun r12 M12 hp12 => ?_)
    obtain ⟨rfl, rfl⟩ := hp12
    refine r_iconst (pc := 15) (v := 4) X rfl dX3_eastOnRing_15 ?_
    refine r_iload_n (pc := 16) X rfl dX3_eastOnRing_16 ?_
    refine r_imul (pc := 17) X dX3_eastOnRing_17 ?_
    refine r_isub (pc := 18) X dX3_eastOnRing_18 ?_
    refine ca_X3_79 (pc := 19) X (c_J9_abs_0f7a4 _) rfl rfl rfl dX3_eastOnRing_19 (fun r19 M19 hp19 => ?_)
    obtain ⟨rfl, rfl⟩ := hp19
    refine r_istore_n (pc := 22) X rfl rfl dX3_eastOnRing_22 ?_
    refine r_iload_n (pc := 23) X rfl dX3_eastOnRing_23 ?_
    refine r_ineg (pc := 24) X dX3_eastOnRing_24 ?_
    refine r_iload_n (pc := 25) X rfl dX3_eastOnRing_25 ?_
    refine r_iload_n (pc := 26) X rfl dX3_eastOnRing_26 ?_
    refine r_iconst (pc := 27) (v := 2) X rfl dX3_eastOnRing_27 ?_
    refine r_iload_n (pc := 28) X rfl dX3_eastOnRing_28 ?_
    refine r_imul (pc := 29) X dX3_eastOnRing_29 ?_
    refine r_isub (pc := 30) X dX3_eastOnRing_30 ?_
    refine ca_X3_54 (pc := 31) X (c_J9_min_7cf53 _ _) rfl rfl rfl dX3_eastOnRing_31 (fun r31 M31 hp31 => ?_)
    obtain ⟨rfl, rfl⟩ := hp31
    refine ca_X3_82 (pc := 34) X (c_J9_max_7cf53 _ _) rfl rfl rfl dX3_eastOnRing_34 (fun r34 M34 hp34 => ?_)
    obtain ⟨rfl, rfl⟩ := hp34
    exact K dX3_eastOnRing_37 ⟨rfl, rfl⟩
  · skip
    exact absurd h1 q2

set_option maxHeartbeats 4000000 in
set_option maxRecDepth 100000 in
theorem c_X3_cellOnRing {G : bkG} {Z : Nat → Prop} {M : bkM} {a B i : Nat} {s : Nat → Int32} (hm : M a = some (.inr (3, ltF B s i))) (hi : i < 4) (p q : Int32) (hp : ¬ 8 * p = 0) (h1 : 1 ≤ p) : bkCi G Z Z yX3_cellOnRing cX3_cellOnRing 5 (some .int) 2 0 0 [.ref a, .int p, .int q] M (fun v M' => v = crg i p q ∧ M' = M) := by
  refine bk_meti [some (.ref a), some (.int p), some (.int q), none, none] rfl pf_X3_cellOnRing rfl rfl (fun E X K => ?_)
  refine r_aload_n (pc := 0) X rfl dX3_cellOnRing_0 ?_
  refine gt_X3_28 (pc := 1) X hm rfl dX3_cellOnRing_1 ?_
  refine r_bipush (pc := 4) (v := 10) X rfl dX3_cellOnRing_4 ?_
  refine r_irem (pc := 6) X (by decide) dX3_cellOnRing_6 ?_
  refine bk_top (pk_rem (a := jhm i) (d := 10) (by have := jhm_lt i; omega) (by omega) (by omega)) ?_
  refine r_iload_n (pc := 7) X rfl dX3_cellOnRing_7 ?_
  refine r_iload_n (pc := 8) X rfl dX3_cellOnRing_8 ?_
  refine ca_X3_73 (pc := 9) X (c_X3_eastOnRing p q hp h1) rfl rfl rfl dX3_cellOnRing_9 (fun r9 M9 hp9 => ?_)
  obtain ⟨rfl, rfl⟩ := hp9
  refine r_iadd (pc := 12) X dX3_cellOnRing_12 ?_
  refine r_istore_n (pc := 13) X rfl rfl dX3_cellOnRing_13 ?_
  refine r_aload_n (pc := 14) X rfl dX3_cellOnRing_14 ?_
  refine gt_X3_28 (pc := 15) X hm rfl dX3_cellOnRing_15 ?_
  refine r_bipush (pc := 18) (v := 10) X rfl dX3_cellOnRing_18 ?_
  refine r_idiv (pc := 20) X (by decide) dX3_cellOnRing_20 ?_
  refine bk_top (pk_div (a := jhm i) (d := 10) (by have := jhm_lt i; omega) (by omega) (by omega)) ?_
  refine r_iload_n (pc := 21) X rfl dX3_cellOnRing_21 ?_
  refine r_iload_n (pc := 22) X rfl dX3_cellOnRing_22 ?_
  refine r_iconst (pc := 23) (v := 2) X rfl dX3_cellOnRing_23 ?_
  refine r_iload_n (pc := 24) X rfl dX3_cellOnRing_24 ?_
  refine r_imul (pc := 25) X dX3_cellOnRing_25 ?_
  refine r_isub (pc := 26) X dX3_cellOnRing_26 ?_
  refine ca_X3_73 (pc := 27) X (c_X3_eastOnRing p (q - 2 * p) hp h1) rfl rfl rfl dX3_cellOnRing_27 (fun r27 M27 hp27 => ?_)
  obtain ⟨rfl, rfl⟩ := hp27
  refine r_iadd (pc := 30) X dX3_cellOnRing_30 ?_
  refine r_istore (pc := 31) X rfl rfl dX3_cellOnRing_31 ?_
  refine r_iload_n (pc := 33) X rfl dX3_cellOnRing_33 ?_
  refine r_if_lt (pc := 34) X 55 (by decide) dX3_cellOnRing_34 (fun q34 => ?_) (fun q34 => ?_)
  · skip
    refine r_bipush (pc := 55) (v := (-5)) X rfl dX3_cellOnRing_55 ?_
    exact K dX3_cellOnRing_57 ⟨by unfold crg; exact (if_pos (by first | exact Or.inl q34 | exact Or.inr (Or.inl q40) | exact Or.inr (Or.inr (Or.inl q45)) | exact Or.inr (Or.inr (Or.inr (Int32.not_lt.mp q52))))).symm, rfl⟩
  · skip
    refine r_iload_n (pc := 37) X rfl dX3_cellOnRing_37 ?_
    refine r_bipush (pc := 38) (v := 10) X rfl dX3_cellOnRing_38 ?_
    refine r_icmp_ge (pc := 40) X 55 (by decide) dX3_cellOnRing_40 (fun q40 => ?_) (fun q40 => ?_)
    · skip
      refine r_bipush (pc := 55) (v := (-5)) X rfl dX3_cellOnRing_55 ?_
      exact K dX3_cellOnRing_57 ⟨by unfold crg; exact (if_pos (by first | exact Or.inl q34 | exact Or.inr (Or.inl q40) | exact Or.inr (Or.inr (Or.inl q45)) | exact Or.inr (Or.inr (Or.inr (Int32.not_lt.mp q52))))).symm, rfl⟩
    · skip
      refine r_iload (pc := 43) X rfl dX3_cellOnRing_43 ?_
      refine r_if_lt (pc := 45) X 55 (by decide) dX3_cellOnRing_45 (fun q45 => ?_) (fun q45 => ?_)
      · skip
        refine r_bipush (pc := 55) (v := (-5)) X rfl dX3_cellOnRing_55 ?_
        exact K dX3_cellOnRing_57 ⟨by unfold crg; exact (if_pos (by first | exact Or.inl q34 | exact Or.inr (Or.inl q40) | exact Or.inr (Or.inr (Or.inl q45)) | exact Or.inr (Or.inr (Or.inr (Int32.not_lt.mp q52))))).symm, rfl⟩
      · skip
        refine r_iload (pc := 48) X rfl dX3_cellOnRing_48 ?_
        refine r_bipush (pc := 50) (v := 10) X rfl dX3_cellOnRing_50 ?_
        refine r_icmp_lt (pc := 52) X 58 (by decide) dX3_cellOnRing_52 (fun q52 => ?_) (fun q52 => ?_)
        · skip
          refine r_bipush (pc := 58) (v := 10) X rfl dX3_cellOnRing_58 ?_
          refine r_iload (pc := 60) X rfl dX3_cellOnRing_60 ?_
          refine r_imul (pc := 62) X dX3_cellOnRing_62 ?_
          refine r_iload_n (pc := 63) X rfl dX3_cellOnRing_63 ?_
          refine r_iadd (pc := 64) X dX3_cellOnRing_64 ?_
          exact K dX3_cellOnRing_65 ⟨by unfold crg; refine (if_neg ?_).symm; rintro (z | z | z | z); exact q34 z; exact q40 z; exact q45 z; exact absurd q52 (Int32.not_lt.mpr z), rfl⟩
        · skip
          refine r_bipush (pc := 55) (v := (-5)) X rfl dX3_cellOnRing_55 ?_
          exact K dX3_cellOnRing_57 ⟨by unfold crg; exact (if_pos (by first | exact Or.inl q34 | exact Or.inr (Or.inl q40) | exact Or.inr (Or.inr (Or.inl q45)) | exact Or.inr (Or.inr (Or.inr (Int32.not_lt.mp q52))))).symm, rfl⟩

set_option maxHeartbeats 4000000 in
set_option maxRecDepth 100000 in
theorem c_X3_meetsOnWalk {G : bkG} {Z : Nat → Prop} {M : bkM} {a B i : Nat} {s : Nat → Int32} (hm : M a = some (.inr (3, ltF B s i))) (hi : i < 4) (hf : jlf s) (c h : Nat) (hc : c < 100) (hh : h ≤ 20000) : bkCi G Z Z yX3_meetsOnWalk cX3_meetsOnWalk 9 (some .boolean) 3 0 0 [.ref a, .int (nI c), .int (nI h)] M (fun v M' => v = bi (clit s i c (nI h) 0) ∧ M' = M) := by
  refine bk_metz [some (.ref a), some (.int (nI c)), some (.int (nI h)), none, none, none, none, none, none] rfl pf_X3_meetsOnWalk rfl rfl (fun E X K => ?_)
  refine r_iload_n (pc := 0) X rfl dX3_meetsOnWalk_0 ?_
  refine r_aload_n (pc := 1) X rfl dX3_meetsOnWalk_1 ?_
  refine gt_X3_28 (pc := 2) X hm rfl dX3_meetsOnWalk_2 ?_
  refine r_icmpN_ne (pc := 5) X 10 (c) (jhm i) rfl rfl (by omega) (by have := jhm_lt i; omega) (by decide) dX3_meetsOnWalk_5 (fun q5 => ?_) (fun q5 => ?_)
  · skip
    have hne : c ≠ jhm i := q5
    obtain ⟨w, hw8, ew⟩ := jbm_n hf hi hh
    have e1 : clit s i c (nI h) 0 = (decide (cwd i c = nI w) && decide (cds i c ≤ crch s i 0) && !jdk s i (cwd i c)) := by unfold clit; rw [decide_eq_false hne, Bool.false_or, ew]
    refine r_aload_n (pc := 10) X rfl dX3_meetsOnWalk_10 ?_
    refine r_iload_n (pc := 11) X rfl dX3_meetsOnWalk_11 ?_
    refine ca_X3_47 (pc := 12) X (c_X3_beamWind hm (nI h)) hm rfl rfl rfl dX3_meetsOnWalk_12 (fun r12 M12 hp12 => ?_)
    obtain ⟨rfl, ez⟩ := hp12
    rw [ez]
    clear ez
    refine bk_top ew ?_
    refine r_istore_n (pc := 15) X rfl rfl dX3_meetsOnWalk_15 ?_
    refine r_aload_n (pc := 16) X rfl dX3_meetsOnWalk_16 ?_
    refine r_iload_n (pc := 17) X rfl dX3_meetsOnWalk_17 ?_
    refine ca_X3_67 (pc := 18) X (c_X3_isDark hm (nI w)) hm rfl rfl rfl dX3_meetsOnWalk_18 (fun r18 M18 hp18 => ?_)
    obtain ⟨rfl, ez⟩ := hp18
    rw [ez]
    clear ez
    refine r_if_eq (pc := 21) X 26 (by decide) dX3_meetsOnWalk_21 (fun q21 => ?_) (fun q21 => ?_)
    · skip
      have hd := bi_0.mp q21
      refine r_aload_n (pc := 26) X rfl dX3_meetsOnWalk_26 ?_
      refine r_iconst (pc := 27) (v := 0) X rfl dX3_meetsOnWalk_27 ?_
      refine ca_X3_64 (pc := 28) X (c_X3_reach hm 0) hm rfl rfl rfl dX3_meetsOnWalk_28 (fun r28 M28 hp28 => ?_)
      obtain ⟨rfl, ez⟩ := hp28
      rw [ez]
      clear ez
      refine r_istore (pc := 31) X rfl rfl dX3_meetsOnWalk_31 ?_
      refine r_iconst (pc := 33) (v := 1) X rfl dX3_meetsOnWalk_33 ?_
      refine r_istore (pc := 34) X rfl rfl dX3_meetsOnWalk_34 ?_
      have hre := crch_9 hf hi
      have lp36 : ∀ (d j : Nat) (y : Int32), 1 ≤ j → j ≤ 10 → 10 < j + d → y = nI j → (∀ r, 1 ≤ r → r < j → ¬ (cwd i c = nI w ∧ cds i c = nI r)) → bkV E G Z 0 0 M 36 [some (.ref a), some (.int (nI c)), some (.int (nI h)), some (.int (nI w)), some (.int (crch s i 0)), some (.int y), none, none, none] [] := by
        intro d
        induction d with
        | zero => intros; omega
        | succ d ih =>
          intro j y hj1 hj hd0 ey hno
          subst ey
          refine r_iload (pc := 36) X rfl dX3_meetsOnWalk_36 ?_
          refine r_iload (pc := 38) X rfl dX3_meetsOnWalk_38 ?_
          refine r_icmp_gt (pc := 40) X 113 (by decide) dX3_meetsOnWalk_40 (fun q40 => ?_) (fun q40 => ?_)
          · skip
            have e2 : clit s i c (nI h) 0 = false := by
              rw [e1]
              by_cases z : cwd i c = nI w
              · obtain ⟨w2, r2, hw2, hr1, hr9, ea, eb, -⟩ := cnear hi hc hne
                rw [decide_eq_false (fun q => hno r2 hr1 (Nat.not_le.mp fun u => absurd (Int32.le_trans (nI_le u (by omega)) (eb ▸ q)) (Int32.not_le.mpr q40)) ⟨z, eb⟩), Bool.and_false, Bool.false_and]
              · rw [decide_eq_false z, Bool.false_and, Bool.false_and]
            refine r_iconst (pc := 113) (v := 0) X rfl dX3_meetsOnWalk_113 ?_
            exact K dX3_meetsOnWalk_114 (by first | exact Or.inl rfl | exact Or.inr rfl) ⟨by rw [e2]; rfl, rfl⟩
          · skip
            have hjr : nI j ≤ crch s i 0 := Int32.not_lt.mp q40
            have hj9 : j ≤ 9 := (nI_leI (by omega) (by decide)).mp (Int32.le_trans hjr hre)
            have t68 : bkV E G Z 0 0 M 68 [some (.ref a), some (.int (nI c)), some (.int (nI h)), some (.int (nI w)), some (.int (crch s i 0)), some (.int (nI j)), some (.int (nI (w * j))), none, none] [.int (nI (chf w j))] := by
              refine r_istore (pc := 68) X rfl rfl dX3_meetsOnWalk_68 ?_
              refine r_iload (pc := 70) X rfl dX3_meetsOnWalk_70 ?_
              refine r_iload (pc := 72) X rfl dX3_meetsOnWalk_72 ?_
              refine r_isub (pc := 74) X dX3_meetsOnWalk_74 ?_
              refine r_istore (pc := 75) X rfl rfl dX3_meetsOnWalk_75 ?_
              have h4 := chf_le (w := w) hj9
              have lp77 : ∀ (e o : Nat) (y : Int32), o ≤ 2 * chf w j + 1 → 9 < o + e → y = cst w j o → (∀ p, p < o → ¬ crg i (nI j) (cst w j p) = nI c) → bkV E G Z 0 0 M 77 [some (.ref a), some (.int (nI c)), some (.int (nI h)), some (.int (nI w)), some (.int (crch s i 0)), some (.int (nI j)), some (.int (nI (w * j))), some (.int (nI (chf w j))), some (.int y)] [] := by
                intro e
                induction e with
                | zero => intros; omega
                | succ e ih2 =>
                  intro o y ho he ey hno2
                  subst ey
                  refine r_iload (pc := 77) X rfl dX3_meetsOnWalk_77 ?_
                  refine r_iload (pc := 79) X rfl dX3_meetsOnWalk_79 ?_
                  refine r_iload (pc := 81) X rfl dX3_meetsOnWalk_81 ?_
                  refine r_iadd (pc := 83) X dX3_meetsOnWalk_83 ?_
                  refine r_icmp_gt (pc := 84) X 107 (by decide) dX3_meetsOnWalk_84 (fun q84 => ?_) (fun q84 => ?_)
                  · skip
                    have ho2 := (cst_lt w hw8 j (by omega) o (by omega)).mp q84
                    refine r_iinc (pc := 107) X rfl rfl rfl dX3_meetsOnWalk_107 ?_
                    refine r_goto (pc := 110) X 36 (by decide) dX3_meetsOnWalk_110 ?_
                    refine bkV.drop 6 (bkV.drop 7 (bkV.drop 8 (ih (j + 1) _ (by omega) (by omega) (by omega) (nI_1 j) ?_)))
                    intro r h1 h2 hz
                    rcases (by omega : r < j ∨ r = j) with z | z
                    · exact hno r h1 z hz
                    · subst z
                      obtain ⟨w2, r2, hw2, hr1, hr9, ea, eb, o2, ho3, ec⟩ := cnear hi hc hne
                      have f1 : w2 = w := (nI_eq (by omega) (by omega)).mp (ea.symm.trans hz.1)
                      have f2 : r2 = r := (nI_eq (by omega) (by omega)).mp (eb.symm.trans hz.2)
                      subst f1
                      subst f2
                      exact hno2 o2 (by omega) ec
                  · skip
                    have ho2 : o ≤ 2 * chf w j := Nat.not_lt.mp (fun z => q84 ((cst_lt w hw8 j (by omega) o (by omega)).mpr z))
                    refine r_aload_n (pc := 87) X rfl dX3_meetsOnWalk_87 ?_
                    refine r_iload (pc := 88) X rfl dX3_meetsOnWalk_88 ?_
                    refine r_iload (pc := 90) X rfl dX3_meetsOnWalk_90 ?_
                    refine ca_X3_70 (pc := 92) X (c_X3_cellOnRing hm hi (nI j) (cst w j o) (by rw [show (8 : Int32) = nI 8 from rfl, nI_mul]; exact nI_ne0 (by omega) (by omega)) ((nI_leI (a := 1) (b := j) (by omega) (by omega)).mpr hj1)) hm rfl rfl rfl dX3_meetsOnWalk_92 (fun r92 M92 hp92 => ?_)
                    obtain ⟨rfl, ez⟩ := hp92
                    rw [ez]
                    clear ez
                    refine r_iload_n (pc := 95) X rfl dX3_meetsOnWalk_95 ?_
                    refine r_icmp_ne (pc := 96) X 101 (by decide) dX3_meetsOnWalk_96 (fun q96 => ?_) (fun q96 => ?_)
                    · skip
                      refine r_iinc (pc := 101) X rfl rfl rfl dX3_meetsOnWalk_101 ?_
                      refine r_goto (pc := 104) X 77 (by decide) dX3_meetsOnWalk_104 ?_
                      exact ih2 (o + 1) _ (by omega) (by omega) (cst_1 w j o) (fun p hp => by rcases (by omega : p < o ∨ p = o) with z | z; exact hno2 p z; subst z; exact q96)
                    · skip
                      have hit := crg_ok hi hw8 hj1 hj9 ho2 hc q96
                      refine r_iconst (pc := 99) (v := 1) X rfl dX3_meetsOnWalk_99 ?_
                      exact K dX3_meetsOnWalk_100 (by first | exact Or.inl rfl | exact Or.inr rfl) ⟨by rw [e1, hit.1, hit.2, hd, decide_eq_true hjr, decide_eq_true rfl]; rfl, rfl⟩
              exact lp77 10 0 _ (by omega) (by omega) (cst_0 w j).symm (fun p hp => absurd hp (Nat.not_lt_zero p))
            refine r_iload_n (pc := 43) X rfl dX3_meetsOnWalk_43 ?_
            refine r_iload (pc := 44) X rfl dX3_meetsOnWalk_44 ?_
            refine r_imul (pc := 46) X dX3_meetsOnWalk_46 ?_
            refine bk_top (nI_mul w j) ?_
            refine r_istore (pc := 47) X rfl rfl dX3_meetsOnWalk_47 ?_
            refine r_iload_n (pc := 49) X rfl dX3_meetsOnWalk_49 ?_
            refine r_iconst (pc := 50) (v := 2) X rfl dX3_meetsOnWalk_50 ?_
            refine r_irem (pc := 51) X (by decide) dX3_meetsOnWalk_51 ?_
            refine bk_top (pk_rem (a := w) (d := 2) (by omega) (by omega) (by omega)) ?_
            refine r_if_ne (pc := 52) X 62 (by decide) dX3_meetsOnWalk_52 (fun q52 => ?_) (fun q52 => ?_)
            · skip
              have hod : ¬ w % 2 = 0 := fun z => q52 (by rw [z]; rfl)
              refine r_iload (pc := 62) X rfl dX3_meetsOnWalk_62 ?_
              refine r_iconst (pc := 64) (v := 1) X rfl dX3_meetsOnWalk_64 ?_
              refine r_isub (pc := 65) X dX3_meetsOnWalk_65 ?_
              refine bk_top (nI_s1 hj1) ?_
              refine r_iconst (pc := 66) (v := 2) X rfl dX3_meetsOnWalk_66 ?_
              refine r_idiv (pc := 67) X (by decide) dX3_meetsOnWalk_67 ?_
              refine bk_top (pk_div (a := j - 1) (d := 2) (by omega) (by omega) (by omega)) ?_
              first | exact bk_top (congrArg nI (if_pos hev).symm) t68 | exact bk_top (congrArg nI (if_neg hod).symm) t68
            · skip
              have hev : w % 2 = 0 := (nI_eq (a := w % 2) (b := 0) (by omega) (by decide)).mp q52
              refine r_iload (pc := 55) X rfl dX3_meetsOnWalk_55 ?_
              refine r_iconst (pc := 57) (v := 2) X rfl dX3_meetsOnWalk_57 ?_
              refine r_idiv (pc := 58) X (by decide) dX3_meetsOnWalk_58 ?_
              refine bk_top (pk_div (a := j) (d := 2) (by omega) (by omega) (by omega)) ?_
              refine r_goto (pc := 59) X 68 (by decide) dX3_meetsOnWalk_59 ?_
              first | exact bk_top (congrArg nI (if_pos hev).symm) t68 | exact bk_top (congrArg nI (if_neg hod).symm) t68
      exact lp36 10 1 1 (by omega) (by omega) (by omega) rfl (fun r h1 h2 => absurd h1 (by omega))
    · skip
      have hd := bi_n0.mp q21
      have e2 : clit s i c (nI h) 0 = false := by
        rw [e1]
        by_cases z : cwd i c = nI w
        · rw [z, hd, Bool.not_true, Bool.and_false]
        · rw [decide_eq_false z, Bool.false_and, Bool.false_and]
      refine r_iconst (pc := 24) (v := 0) X rfl dX3_meetsOnWalk_24 ?_
      exact K dX3_meetsOnWalk_25 (by first | exact Or.inl rfl | exact Or.inr rfl) ⟨by rw [e2]; rfl, rfl⟩
  · skip
    have e1 : clit s i c (nI h) 0 = true := by unfold clit; rw [decide_eq_true q5, Bool.true_or]
    refine r_iconst (pc := 8) (v := 1) X rfl dX3_meetsOnWalk_8 ?_
    exact K dX3_meetsOnWalk_9 (by first | exact Or.inl rfl | exact Or.inr rfl) ⟨by rw [e1]; rfl, rfl⟩

