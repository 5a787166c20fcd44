set_option maxHeartbeats 800000 in
set_option maxRecDepth 100000 in
theorem c_X7_read {G : bkG} {Z : Nat → Prop} {M : bkM} {T : Nat} {t : Nat → Int32} {pc pl : Int32} {pf : Nat → Nat → Int32} {len : Nat} (h60 : len ≤ 60) (ht : tOK t) : bkCi G Z Z yX7_read cX7_read 2 (some .int) 5 0 0 [.ref T] (tW G T t (nI len) pc pl pf M) (fun z M' => z = jfault t len ∧ ∃ pc' pl' pf', M' = (tW G T t (nI len) pc' pl' pf' M) ∧ ((jRd t len).1.2 = false → pc' = nI (jRd t len).2.length ∧ cgs t len (jRd t len).2 pf')) := by
  refine bk_meti [some (.ref T), none] rfl pf_X7_read rfl rfl (fun E X K => ?_)
  refine r_aload_n (pc := 0) X rfl dX7_read_0 ?_
  refine r_iconst (pc := 1) (v := 0) X rfl dX7_read_1 ?_
  refine pt_X7_28 (pc := 2) X tW_o  rfl dX7_read_2 ?_
  refine bkV.eq (show bku _ T _ = (tW G T t (nI len) pc 0 pf M) from tS_o) ?_
  refine r_aload_n (pc := 5) X rfl dX7_read_5 ?_
  refine r_iconst (pc := 6) (v := 0) X rfl dX7_read_6 ?_
  refine pt_X7_25 (pc := 7) X tW_o  rfl dX7_read_7 ?_
  refine bkV.eq (show bku _ T _ = (tW G T t (nI len) 0 0 pf M) from tS_o) ?_
  refine r_iconst (pc := 10) (v := 0) X rfl dX7_read_10 ?_
  refine r_istore_n (pc := 11) X rfl rfl dX7_read_11 ?_
  have lp12 : ∀ (d i p : Nat) (y : Int32) (pre : List JX) (pf : Nat → Nat → Int32), p ≤ len → len - p < d → 3 * i ≤ p → pre.length = i → y = nI i → (jRd t len).1 = (jrd t len d (p, false)).1 → (jRd t len).2 = pre ++ (jrd t len d (p, false)).2 → cgs t len pre pf → bkV E G Z 0 0 (tW G T t (nI len) (nI i) (nI p) pf M) 12 [some (.ref T), some (.int y)] [] := by
    intro d
    induction d with
    | zero => intros; omega
    | succ d ih =>
      intro i p y pre pf hp hd h3 hl ey e1 e2 hg
      subst ey
      refine r_iload_n (pc := 12) X rfl dX7_read_12 ?_
      refine r_bipush (pc := 13) (v := 20) X rfl dX7_read_13 ?_
      refine r_icmpN_ge (pc := 15) X 80 (i) (20) rfl rfl (by omega) (by omega) (by decide) dX7_read_15 (fun q15 => ?_) (fun q15 => ?_)
      · skip
        have ep : ¬ p < len := by omega
        have eR : jrd t len (d + 1) (p, false) = ((p, true), [(p, false)]) := by rw [jrd_s1 (Or.inl (by rw [jpx_end ep])), jpx_end ep]
        refine r_aload_n (pc := 80) X rfl dX7_read_80 ?_
        refine gt_X7_28 (pc := 81) X tW_o rfl dX7_read_81 ?_
        exact K dX7_read_84 ⟨by unfold jfault; rw [e1, eR]; rfl, _, _, _, rfl, fun z => by rw [e1, eR] at z; cases z⟩
      · skip
        refine bkV.eq (congrArg (fun z => tW G T t (nI len) (nI i) (nI p) z M) (pfu_self (i := i)).symm) ?_
        refine r_aload_n (pc := 18) X rfl dX7_read_18 ?_
        refine r_aload_n (pc := 19) X rfl dX7_read_19 ?_
        refine gt_X7_21 (pc := 20) X tW_o rfl dX7_read_20 ?_
        refine r_iload_n (pc := 23) X rfl dX7_read_23 ?_
        refine r_aald (pc := 24) X tW_p rfl rfl (i) rfl (by omega) (by decide) rfl dX7_read_24 ?_
        refine ca_X7_32 (pc := 25) X (c_X7_readPart h60 hp ht (by omega) (pf i)) tW_o rfl rfl rfl dX7_read_25 (fun r25 M25 hp25 => ?_)
        obtain ⟨rfl, f2, rfl, hf2⟩ := hp25
        refine r_if_ne (pc := 28) X 36 (by decide) dX7_read_28 (fun q28 => ?_) (fun q28 => ?_)
        · skip
          have E : (jpx t len (p, false)).2 = false := by
            cases e : (jpx t len (p, false)).2
            · rfl
            · rw [e] at q28; exact absurd rfl q28
          have hx := jpx_ok E
          have hp2 := jpx_le (t := t) (x := (p, false)) hp
          obtain ⟨q, eq⟩ : ∃ q, jpx t len (p, false) = (q, false) := ⟨_, jx_f E⟩
          rw [eq] at hx hp2 E
          rw [eq]
          have hq : p + 2 ≤ q := hx.2.1
          have hql : q ≤ len := hp2
          have hg2 : cgs t len (pre ++ [(p, false)]) (pfu pf i f2) := by rw [← hl]; exact cgs_add hg (hf2 (by rw [eq]))
          refine r_aload_n (pc := 36) X rfl dX7_read_36 ?_
          refine r_dup (pc := 37) X rfl dX7_read_37 ?_
          refine gt_X7_25 (pc := 38) X tW_o rfl dX7_read_38 ?_
          refine r_iconst (pc := 41) (v := 1) X rfl dX7_read_41 ?_
          refine r_iadd (pc := 42) X dX7_read_42 ?_
          refine pt_X7_25 (pc := 43) X tW_o  rfl dX7_read_43 ?_
          refine bkV.eq (show bku _ T _ = (tW G T t (nI len) (nI i + 1) (nI q) (pfu pf i f2) M) from tS_o) ?_
          rw [nI_1]
          refine r_aload_n (pc := 46) X rfl dX7_read_46 ?_
          refine gt_X7_28 (pc := 47) X tW_o rfl dX7_read_47 ?_
          refine r_aload_n (pc := 50) X rfl dX7_read_50 ?_
          refine gt_X7_15 (pc := 51) X tW_o rfl dX7_read_51 ?_
          refine r_icmpN_ne (pc := 54) X 60 (q) (len) rfl rfl (by omega) (by omega) (by decide) dX7_read_54 (fun q54 => ?_) (fun q54 => ?_)
          · skip
            refine r_aload_n (pc := 60) X rfl dX7_read_60 ?_
            refine r_bipush (pc := 61) (v := 59) X rfl dX7_read_61 ?_
            refine ca_X7_36 (pc := 63) X (c_X7_readSign h60 hql ht 59 (by decide) (by decide)) tW_o rfl rfl rfl dX7_read_63 (fun r63 M63 hp63 => ?_)
            obtain ⟨rfl, rfl⟩ := hp63
            refine r_if_ne (pc := 66) X 74 (by decide) dX7_read_66 (fun q66 => ?_) (fun q66 => ?_)
            · skip
              obtain ⟨z, ez⟩ := jsg_ex q66
              have ez2 : z = q + 1 := by
                have h := (jsg_ok (t := t) (len := len) (x := (q, false)) (c := 59) (by rw [ez])).2.1
                rw [ez] at h
                exact congrArg Prod.fst h
              subst ez2
              have hz : q + 1 ≤ len := by have := jsg_le (t := t) (c := 59) (x := (q, false)) (by decide) hql; rw [ez] at this; exact this
              rw [ez]
              have eR := jrd_s3 (t := t) (len := len) (d := d) (x := (p, false)) (by rw [eq]) (by rw [eq]; show q < len; omega) (by rw [eq, ez])
              rw [eq, ez] at eR
              refine r_iinc (pc := 74) X rfl rfl rfl dX7_read_74 ?_
              refine r_goto (pc := 77) X 12 (by decide) dX7_read_77 ?_
              exact ih (i + 1) (q + 1) _ (pre ++ [(p, false)]) _ hz (by omega) (by omega) (by rw [List.length_append, hl]; rfl) (nI_1 i) (by rw [e1, eR]) (by rw [e2, eR, List.append_assoc]; rfl) hg2
            · skip
              have E3 := jsg_no q66
              have eR := jrd_s2 (t := t) (len := len) (d := d) (x := (p, false)) (by rw [eq]) (by rw [eq]; show q < len; omega) (by rw [eq]; exact E3)
              rw [eq] at eR
              refine r_aload_n (pc := 69) X rfl dX7_read_69 ?_
              refine gt_X7_28 (pc := 70) X tW_o rfl dX7_read_70 ?_
              exact K dX7_read_73 ⟨by unfold jfault; rw [e1, eR, if_pos E3], _, _, _, rfl, fun z => by rw [e1, eR, E3] at z; cases z⟩
          · skip
            have eR := jrd_s1 (t := t) (len := len) (d := d) (x := (p, false)) (Or.inr (by rw [eq]; show ¬ q < len; omega))
            refine r_bipush (pc := 57) (v := (-5)) X rfl dX7_read_57 ?_
            exact K dX7_read_59 ⟨by unfold jfault; rw [e1, eR, eq]; rfl, _, _, _, rfl, fun _ => by rw [e2, eR]; exact ⟨by rw [List.length_append, hl]; rfl, hg2⟩⟩
        · skip
          have E : (jpx t len (p, false)).2 = true := by
            cases e : (jpx t len (p, false)).2
            · rw [e] at q28; exact absurd q28 (by decide)
            · rfl
          have eR := jrd_s1 (t := t) (len := len) (d := d) (x := (p, false)) (Or.inl E)
          refine r_aload_n (pc := 31) X rfl dX7_read_31 ?_
          refine gt_X7_28 (pc := 32) X tW_o rfl dX7_read_32 ?_
          exact K dX7_read_35 ⟨by unfold jfault; rw [e1, eR, if_pos E], _, _, _, rfl, fun z => by rw [e1, eR, E] at z; cases z⟩
  exact lp12 61 0 0 0 [] pf (Nat.zero_le _) (by omega) (by omega) rfl rfl rfl rfl (fun j hj => absurd hj (Nat.not_lt_zero j))

