theorem c_x_copy {G : bkG} {Z : Nat → Prop} {M : bkM} {x : Nat} {S O : Nat → Nat → Int32} {od : Nat → Nat} {sz kp : Int32} {t : Nat → Int32} {ln pc pl : Int32} {pf : Nat → Nat → Int32} {k j : Nat} (hk : k < 7) (hj : j < 7) (hn : k ≠ j) : bkCv G Z Z yX6_copyFrom cX6_copyFrom 3 2 0 0 [.ref (xb x k), .ref (xb x j)] (xW G x S O od sz kp t ln pc pl pf M) (fun M' => M' = sW G (x + 1) (xb x k) (S j) (jgm (O k) (O j)) (sW G (x + 1) (xb x j) (S j) (O j) (xW G x S O od sz kp t ln pc pl pf M))) := bkCv.w ((xW_blk hk).trans (congrArg (sW G (x + 1) (xb x k) (S k) (O k)) (xW_blk hj))) (c_X6_copyFrom (xb_sep hk hj hn))
theorem xW_cp {G : bkG} {M : bkM} {x : Nat} {S O : Nat → Nat → Int32} {od : Nat → Nat} {sz kp : Int32} {t : Nat → Int32} {ln pc pl : Int32} {pf : Nat → Nat → Int32} {k j : Nat} (hk : k < 7) (hj : j < 7) : sW G (x + 1) (xb x k) (S j) (jgm (O k) (O j)) (sW G (x + 1) (xb x j) (S j) (O j) (xW G x S O od sz kp t ln pc pl pf M)) = (xW G x (pfu S k (S j)) (pfu O k (jgm (O k) (O j))) od sz kp t ln pc pl pf M) := by rw [← xW_blk hj, xW_set hk]

theorem nI_s1 {j : Nat} (h : 1 ≤ j) : nI j - 1 = nI (j - 1) := by
  obtain ⟨i, rfl⟩ : ∃ i, j = i + 1 := ⟨j - 1, by omega⟩
  rw [← nI_1, Nat.add_sub_cancel]
  grind
set_option maxHeartbeats 4000000 in
set_option maxRecDepth 100000 in
theorem c_X1_dropOldest {G : bkG} {Z : Nat → Prop} {M : bkM} {x : Nat} {S O : Nat → Nat → Int32} {od : Nat → Nat} {sz kp : Int32} {t : Nat → Int32} {ln pc pl : Int32} {pf : Nat → Nat → Int32} (h0 : hOK od) : bkCv G Z Z yX1_dropOldest cX1_dropOldest 3 0 0 0 [.ref (x + 76)] (xW G x S O od sz kp t ln pc pl pf M) (fun M' => M' = (xW G x S O (jrt od) (nI 3) kp t ln pc pl pf M)) := by
  refine bk_metv [some (.ref (x + 76)), none, none] rfl pf_X1_dropOldest rfl rfl (fun E X hn K => ?_)
  refine r_aload_n (pc := 0) X rfl dX1_dropOldest_0 ?_
  refine gt_X1_11 (pc := 1) X xW_h rfl dX1_dropOldest_1 ?_
  refine r_iconst (pc := 4) (v := 0) X rfl dX1_dropOldest_4 ?_
  refine r_aald (pc := 5) X xW_ha rfl rfl (0) rfl (by omega) (by decide) rfl dX1_dropOldest_5 ?_
  refine r_astore_n (pc := 6) X rfl rfl dX1_dropOldest_6 ?_
  refine r_iconst (pc := 7) (v := 1) X rfl dX1_dropOldest_7 ?_
  refine r_istore_n (pc := 8) X rfl rfl dX1_dropOldest_8 ?_
  refine bkV.eq (congrArg (fun z => (xW G x S O z sz kp t ln pc pl pf M)) (jro_1 od).symm) ?_
  have lp9 : ∀ (d j : Nat) (y : Int32), 1 ≤ j → j ≤ 4 → 4 < j + d → y = nI j → bkV E G Z 0 0 (xW G x S O (jro od j) sz kp t ln pc pl pf M) 9 [some (.ref (x + 76)), some (.ref (xb x (od 0))), some (.int y)] [] := by
    intro d
    induction d with
    | zero => intros; omega
    | succ d ih =>
      intro j y h1 hj hd e1
      subst e1
      refine r_iload_n (pc := 9) X rfl dX1_dropOldest_9 ?_
      refine r_iconst (pc := 10) (v := 4) X rfl dX1_dropOldest_10 ?_
      refine r_icmpN_ge (pc := 11) X 34 (j) (4) rfl rfl (by omega) (by omega) (by decide) dX1_dropOldest_11 (fun q11 => ?_) (fun q11 => ?_)
      · skip
        obtain rfl : j = 4 := by omega
        refine r_aload_n (pc := 34) X rfl dX1_dropOldest_34 ?_
        refine gt_X1_11 (pc := 35) X xW_h rfl dX1_dropOldest_35 ?_
        refine r_iconst (pc := 38) (v := 3) X rfl dX1_dropOldest_38 ?_
        refine r_aload_n (pc := 39) X rfl dX1_dropOldest_39 ?_
        refine r_aast (pc := 40) X xW_ha rfl (xW_in0 (h0 0 (by omega)).2.1) rfl (3) rfl (by omega) (by decide) dX1_dropOldest_40 ?_
        rw [jrt_up]
        refine bkV.eq xS_ha ?_
        refine r_aload_n (pc := 41) X rfl dX1_dropOldest_41 ?_
        refine r_iconst (pc := 42) (v := 3) X rfl dX1_dropOldest_42 ?_
        refine pt_X1_17 (pc := 43) X xW_h  rfl dX1_dropOldest_43 ?_
        refine bkV.eq xS_h ?_
        exact K dX1_dropOldest_46 rfl
      · skip
        refine r_aload_n (pc := 14) X rfl dX1_dropOldest_14 ?_
        refine gt_X1_11 (pc := 15) X xW_h rfl dX1_dropOldest_15 ?_
        refine r_iload_n (pc := 18) X rfl dX1_dropOldest_18 ?_
        refine r_iconst (pc := 19) (v := 1) X rfl dX1_dropOldest_19 ?_
        refine r_isub (pc := 20) X dX1_dropOldest_20 ?_
        refine r_aload_n (pc := 21) X rfl dX1_dropOldest_21 ?_
        refine gt_X1_11 (pc := 22) X xW_h rfl dX1_dropOldest_22 ?_
        refine r_iload_n (pc := 25) X rfl dX1_dropOldest_25 ?_
        refine r_aald (pc := 26) X xW_ha rfl rfl (j) rfl (by omega) (by decide) rfl dX1_dropOldest_26 ?_
        refine r_aast (pc := 27) X xW_ha rfl (xW_in0 (by rw [jro_at]; exact (h0 j (by omega)).2.1)) rfl (j - 1) (nI_s1 h1) (by omega) (by decide) dX1_dropOldest_27 ?_
        rw [jro_up h1]
        refine bkV.eq xS_ha ?_
        refine r_iinc (pc := 28) X rfl rfl rfl dX1_dropOldest_28 ?_
        refine r_goto (pc := 31) X 9 (by decide) dX1_dropOldest_31 ?_
        exact ih (j + 1) _ (by omega) (by omega) (by omega) (nI_1 j)
  exact lp9 4 1 1 (by omega) (by omega) (by omega) rfl

set_option maxHeartbeats 4000000 in
set_option maxRecDepth 100000 in
theorem c_X1_record {G : bkG} {Z : Nat → Prop} {M : bkM} {x : Nat} {S O : Nat → Nat → Int32} {od : Nat → Nat} {kp : Int32} {t : Nat → Int32} {ln pc pl : Int32} {pf : Nat → Nat → Int32} {np : Nat} (hnp : np ≤ 4) (h0 : hOK od) : bkCv G Z Z yX1_record cX1_record 2 3 0 0 [.ref (x + 76), .ref (x + 13)] (xW G x S O od (nI np) kp t ln pc pl pf M) (fun M' => M' = (xW G x (pfu S (jbk od np) (S 0)) (pfu O (jbk od np) (jgm (O (jbk od np)) (O 0))) (jod od np) (nI (jrn np)) kp t ln pc pl pf M)) := by
  refine bk_metv [some (.ref (x + 76)), some (.ref (x + 13))] rfl pf_X1_record rfl rfl (fun E X hn K => ?_)
  have t12 : ∀ (m : Nat) (od2 : Nat → Nat), m < 4 → hOK od2 → jod od np = od2 → jrn np = m + 1 → bkV E G Z 0 0 (xW G x S O od2 (nI m) kp t ln pc pl pf M) 12 [some (.ref (x + 76)), some (.ref (x + 13))] [] := by
    intro m od2 hm h2 e1 e2
    refine r_aload_n (pc := 12) X rfl dX1_record_12 ?_
    refine gt_X1_11 (pc := 13) X xW_h rfl dX1_record_13 ?_
    refine r_aload_n (pc := 16) X rfl dX1_record_16 ?_
    refine gt_X1_17 (pc := 17) X xW_h rfl dX1_record_17 ?_
    refine r_aald (pc := 20) X xW_ha rfl rfl (m) rfl (by omega) (by decide) rfl dX1_record_20 ?_
    refine r_aload_n (pc := 21) X rfl dX1_record_21 ?_
    refine ca_X1_27 (pc := 22) X (c_x_copy (k := od2 m) (j := 0) (h2 m hm).2.1 (by decide) (by have := (h2 m hm).1; omega)) (xW_in0 (h2 m hm).2.1) rfl rfl rfl dX1_record_22 (fun M22 hp22 => ?_)
    obtain rfl := hp22
    refine bkV.eq (xW_cp (h2 m hm).2.1 (by decide)) ?_
    refine r_aload_n (pc := 25) X rfl dX1_record_25 ?_
    refine r_dup (pc := 26) X rfl dX1_record_26 ?_
    refine gt_X1_17 (pc := 27) X xW_h rfl dX1_record_27 ?_
    refine r_iconst (pc := 30) (v := 1) X rfl dX1_record_30 ?_
    refine r_iadd (pc := 31) X dX1_record_31 ?_
    refine pt_X1_17 (pc := 32) X xW_h  rfl dX1_record_32 ?_
    refine bkV.eq xS_h ?_
    exact K dX1_record_35 (by unfold jbk; rw [e1, e2, ← nI_1]; rfl)
  refine r_aload_n (pc := 0) X rfl dX1_record_0 ?_
  refine gt_X1_17 (pc := 1) X xW_h rfl dX1_record_1 ?_
  refine r_iconst (pc := 4) (v := 4) X rfl dX1_record_4 ?_
  refine r_icmpN_lt (pc := 5) X 12 (np) (4) rfl rfl (by omega) (by omega) (by decide) dX1_record_5 (fun q5 => ?_) (fun q5 => ?_)
  · skip
    first | exact t12 np od (by omega) h0 (if_neg (by omega)) (if_neg (by omega)) | exact t12 3 (jrt od) (by decide) h0.rt (if_pos rfl) (if_pos rfl)
  · skip
    obtain rfl : np = 4 := by omega
    refine r_aload_n (pc := 8) X rfl dX1_record_8 ?_
    refine ca_X1_24 (pc := 9) X (c_X1_dropOldest h0) xW_h rfl rfl rfl dX1_record_9 (fun M9 hp9 => ?_)
    obtain rfl := hp9
    first | exact t12 np od (by omega) h0 (if_neg (by omega)) (if_neg (by omega)) | exact t12 3 (jrt od) (by decide) h0.rt (if_pos rfl) (if_pos rfl)

set_option maxHeartbeats 4000000 in
set_option maxRecDepth 100000 in
theorem c_X1_takeBack {G : bkG} {Z : Nat → Prop} {M : bkM} {x : Nat} {S O : Nat → Nat → Int32} {od : Nat → Nat} {kp : Int32} {t : Nat → Int32} {ln pc pl : Int32} {pf : Nat → Nat → Int32} {np : Nat} (hnp : np ≤ 4) (h0 : hOK od) : bkCi G Z Z yX1_takeBack cX1_takeBack 2 (some .int) 3 0 0 [.ref (x + 76), .ref (x + 13)] (xW G x S O od (nI np) kp t ln pc pl pf M) (fun v M' => v = (if np = 0 then -5 else nI (np - 1)) ∧ M' = (if np = 0 then (xW G x S O od (nI np) kp t ln pc pl pf M) else (xW G x (pfu S 0 (S (od (np - 1)))) (pfu O 0 (jgm (O 0) (O (od (np - 1))))) od (nI (np - 1)) kp t ln pc pl pf M))) := by
  refine bk_meti [some (.ref (x + 76)), some (.ref (x + 13))] rfl pf_X1_takeBack rfl rfl (fun E X K => ?_)
  refine r_aload_n (pc := 0) X rfl dX1_takeBack_0 ?_
  refine gt_X1_17 (pc := 1) X xW_h rfl dX1_takeBack_1 ?_
  refine r_iconst (pc := 4) (v := 1) X rfl dX1_takeBack_4 ?_
  refine r_icmpN_lt (pc := 5) X 16 (np) (1) rfl rfl (by omega) (by omega) (by decide) dX1_takeBack_5 (fun q5 => ?_) (fun q5 => ?_)
  · skip
    have hz : np = 0 := by omega
    refine r_bipush (pc := 16) (v := (-5)) X rfl dX1_takeBack_16 ?_
    exact K dX1_takeBack_18 ⟨(if_pos hz).symm, (if_pos hz).symm⟩
  · skip
    have hz : ¬ np = 0 := by omega
    refine r_aload_n (pc := 8) X rfl dX1_takeBack_8 ?_
    refine gt_X1_17 (pc := 9) X xW_h rfl dX1_takeBack_9 ?_
    refine r_iconst (pc := 12) (v := 4) X rfl dX1_takeBack_12 ?_
    refine r_icmpN_le (pc := 13) X 19 (np) (4) rfl rfl (by omega) (by omega) (by decide) dX1_takeBack_13 (fun q13 => ?_) (fun q13 => ?_)
    · skip
      refine r_aload_n (pc := 19) X rfl dX1_takeBack_19 ?_
      refine r_dup (pc := 20) X rfl dX1_takeBack_20 ?_
      refine gt_X1_17 (pc := 21) X xW_h rfl dX1_takeBack_21 ?_
      refine r_iconst (pc := 24) (v := 1) X rfl dX1_takeBack_24 ?_
      refine r_isub (pc := 25) X dX1_takeBack_25 ?_
      refine pt_X1_17 (pc := 26) X xW_h  rfl dX1_takeBack_26 ?_
      refine bkV.eq xS_h ?_
      rw [nI_s1 (Nat.pos_of_ne_zero hz)]
      refine r_aload_n (pc := 29) X rfl dX1_takeBack_29 ?_
      refine r_aload_n (pc := 30) X rfl dX1_takeBack_30 ?_
      refine gt_X1_11 (pc := 31) X xW_h rfl dX1_takeBack_31 ?_
      refine r_aload_n (pc := 34) X rfl dX1_takeBack_34 ?_
      refine gt_X1_17 (pc := 35) X xW_h rfl dX1_takeBack_35 ?_
      refine r_aald (pc := 38) X xW_ha rfl rfl (np - 1) rfl (by omega) (by decide) rfl dX1_takeBack_38 ?_
      refine ca_X1_27 (pc := 39) X (c_x_copy (k := 0) (j := od (np - 1)) (by decide) (h0 (np - 1) (by omega)).2.1 (by have := (h0 (np - 1) (by omega)).1; omega)) xW_0o rfl rfl rfl dX1_takeBack_39 (fun M39 hp39 => ?_)
      obtain rfl := hp39
      refine bkV.eq (xW_cp (by decide) (h0 (np - 1) (by omega)).2.1) ?_
      refine r_aload_n (pc := 42) X rfl dX1_takeBack_42 ?_
      refine gt_X1_17 (pc := 43) X xW_h rfl dX1_takeBack_43 ?_
      exact K dX1_takeBack_46 ⟨(if_neg hz).symm, (if_neg hz).symm⟩
    · skip
      exact absurd q13 (by omega)

