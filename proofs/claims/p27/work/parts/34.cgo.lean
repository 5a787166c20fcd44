set_option maxHeartbeats 4000000 in
set_option maxRecDepth 100000 in
theorem c_X6_oweWreck {G : bkG} {Z : Nat → Prop} {M : bkM} {B b : Nat} {s go : Nat → Int32} (hB : bB G B M) (hs : B + 12 ≤ b) (x : Nat) (hx : x < 100) (v : Int32) : bkCv G Z Z yX6_oweWreck cX6_oweWreck 4 1 0 0 [.ref b, .int (nI x), .int v] (sW G B b s go M) (fun M' => M' = sW G B b (upd (upd s (120 + 5 * jnr x + 1) (s (120 + 5 * jnr x + 1) + v)) (120 + 5 * jnr x + 3) (s (120 + 5 * jnr x + 3) + 1)) go M) := by
  refine bk_metv [some (.ref b), some (.int (nI x)), some (.int v), none] rfl pf_X6_oweWreck rfl rfl (fun E X hn K => ?_)
  have hr := jnr_lt x
  refine r_iload_n (pc := 0) X rfl dX6_oweWreck_0 ?_
  refine ca_X6_68 (pc := 1) X (c_X8_isCell (nI x)) rfl rfl rfl dX6_oweWreck_1 (fun r1 M1 hp1 => ?_)
  obtain ⟨rfl, rfl⟩ := hp1
  refine r_if_eq (pc := 4) X 19 (by decide) dX6_oweWreck_4 (fun q4 => ?_) (fun q4 => ?_)
  · skip
    exact absurd (bi_0.mp q4) (by rw [jin_99 hx]; decide)
  · skip
    refine r_aload_n (pc := 7) X rfl dX6_oweWreck_7 ?_
    refine gt_X6_43 (pc := 8) X sW_o rfl dX6_oweWreck_8 ?_
    refine gt_X6_159 (pc := 11) X (hB.sW hs).1 rfl dX6_oweWreck_11 ?_
    refine r_iload_n (pc := 14) X rfl dX6_oweWreck_14 ?_
    refine r_iald (pc := 15) X (hB.sW hs).2.1 (x) rfl (by omega) (by decide) dX6_oweWreck_15 ?_
    refine r_goto (pc := 16) X 21 (by decide) dX6_oweWreck_16 ?_
    refine r_istore_n (pc := 21) X rfl rfl dX6_oweWreck_21 ?_
    refine r_iload_n (pc := 22) X rfl dX6_oweWreck_22 ?_
    refine ca_X6_164 (pc := 23) X (c_X8_isLight (nI (jnr x))) rfl rfl rfl dX6_oweWreck_23 (fun r23 M23 hp23 => ?_)
    obtain ⟨rfl, rfl⟩ := hp23
    refine r_if_eq (pc := 26) X 39 (by decide) dX6_oweWreck_26 (fun q26 => ?_) (fun q26 => ?_)
    · skip
      exact absurd (bi_0.mp q26) (by rw [jin_3 hr]; decide)
    · skip
      refine r_aload_n (pc := 29) X rfl dX6_oweWreck_29 ?_
      refine gt_X6_23 (pc := 30) X sW_o rfl dX6_oweWreck_30 ?_
      refine r_iload_n (pc := 33) X rfl dX6_oweWreck_33 ?_
      refine r_aald (pc := 34) X sW_k rfl rfl (jnr x) rfl (by omega) (by decide) rfl dX6_oweWreck_34 ?_
      refine r_iload_n (pc := 35) X rfl dX6_oweWreck_35 ?_
      refine ca_X6_167 (pc := 36) X (c_X2_oweWreck (sW_kp hr) v) (sW_kp hr) rfl rfl rfl dX6_oweWreck_36 (fun M36 hp36 => ?_)
      obtain rfl := hp36
      refine bkV.eq (sS_kp hr (fun m _ hm => by rw [upd_n (fun e => hm (by rw [e]; exact jow_k hr (by omega))), upd_n (fun e => hm (by rw [e]; exact jow_k hr (by omega)))])) ?_
      exact K dX6_oweWreck_39 rfl

set_option maxHeartbeats 4000000 in
set_option maxRecDepth 100000 in
theorem c_X6_nextToGo {G : bkG} {Z : Nat → Prop} {M : bkM} {B b : Nat} {s go : Nat → Int32} {n : Nat} (hw : jwf s n) : bkCa G Z Z yX6_nextToGo cX6_nextToGo 7 (some (.object RX5)) 0 0 0 [.ref b] (sW G B b s go M) (fun r M' => ∃ o, r = (o.map fun k => b + 13 + k) ∧ jpk (jwn s) (fun j => decide (go (8 + j) = 0) && decide (go j = 0)) 8 o ∧ M' = sW G B b s go M) := by
  refine bk_meta [some (.ref b), none, none, none, none, none, none] rfl pf_X6_nextToGo rfl rfl (fun E X K => ?_)
  refine r_null (pc := 0) X dX6_nextToGo_0 ?_
  refine r_astore_nN (pc := 1) X rfl rfl dX6_nextToGo_1 ?_
  refine r_aload_n (pc := 2) X rfl dX6_nextToGo_2 ?_
  refine gt_X6_29 (pc := 3) X sW_o rfl dX6_nextToGo_3 ?_
  refine r_astore_n (pc := 6) X rfl rfl dX6_nextToGo_6 ?_
  refine r_aload_n (pc := 7) X rfl dX6_nextToGo_7 ?_
  refine r_alen (pc := 8) (t := 0) X sW_s 5 rfl dX6_nextToGo_8 ?_
  refine r_istore_n (pc := 9) X rfl rfl dX6_nextToGo_9 ?_
  refine r_iconst (pc := 10) (v := 0) X rfl dX6_nextToGo_10 ?_
  refine r_istore (pc := 11) X rfl rfl dX6_nextToGo_11 ?_
  have lp13 : ∀ (d j : Nat) (y : Int32) (o : Option Nat), j ≤ 8 → 8 < j + d → (y = nI j) → (jpk (jwn s) (fun j => decide (go (8 + j) = 0) && decide (go j = 0)) j o) → bkV E G Z 0 0 (sW G B b s go M) 13 [some (.ref b), some (rv (o.map fun k => b + 13 + k)), some (.ref (b + 4)), some (.int (nI 8)), some (.int y), none, none] [] := by
    intro d
    induction d with
    | zero => intro j y o; intros; exfalso; omega
    | succ d ih =>
      intro j y o hj hd e1 e2
      subst e1
      refine r_iload (pc := 13) X rfl dX6_nextToGo_13 ?_
      refine r_iload_n (pc := 15) X rfl dX6_nextToGo_15 ?_
      refine r_icmpN_ge (pc := 16) X 78 (j) (8) rfl rfl (by omega) (by omega) (by decide) dX6_nextToGo_16 (fun q16 => ?_) (fun q16 => ?_)
      · skip
        obtain rfl : j = 8 := by omega
        refine r_aload_nV (o := (o.map fun k => b + 13 + k)) (pc := 78) X rfl dX6_nextToGo_78 ?_
        exact K dX6_nextToGo_79 ⟨o, rfl, e2, rfl⟩
      · skip
        refine r_aload_n (pc := 19) X rfl dX6_nextToGo_19 ?_
        refine r_iload (pc := 20) X rfl dX6_nextToGo_20 ?_
        refine r_aald (pc := 22) X sW_s rfl rfl (j) rfl (by omega) (by decide) rfl dX6_nextToGo_22 ?_
        refine r_astore (pc := 23) X rfl rfl dX6_nextToGo_23 ?_
        refine r_aload (pc := 25) X rfl dX6_nextToGo_25 ?_
        refine gt_X6_97 (pc := 27) X (sW_sh (i := j) (by omega)) rfl dX6_nextToGo_27 ?_
        refine r_if_ne (pc := 30) X 45 (by decide) dX6_nextToGo_30 (fun q30 => ?_) (fun q30 => ?_)
        · skip
          refine r_iconst (pc := 45) (v := 0) X rfl dX6_nextToGo_45 ?_
          refine r_istore (pc := 46) X rfl rfl dX6_nextToGo_46 ?_
          refine r_iload (pc := 48) X rfl dX6_nextToGo_48 ?_
          refine r_if_eq (pc := 50) X 72 (by decide) dX6_nextToGo_50 (fun q50 => ?_) (fun q50 => ?_)
          · skip
            refine r_iinc (pc := 72) X rfl rfl rfl dX6_nextToGo_72 ?_
            refine r_goto (pc := 75) X 13 (by decide) dX6_nextToGo_75 ?_
            first | exact absurd q50 (by decide) | exact absurd rfl q50 | exact bkV.drop 5 (bkV.drop 6 (ih (j + 1) _ _ (by omega) (by omega) (nI_1 j) (jpk_f e2 (show (fun j => decide (go (8 + j) = 0) && decide (go j = 0)) j = false by show (decide (go (8 + j) = 0) && decide (go j = 0)) = false; first | (rw [decide_eq_false q30]; rfl) | (rw [decide_eq_false q38, Bool.and_false]))))) | exact bkV.drop 5 (bkV.drop 6 (ih (j + 1) _ _ (by omega) (by omega) (nI_1 j) (jpk_k e2 q66))) | exact bkV.drop 5 (bkV.drop 6 (ih (j + 1) _ (some j) (by omega) (by omega) (nI_1 j) (jpk_n e2 (show (fun j => decide (go (8 + j) = 0) && decide (go j = 0)) j = true by show (decide (go (8 + j) = 0) && decide (go j = 0)) = true; rw [decide_eq_true q30, decide_eq_true q38]; rfl)))) | exact bkV.drop 5 (bkV.drop 6 (ih (j + 1) _ (some j) (by omega) (by omega) (nI_1 j) (jpk_b e2 (show (fun j => decide (go (8 + j) = 0) && decide (go j = 0)) j = true by show (decide (go (8 + j) = 0) && decide (go j = 0)) = true; rw [decide_eq_true q30, decide_eq_true q38]; rfl) q66)))
          · skip
            refine r_aload_nV (o := (o.map fun k => b + 13 + k)) (pc := 53) X rfl dX6_nextToGo_53 ?_
            refine r_ifnull (pc := 54) X (o := (o.map fun k => b + 13 + k)) 69 (by decide) dX6_nextToGo_54 (fun q54 => ?_) (fun a54 q54 => ?_)
            · skip
              obtain rfl : o = none := by
                cases o with
                | none => rfl
                | some k => cases q54
              refine r_aload (pc := 69) X rfl dX6_nextToGo_69 ?_
              refine r_astore_n (pc := 71) X rfl rfl dX6_nextToGo_71 ?_
              refine r_iinc (pc := 72) X rfl rfl rfl dX6_nextToGo_72 ?_
              refine r_goto (pc := 75) X 13 (by decide) dX6_nextToGo_75 ?_
              first | exact absurd q50 (by decide) | exact absurd rfl q50 | exact bkV.drop 5 (bkV.drop 6 (ih (j + 1) _ _ (by omega) (by omega) (nI_1 j) (jpk_f e2 (show (fun j => decide (go (8 + j) = 0) && decide (go j = 0)) j = false by show (decide (go (8 + j) = 0) && decide (go j = 0)) = false; first | (rw [decide_eq_false q30]; rfl) | (rw [decide_eq_false q38, Bool.and_false]))))) | exact bkV.drop 5 (bkV.drop 6 (ih (j + 1) _ _ (by omega) (by omega) (nI_1 j) (jpk_k e2 q66))) | exact bkV.drop 5 (bkV.drop 6 (ih (j + 1) _ (some j) (by omega) (by omega) (nI_1 j) (jpk_n e2 (show (fun j => decide (go (8 + j) = 0) && decide (go j = 0)) j = true by show (decide (go (8 + j) = 0) && decide (go j = 0)) = true; rw [decide_eq_true q30, decide_eq_true q38]; rfl)))) | exact bkV.drop 5 (bkV.drop 6 (ih (j + 1) _ (some j) (by omega) (by omega) (nI_1 j) (jpk_b e2 (show (fun j => decide (go (8 + j) = 0) && decide (go j = 0)) j = true by show (decide (go (8 + j) = 0) && decide (go j = 0)) = true; rw [decide_eq_true q30, decide_eq_true q38]; rfl) q66)))
            · skip
              obtain ⟨k, rfl, rfl⟩ : ∃ k, o = some k ∧ b + 13 + k = a54 := by
                cases o with
                | none => cases q54
                | some k => exact ⟨k, rfl, Option.some.inj q54⟩
              refine r_aload (pc := 57) X rfl dX6_nextToGo_57 ?_
              refine gt_X6_100 (pc := 59) X (sW_sh (i := j) (by omega)) rfl dX6_nextToGo_59 ?_
              refine r_aload_n (pc := 62) X rfl dX6_nextToGo_62 ?_
              refine gt_X6_100 (pc := 63) X (sW_sh (i := k) (by have := e2.1; omega)) rfl dX6_nextToGo_63 ?_
              refine r_icmpN_le (pc := 66) X 72 (jwn s j) (jwn s k) (jwn_s hw (k := j) (by omega)) (jwn_s hw (k := k) (by have := e2.1; omega)) (by have := jwn_lt hw (k := j) (by omega); omega) (by have := jwn_lt hw (k := k) (by have := e2.1; omega); omega) (by decide) dX6_nextToGo_66 (fun q66 => ?_) (fun q66 => ?_)
              · skip
                refine r_iinc (pc := 72) X rfl rfl rfl dX6_nextToGo_72 ?_
                refine r_goto (pc := 75) X 13 (by decide) dX6_nextToGo_75 ?_
                first | exact absurd q50 (by decide) | exact absurd rfl q50 | exact bkV.drop 5 (bkV.drop 6 (ih (j + 1) _ _ (by omega) (by omega) (nI_1 j) (jpk_f e2 (show (fun j => decide (go (8 + j) = 0) && decide (go j = 0)) j = false by show (decide (go (8 + j) = 0) && decide (go j = 0)) = false; first | (rw [decide_eq_false q30]; rfl) | (rw [decide_eq_false q38, Bool.and_false]))))) | exact bkV.drop 5 (bkV.drop 6 (ih (j + 1) _ _ (by omega) (by omega) (nI_1 j) (jpk_k e2 q66))) | exact bkV.drop 5 (bkV.drop 6 (ih (j + 1) _ (some j) (by omega) (by omega) (nI_1 j) (jpk_n e2 (show (fun j => decide (go (8 + j) = 0) && decide (go j = 0)) j = true by show (decide (go (8 + j) = 0) && decide (go j = 0)) = true; rw [decide_eq_true q30, decide_eq_true q38]; rfl)))) | exact bkV.drop 5 (bkV.drop 6 (ih (j + 1) _ (some j) (by omega) (by omega) (nI_1 j) (jpk_b e2 (show (fun j => decide (go (8 + j) = 0) && decide (go j = 0)) j = true by show (decide (go (8 + j) = 0) && decide (go j = 0)) = true; rw [decide_eq_true q30, decide_eq_true q38]; rfl) q66)))
              · skip
                refine r_aload (pc := 69) X rfl dX6_nextToGo_69 ?_
                refine r_astore_n (pc := 71) X rfl rfl dX6_nextToGo_71 ?_
                refine r_iinc (pc := 72) X rfl rfl rfl dX6_nextToGo_72 ?_
                refine r_goto (pc := 75) X 13 (by decide) dX6_nextToGo_75 ?_
                first | exact absurd q50 (by decide) | exact absurd rfl q50 | exact bkV.drop 5 (bkV.drop 6 (ih (j + 1) _ _ (by omega) (by omega) (nI_1 j) (jpk_f e2 (show (fun j => decide (go (8 + j) = 0) && decide (go j = 0)) j = false by show (decide (go (8 + j) = 0) && decide (go j = 0)) = false; first | (rw [decide_eq_false q30]; rfl) | (rw [decide_eq_false q38, Bool.and_false]))))) | exact bkV.drop 5 (bkV.drop 6 (ih (j + 1) _ _ (by omega) (by omega) (nI_1 j) (jpk_k e2 q66))) | exact bkV.drop 5 (bkV.drop 6 (ih (j + 1) _ (some j) (by omega) (by omega) (nI_1 j) (jpk_n e2 (show (fun j => decide (go (8 + j) = 0) && decide (go j = 0)) j = true by show (decide (go (8 + j) = 0) && decide (go j = 0)) = true; rw [decide_eq_true q30, decide_eq_true q38]; rfl)))) | exact bkV.drop 5 (bkV.drop 6 (ih (j + 1) _ (some j) (by omega) (by omega) (nI_1 j) (jpk_b e2 (show (fun j => decide (go (8 + j) = 0) && decide (go j = 0)) j = true by show (decide (go (8 + j) = 0) && decide (go j = 0)) = true; rw [decide_eq_true q30, decide_eq_true q38]; rfl) q66)))
        · skip
          refine r_aload (pc := 33) X rfl dX6_nextToGo_33 ?_
          refine gt_X6_123 (pc := 35) X (sW_sh (i := j) (by omega)) rfl dX6_nextToGo_35 ?_
          refine r_if_ne (pc := 38) X 45 (by decide) dX6_nextToGo_38 (fun q38 => ?_) (fun q38 => ?_)
          · skip
            refine r_iconst (pc := 45) (v := 0) X rfl dX6_nextToGo_45 ?_
            refine r_istore (pc := 46) X rfl rfl dX6_nextToGo_46 ?_
            refine r_iload (pc := 48) X rfl dX6_nextToGo_48 ?_
            refine r_if_eq (pc := 50) X 72 (by decide) dX6_nextToGo_50 (fun q50 => ?_) (fun q50 => ?_)
            · skip
              refine r_iinc (pc := 72) X rfl rfl rfl dX6_nextToGo_72 ?_
              refine r_goto (pc := 75) X 13 (by decide) dX6_nextToGo_75 ?_
              first | exact absurd q50 (by decide) | exact absurd rfl q50 | exact bkV.drop 5 (bkV.drop 6 (ih (j + 1) _ _ (by omega) (by omega) (nI_1 j) (jpk_f e2 (show (fun j => decide (go (8 + j) = 0) && decide (go j = 0)) j = false by show (decide (go (8 + j) = 0) && decide (go j = 0)) = false; first | (rw [decide_eq_false q30]; rfl) | (rw [decide_eq_false q38, Bool.and_false]))))) | exact bkV.drop 5 (bkV.drop 6 (ih (j + 1) _ _ (by omega) (by omega) (nI_1 j) (jpk_k e2 q66))) | exact bkV.drop 5 (bkV.drop 6 (ih (j + 1) _ (some j) (by omega) (by omega) (nI_1 j) (jpk_n e2 (show (fun j => decide (go (8 + j) = 0) && decide (go j = 0)) j = true by show (decide (go (8 + j) = 0) && decide (go j = 0)) = true; rw [decide_eq_true q30, decide_eq_true q38]; rfl)))) | exact bkV.drop 5 (bkV.drop 6 (ih (j + 1) _ (some j) (by omega) (by omega) (nI_1 j) (jpk_b e2 (show (fun j => decide (go (8 + j) = 0) && decide (go j = 0)) j = true by show (decide (go (8 + j) = 0) && decide (go j = 0)) = true; rw [decide_eq_true q30, decide_eq_true q38]; rfl) q66)))
            · skip
              refine r_aload_nV (o := (o.map fun k => b + 13 + k)) (pc := 53) X rfl dX6_nextToGo_53 ?_
              refine r_ifnull (pc := 54) X (o := (o.map fun k => b + 13 + k)) 69 (by decide) dX6_nextToGo_54 (fun q54 => ?_) (fun a54 q54 => ?_)
              · skip
                obtain rfl : o = none := by
                  cases o with
                  | none => rfl
                  | some k => cases q54
                refine r_aload (pc := 69) X rfl dX6_nextToGo_69 ?_
                refine r_astore_n (pc := 71) X rfl rfl dX6_nextToGo_71 ?_
                refine r_iinc (pc := 72) X rfl rfl rfl dX6_nextToGo_72 ?_
                refine r_goto (pc := 75) X 13 (by decide) dX6_nextToGo_75 ?_
                first | exact absurd q50 (by decide) | exact absurd rfl q50 | exact bkV.drop 5 (bkV.drop 6 (ih (j + 1) _ _ (by omega) (by omega) (nI_1 j) (jpk_f e2 (show (fun j => decide (go (8 + j) = 0) && decide (go j = 0)) j = false by show (decide (go (8 + j) = 0) && decide (go j = 0)) = false; first | (rw [decide_eq_false q30]; rfl) | (rw [decide_eq_false q38, Bool.and_false]))))) | exact bkV.drop 5 (bkV.drop 6 (ih (j + 1) _ _ (by omega) (by omega) (nI_1 j) (jpk_k e2 q66))) | exact bkV.drop 5 (bkV.drop 6 (ih (j + 1) _ (some j) (by omega) (by omega) (nI_1 j) (jpk_n e2 (show (fun j => decide (go (8 + j) = 0) && decide (go j = 0)) j = true by show (decide (go (8 + j) = 0) && decide (go j = 0)) = true; rw [decide_eq_true q30, decide_eq_true q38]; rfl)))) | exact bkV.drop 5 (bkV.drop 6 (ih (j + 1) _ (some j) (by omega) (by omega) (nI_1 j) (jpk_b e2 (show (fun j => decide (go (8 + j) = 0) && decide (go j = 0)) j = true by show (decide (go (8 + j) = 0) && decide (go j = 0)) = true; rw [decide_eq_true q30, decide_eq_true q38]; rfl) q66)))
              · skip
                obtain ⟨k, rfl, rfl⟩ : ∃ k, o = some k ∧ b + 13 + k = a54 := by
                  cases o with
                  | none => cases q54
                  | some k => exact ⟨k, rfl, Option.some.inj q54⟩
                refine r_aload (pc := 57) X rfl dX6_nextToGo_57 ?_
                refine gt_X6_100 (pc := 59) X (sW_sh (i := j) (by omega)) rfl dX6_nextToGo_59 ?_
                refine r_aload_n (pc := 62) X rfl dX6_nextToGo_62 ?_
                refine gt_X6_100 (pc := 63) X (sW_sh (i := k) (by have := e2.1; omega)) rfl dX6_nextToGo_63 ?_
                refine r_icmpN_le (pc := 66) X 72 (jwn s j) (jwn s k) (jwn_s hw (k := j) (by omega)) (jwn_s hw (k := k) (by have := e2.1; omega)) (by have := jwn_lt hw (k := j) (by omega); omega) (by have := jwn_lt hw (k := k) (by have := e2.1; omega); omega) (by decide) dX6_nextToGo_66 (fun q66 => ?_) (fun q66 => ?_)
                · skip
                  refine r_iinc (pc := 72) X rfl rfl rfl dX6_nextToGo_72 ?_
                  refine r_goto (pc := 75) X 13 (by decide) dX6_nextToGo_75 ?_
                  first | exact absurd q50 (by decide) | exact absurd rfl q50 | exact bkV.drop 5 (bkV.drop 6 (ih (j + 1) _ _ (by omega) (by omega) (nI_1 j) (jpk_f e2 (show (fun j => decide (go (8 + j) = 0) && decide (go j = 0)) j = false by show (decide (go (8 + j) = 0) && decide (go j = 0)) = false; first | (rw [decide_eq_false q30]; rfl) | (rw [decide_eq_false q38, Bool.and_false]))))) | exact bkV.drop 5 (bkV.drop 6 (ih (j + 1) _ _ (by omega) (by omega) (nI_1 j) (jpk_k e2 q66))) | exact bkV.drop 5 (bkV.drop 6 (ih (j + 1) _ (some j) (by omega) (by omega) (nI_1 j) (jpk_n e2 (show (fun j => decide (go (8 + j) = 0) && decide (go j = 0)) j = true by show (decide (go (8 + j) = 0) && decide (go j = 0)) = true; rw [decide_eq_true q30, decide_eq_true q38]; rfl)))) | exact bkV.drop 5 (bkV.drop 6 (ih (j + 1) _ (some j) (by omega) (by omega) (nI_1 j) (jpk_b e2 (show (fun j => decide (go (8 + j) = 0) && decide (go j = 0)) j = true by show (decide (go (8 + j) = 0) && decide (go j = 0)) = true; rw [decide_eq_true q30, decide_eq_true q38]; rfl) q66)))
                · skip
                  refine r_aload (pc := 69) X rfl dX6_nextToGo_69 ?_
                  refine r_astore_n (pc := 71) X rfl rfl dX6_nextToGo_71 ?_
                  refine r_iinc (pc := 72) X rfl rfl rfl dX6_nextToGo_72 ?_
                  refine r_goto (pc := 75) X 13 (by decide) dX6_nextToGo_75 ?_
                  first | exact absurd q50 (by decide) | exact absurd rfl q50 | exact bkV.drop 5 (bkV.drop 6 (ih (j + 1) _ _ (by omega) (by omega) (nI_1 j) (jpk_f e2 (show (fun j => decide (go (8 + j) = 0) && decide (go j = 0)) j = false by show (decide (go (8 + j) = 0) && decide (go j = 0)) = false; first | (rw [decide_eq_false q30]; rfl) | (rw [decide_eq_false q38, Bool.and_false]))))) | exact bkV.drop 5 (bkV.drop 6 (ih (j + 1) _ _ (by omega) (by omega) (nI_1 j) (jpk_k e2 q66))) | exact bkV.drop 5 (bkV.drop 6 (ih (j + 1) _ (some j) (by omega) (by omega) (nI_1 j) (jpk_n e2 (show (fun j => decide (go (8 + j) = 0) && decide (go j = 0)) j = true by show (decide (go (8 + j) = 0) && decide (go j = 0)) = true; rw [decide_eq_true q30, decide_eq_true q38]; rfl)))) | exact bkV.drop 5 (bkV.drop 6 (ih (j + 1) _ (some j) (by omega) (by omega) (nI_1 j) (jpk_b e2 (show (fun j => decide (go (8 + j) = 0) && decide (go j = 0)) j = true by show (decide (go (8 + j) = 0) && decide (go j = 0)) = true; rw [decide_eq_true q30, decide_eq_true q38]; rfl) q66)))
          · skip
            refine r_iconst (pc := 41) (v := 1) X rfl dX6_nextToGo_41 ?_
            refine r_goto (pc := 42) X 46 (by decide) dX6_nextToGo_42 ?_
            refine r_istore (pc := 46) X rfl rfl dX6_nextToGo_46 ?_
            refine r_iload (pc := 48) X rfl dX6_nextToGo_48 ?_
            refine r_if_eq (pc := 50) X 72 (by decide) dX6_nextToGo_50 (fun q50 => ?_) (fun q50 => ?_)
            · skip
              refine r_iinc (pc := 72) X rfl rfl rfl dX6_nextToGo_72 ?_
              refine r_goto (pc := 75) X 13 (by decide) dX6_nextToGo_75 ?_
              first | exact absurd q50 (by decide) | exact absurd rfl q50 | exact bkV.drop 5 (bkV.drop 6 (ih (j + 1) _ _ (by omega) (by omega) (nI_1 j) (jpk_f e2 (show (fun j => decide (go (8 + j) = 0) && decide (go j = 0)) j = false by show (decide (go (8 + j) = 0) && decide (go j = 0)) = false; first | (rw [decide_eq_false q30]; rfl) | (rw [decide_eq_false q38, Bool.and_false]))))) | exact bkV.drop 5 (bkV.drop 6 (ih (j + 1) _ _ (by omega) (by omega) (nI_1 j) (jpk_k e2 q66))) | exact bkV.drop 5 (bkV.drop 6 (ih (j + 1) _ (some j) (by omega) (by omega) (nI_1 j) (jpk_n e2 (show (fun j => decide (go (8 + j) = 0) && decide (go j = 0)) j = true by show (decide (go (8 + j) = 0) && decide (go j = 0)) = true; rw [decide_eq_true q30, decide_eq_true q38]; rfl)))) | exact bkV.drop 5 (bkV.drop 6 (ih (j + 1) _ (some j) (by omega) (by omega) (nI_1 j) (jpk_b e2 (show (fun j => decide (go (8 + j) = 0) && decide (go j = 0)) j = true by show (decide (go (8 + j) = 0) && decide (go j = 0)) = true; rw [decide_eq_true q30, decide_eq_true q38]; rfl) q66)))
            · skip
              refine r_aload_nV (o := (o.map fun k => b + 13 + k)) (pc := 53) X rfl dX6_nextToGo_53 ?_
              refine r_ifnull (pc := 54) X (o := (o.map fun k => b + 13 + k)) 69 (by decide) dX6_nextToGo_54 (fun q54 => ?_) (fun a54 q54 => ?_)
              · skip
                obtain rfl : o = none := by
                  cases o with
                  | none => rfl
                  | some k => cases q54
                refine r_aload (pc := 69) X rfl dX6_nextToGo_69 ?_
                refine r_astore_n (pc := 71) X rfl rfl dX6_nextToGo_71 ?_
                refine r_iinc (pc := 72) X rfl rfl rfl dX6_nextToGo_72 ?_
                refine r_goto (pc := 75) X 13 (by decide) dX6_nextToGo_75 ?_
                first | exact absurd q50 (by decide) | exact absurd rfl q50 | exact bkV.drop 5 (bkV.drop 6 (ih (j + 1) _ _ (by omega) (by omega) (nI_1 j) (jpk_f e2 (show (fun j => decide (go (8 + j) = 0) && decide (go j = 0)) j = false by show (decide (go (8 + j) = 0) && decide (go j = 0)) = false; first | (rw [decide_eq_false q30]; rfl) | (rw [decide_eq_false q38, Bool.and_false]))))) | exact bkV.drop 5 (bkV.drop 6 (ih (j + 1) _ _ (by omega) (by omega) (nI_1 j) (jpk_k e2 q66))) | exact bkV.drop 5 (bkV.drop 6 (ih (j + 1) _ (some j) (by omega) (by omega) (nI_1 j) (jpk_n e2 (show (fun j => decide (go (8 + j) = 0) && decide (go j = 0)) j = true by show (decide (go (8 + j) = 0) && decide (go j = 0)) = true; rw [decide_eq_true q30, decide_eq_true q38]; rfl)))) | exact bkV.drop 5 (bkV.drop 6 (ih (j + 1) _ (some j) (by omega) (by omega) (nI_1 j) (jpk_b e2 (show (fun j => decide (go (8 + j) = 0) && decide (go j = 0)) j = true by show (decide (go (8 + j) = 0) && decide (go j = 0)) = true; rw [decide_eq_true q30, decide_eq_true q38]; rfl) q66)))
              · skip
                obtain ⟨k, rfl, rfl⟩ : ∃ k, o = some k ∧ b + 13 + k = a54 := by
                  cases o with
                  | none => cases q54
                  | some k => exact ⟨k, rfl, Option.some.inj q54⟩
                refine r_aload (pc := 57) X rfl dX6_nextToGo_57 ?_
                refine gt_X6_100 (pc := 59) X (sW_sh (i := j) (by omega)) rfl dX6_nextToGo_59 ?_
                refine r_aload_n (pc := 62) X rfl dX6_nextToGo_62 ?_
                refine gt_X6_100 (pc := 63) X (sW_sh (i := k) (by have := e2.1; omega)) rfl dX6_nextToGo_63 ?_
                refine r_icmpN_le (pc := 66) X 72 (jwn s j) (jwn s k) (jwn_s hw (k := j) (by omega)) (jwn_s hw (k := k) (by have := e2.1; omega)) (by have := jwn_lt hw (k := j) (by omega); omega) (by have := jwn_lt hw (k := k) (by have := e2.1; omega); omega) (by decide) dX6_nextToGo_66 (fun q66 => ?_) (fun q66 => ?_)
                · skip
                  refine r_iinc (pc := 72) X rfl rfl rfl dX6_nextToGo_72 ?_
                  refine r_goto (pc := 75) X 13 (by decide) dX6_nextToGo_75 ?_
                  first | exact absurd q50 (by decide) | exact absurd rfl q50 | exact bkV.drop 5 (bkV.drop 6 (ih (j + 1) _ _ (by omega) (by omega) (nI_1 j) (jpk_f e2 (show (fun j => decide (go (8 + j) = 0) && decide (go j = 0)) j = false by show (decide (go (8 + j) = 0) && decide (go j = 0)) = false; first | (rw [decide_eq_false q30]; rfl) | (rw [decide_eq_false q38, Bool.and_false]))))) | exact bkV.drop 5 (bkV.drop 6 (ih (j + 1) _ _ (by omega) (by omega) (nI_1 j) (jpk_k e2 q66))) | exact bkV.drop 5 (bkV.drop 6 (ih (j + 1) _ (some j) (by omega) (by omega) (nI_1 j) (jpk_n e2 (show (fun j => decide (go (8 + j) = 0) && decide (go j = 0)) j = true by show (decide (go (8 + j) = 0) && decide (go j = 0)) = true; rw [decide_eq_true q30, decide_eq_true q38]; rfl)))) | exact bkV.drop 5 (bkV.drop 6 (ih (j + 1) _ (some j) (by omega) (by omega) (nI_1 j) (jpk_b e2 (show (fun j => decide (go (8 + j) = 0) && decide (go j = 0)) j = true by show (decide (go (8 + j) = 0) && decide (go j = 0)) = true; rw [decide_eq_true q30, decide_eq_true q38]; rfl) q66)))
                · skip
                  refine r_aload (pc := 69) X rfl dX6_nextToGo_69 ?_
                  refine r_astore_n (pc := 71) X rfl rfl dX6_nextToGo_71 ?_
                  refine r_iinc (pc := 72) X rfl rfl rfl dX6_nextToGo_72 ?_
                  refine r_goto (pc := 75) X 13 (by decide) dX6_nextToGo_75 ?_
                  first | exact absurd q50 (by decide) | exact absurd rfl q50 | exact bkV.drop 5 (bkV.drop 6 (ih (j + 1) _ _ (by omega) (by omega) (nI_1 j) (jpk_f e2 (show (fun j => decide (go (8 + j) = 0) && decide (go j = 0)) j = false by show (decide (go (8 + j) = 0) && decide (go j = 0)) = false; first | (rw [decide_eq_false q30]; rfl) | (rw [decide_eq_false q38, Bool.and_false]))))) | exact bkV.drop 5 (bkV.drop 6 (ih (j + 1) _ _ (by omega) (by omega) (nI_1 j) (jpk_k e2 q66))) | exact bkV.drop 5 (bkV.drop 6 (ih (j + 1) _ (some j) (by omega) (by omega) (nI_1 j) (jpk_n e2 (show (fun j => decide (go (8 + j) = 0) && decide (go j = 0)) j = true by show (decide (go (8 + j) = 0) && decide (go j = 0)) = true; rw [decide_eq_true q30, decide_eq_true q38]; rfl)))) | exact bkV.drop 5 (bkV.drop 6 (ih (j + 1) _ (some j) (by omega) (by omega) (nI_1 j) (jpk_b e2 (show (fun j => decide (go (8 + j) = 0) && decide (go j = 0)) j = true by show (decide (go (8 + j) = 0) && decide (go j = 0)) = true; rw [decide_eq_true q30, decide_eq_true q38]; rfl) q66)))
  exact lp13 (8 + 1) 0 _ none (by omega) (by omega) rfl (fun j hj => absurd hj (Nat.not_lt_zero j))

set_option maxHeartbeats 4000000 in
set_option maxRecDepth 100000 in
theorem c_X6_goes_s {G : bkG} {Z : Nat → Prop} {M : bkM} {B b : Nat} {s go : Nat → Int32} (hB : bB G B M) (hs : B + 12 ≤ b) (hf : jlf s) {n : Nat} (hw : jwf s n) (hgo : cgo s n go) (k : Nat) (hkn : k < n) (h0 : s (140 + 5 * k + 3) = 0) : bkCi G Z Z yX6_goesToWreck cX6_goesToWreck 4 (some .boolean) 3 0 0 [.ref b, .ref (b + 13 + k)] (sW G B b s go M) (fun v M' => v = bi (jwk s n k) ∧ ∃ g', M' = sW G B b (jgx s n k) g' M ∧ (∀ i, i < 8 → g' i = upd go k 1 i) ∧ cgo (jgx s n k) n g') := by
  refine bk_metz [some (.ref b), some (.ref (b + 13 + k)), none, none] rfl pf_X6_goesToWreck rfl rfl (fun E X K => ?_)
  have hk : k < 8 := by have := hw.1; omega
  obtain ⟨-, ⟨ce, hce, ec⟩, ⟨h, hh, eh⟩⟩ := hw.2.2.2 k hk
  have hx := jnx_lt hce hh
  have hr := jnr_lt (jnx ce h)
  have hg1 := hgo.gone (v := 1) hk
  have e8 : upd go k 1 (8 + k) = 0 := by rw [upd_n (by omega), hgo.lt hk hkn, h0]
  have e0 : jwx s k = jnx ce h := by unfold jwx; rw [ec, eh, tn_nI (by omega), tn_nI (by omega)]
  have eg : jgx s n k = jgo s n k ce h := by
    unfold jgx
    rw [if_pos h0]
    unfold jgoes
    rw [ec, eh, tn_nI (by omega), tn_nI (by omega)]
  refine r_aload_n (pc := 0) X rfl dX6_goesToWreck_0 ?_
  refine r_ifnonnull (pc := 1) X (o := some (b + 13 + k)) 6 (by decide) dX6_goesToWreck_1 (fun a1 q1 => ?_) (fun q1 => ?_)
  · skip
    refine r_aload_n (pc := 6) X rfl dX6_goesToWreck_6 ?_
    refine r_iconst (pc := 7) (v := 1) X rfl dX6_goesToWreck_7 ?_
    refine pt_X6_123 (pc := 8) X (sW_sh hk) (Or.inr rfl) rfl dX6_goesToWreck_8 ?_
    refine bkV.eq ((congrArg (fun z => bku _ _ (.inr (5, z))) shF_5).trans (sS_sh hk (fun _ _ _ => rfl) (fun j hne _ => ⟨upd_n hne, upd_n (by omega)⟩))) ?_
    refine r_aload_n (pc := 11) X rfl dX6_goesToWreck_11 ?_
    refine ca_X6_142 (pc := 12) X (c_X5_nextCell (sW_sh hk) hce hh ec eh) (sW_sh hk) rfl rfl rfl dX6_goesToWreck_12 (fun r12 M12 hp12 => ?_)
    obtain ⟨rfl, rfl⟩ := hp12
    refine r_istore_n (pc := 15) X rfl rfl dX6_goesToWreck_15 ?_
    refine r_aload_n (pc := 16) X rfl dX6_goesToWreck_16 ?_
    refine r_iload_n (pc := 17) X rfl dX6_goesToWreck_17 ?_
    refine ca_X6_81 (pc := 18) X (c_X6_hasRock (jnx ce h) hx) sW_o rfl rfl rfl dX6_goesToWreck_18 (fun r18 M18 hp18 => ?_)
    obtain ⟨rfl, rfl⟩ := hp18
    refine r_istore_n (pc := 21) X rfl rfl dX6_goesToWreck_21 ?_
    refine r_aload_n (pc := 22) X rfl dX6_goesToWreck_22 ?_
    refine r_iload_n (pc := 23) X rfl dX6_goesToWreck_23 ?_
    refine ca_X6_84 (pc := 24) X (c_X6_shipAtSeaIn hw.1 hg1 (nI (jnx ce h))) sW_o rfl rfl rfl dX6_goesToWreck_24 (fun r24 M24 hp24 => ?_)
    obtain ⟨rfl, rfl⟩ := hp24
    refine r_bipush (pc := 27) (v := (-5)) X rfl dX6_goesToWreck_27 ?_
    refine r_icmp_ne (pc := 29) X 49 (by decide) dX6_goesToWreck_29 (fun q29 => ?_) (fun q29 => ?_)
    · skip
      refine r_aload_n (pc := 49) X rfl dX6_goesToWreck_49 ?_
      refine r_dup (pc := 50) X rfl dX6_goesToWreck_50 ?_
      refine gt_X6_146 (pc := 51) X (sW_sh hk) rfl dX6_goesToWreck_51 ?_
      refine r_iconst (pc := 54) (v := 1) X rfl dX6_goesToWreck_54 ?_
      refine r_iadd (pc := 55) X dX6_goesToWreck_55 ?_
      refine pt_X6_146 (pc := 56) X (sW_sh hk)  rfl dX6_goesToWreck_56 ?_
      refine bkV.eq ((congrArg (fun z => bku _ _ (.inr (5, z))) shF_4).trans (sS_sh hk (fun m _ hm => by rw [upd_n (fun e => hm (by rw [e]; exact jow_s hk (by omega)))]) (fun _ _ _ => ⟨rfl, rfl⟩))) ?_
      refine r_iconst (pc := 59) (v := 0) X rfl dX6_goesToWreck_59 ?_
      have eW : jgx s n k = upd s (140 + 5 * k + 4) (s (140 + 5 * k + 4) + 1) := by
        rw [eg]
        unfold jgo
        rw [if_pos (by clear K X; grind [bi_0, bi_n0])]
      exact K dX6_goesToWreck_60 (by first | exact Or.inl rfl | exact Or.inr rfl) ⟨(bi_0.mpr (by clear K X; unfold jwk; rw [e0]; grind [bi_0, bi_n0])).symm, _, by rw [eW], fun _ _ => rfl, (hg1.at hkn (fun j hj => jgx_cond hj) (fun j _ hj => rfl) (e8.trans (by rw [eW, upd_n (by omega), h0])))⟩
    · skip
      refine r_iload_n (pc := 32) X rfl dX6_goesToWreck_32 ?_
      refine r_if_eq (pc := 33) X 61 (by decide) dX6_goesToWreck_33 (fun q33 => ?_) (fun q33 => ?_)
      · skip
        refine r_iload_n (pc := 61) X rfl dX6_goesToWreck_61 ?_
        refine r_if_eq (pc := 62) X 81 (by decide) dX6_goesToWreck_62 (fun q62 => ?_) (fun q62 => ?_)
        · skip
          refine r_aload_n (pc := 81) X rfl dX6_goesToWreck_81 ?_
          refine r_iload_n (pc := 82) X rfl dX6_goesToWreck_82 ?_
          refine ca_X6_156 (pc := 83) X (c_X5_comeTo (sW_sh hk) (nI (jnx ce h))) (sW_sh hk) rfl rfl rfl dX6_goesToWreck_83 (fun M83 hp83 => ?_)
          obtain rfl := hp83
          refine bkV.eq (sS_sh hk (fun m _ hm => by split <;> first | rw [upd_n (fun e => hm (by rw [e]; exact jow_s hk (by omega))), upd_n (fun e => hm (by rw [e]; exact jow_s hk (by omega)))] | rw [upd_n (fun e => hm (by rw [e]; exact jow_s hk (by omega)))]) (fun j hne _ => by split; exact ⟨upd_n (by omega), upd_n (by omega)⟩; exact ⟨rfl, rfl⟩)) ?_
          refine r_iconst (pc := 86) (v := 0) X rfl dX6_goesToWreck_86 ?_
          have eW := eg.trans (jgo_m (s := s) (n := n) (k := k) (c := ce) (h := h) h0 eh (by clear K X; grind [bi_0, bi_n0]) (by clear K X; grind [bi_0, bi_n0]))
          exact K dX6_goesToWreck_87 (by first | exact Or.inl rfl | exact Or.inr rfl) ⟨(bi_0.mpr (by clear K X; unfold jwk; rw [e0]; grind [bi_0, bi_n0])).symm, _, by rw [eW], (fun i hi => by split; exact upd_n (by omega); rfl), (hg1.at hkn (fun j hj => jgx_cond hj) (fun j _ hj => by split; exact upd_n (by omega); rfl) (by rw [eW]; split; rw [upd_s, upd_s]; exact e8.trans (by rw [upd_n (by omega), h0])))⟩
        · skip
          refine r_aload_n (pc := 65) X rfl dX6_goesToWreck_65 ?_
          refine r_iload_n (pc := 66) X rfl dX6_goesToWreck_66 ?_
          refine ca_X6_149 (pc := 67) X (c_X5_breakIn (sW_sh hk) (nI (jnx ce h))) (sW_sh hk) rfl rfl rfl dX6_goesToWreck_67 (fun M67 hp67 => ?_)
          obtain rfl := hp67
          refine bkV.eq (sS_sh hk (fun m _ hm => by rw [upd_n (fun e => hm (by rw [e]; exact jow_s hk (by omega))), upd_n (fun e => hm (by rw [e]; exact jow_s hk (by omega)))]) (fun j hne _ => ⟨upd_n (by omega), upd_n (by omega)⟩)) ?_
          refine r_aload_n (pc := 70) X rfl dX6_goesToWreck_70 ?_
          refine r_iload_n (pc := 71) X rfl dX6_goesToWreck_71 ?_
          refine r_aload_n (pc := 72) X rfl dX6_goesToWreck_72 ?_
          refine gt_X6_100 (pc := 73) X (sW_sh hk) rfl dX6_goesToWreck_73 ?_
          refine ca_X6_152 (pc := 76) X (c_X6_oweWreck hB hs (jnx ce h) hx _) sW_o rfl rfl rfl dX6_goesToWreck_76 (fun M76 hp76 => ?_)
          obtain rfl := hp76
          refine r_iconst (pc := 79) (v := 1) X rfl dX6_goesToWreck_79 ?_
          have eW := eg.trans (jgo_w (s := s) (n := n) (k := k) (c := ce) (h := h) (by clear K X; grind [bi_0, bi_n0]) (by clear K X; grind [bi_0, bi_n0]))
          exact K dX6_goesToWreck_80 (by first | exact Or.inl rfl | exact Or.inr rfl) ⟨(bi_1.mpr (by clear K X; unfold jwk; rw [e0]; grind [bi_0, bi_n0])).symm, _, by rw [eW], fun i hi => upd_n (by omega), (hg1.at hkn (fun j hj => jgx_cond hj) (fun j _ hj => upd_n (by omega)) (by rw [upd_s, eW, upd_n (by omega), upd_n (by omega), upd_s]))⟩
      · skip
        refine r_aload_n (pc := 36) X rfl dX6_goesToWreck_36 ?_
        refine r_iload_n (pc := 37) X rfl dX6_goesToWreck_37 ?_
        refine r_aload_n (pc := 38) X rfl dX6_goesToWreck_38 ?_
        refine gt_X6_40 (pc := 39) X sW_o rfl dX6_goesToWreck_39 ?_
        refine r_iconst (pc := 42) (v := 0) X rfl dX6_goesToWreck_42 ?_
        refine ca_X6_119 (pc := 43) X (c_X6_litBy hB hs (jnx ce h) hx (s 181) 0) sW_o rfl rfl rfl dX6_goesToWreck_43 (fun r43 M43 hp43 => ?_)
        obtain ⟨rfl, rfl⟩ := hp43
        rw [cby_eq hf hx]
        refine r_if_eq (pc := 46) X 61 (by decide) dX6_goesToWreck_46 (fun q46 => ?_) (fun q46 => ?_)
        · skip
          refine r_iload_n (pc := 61) X rfl dX6_goesToWreck_61 ?_
          refine r_if_eq (pc := 62) X 81 (by decide) dX6_goesToWreck_62 (fun q62 => ?_) (fun q62 => ?_)
          · skip
            refine r_aload_n (pc := 81) X rfl dX6_goesToWreck_81 ?_
            refine r_iload_n (pc := 82) X rfl dX6_goesToWreck_82 ?_
            refine ca_X6_156 (pc := 83) X (c_X5_comeTo (sW_sh hk) (nI (jnx ce h))) (sW_sh hk) rfl rfl rfl dX6_goesToWreck_83 (fun M83 hp83 => ?_)
            obtain rfl := hp83
            refine bkV.eq (sS_sh hk (fun m _ hm => by split <;> first | rw [upd_n (fun e => hm (by rw [e]; exact jow_s hk (by omega))), upd_n (fun e => hm (by rw [e]; exact jow_s hk (by omega)))] | rw [upd_n (fun e => hm (by rw [e]; exact jow_s hk (by omega)))]) (fun j hne _ => by split; exact ⟨upd_n (by omega), upd_n (by omega)⟩; exact ⟨rfl, rfl⟩)) ?_
            refine r_iconst (pc := 86) (v := 0) X rfl dX6_goesToWreck_86 ?_
            have eW := eg.trans (jgo_m (s := s) (n := n) (k := k) (c := ce) (h := h) h0 eh (by clear K X; grind [bi_0, bi_n0]) (by clear K X; grind [bi_0, bi_n0]))
            exact K dX6_goesToWreck_87 (by first | exact Or.inl rfl | exact Or.inr rfl) ⟨(bi_0.mpr (by clear K X; unfold jwk; rw [e0]; grind [bi_0, bi_n0])).symm, _, by rw [eW], (fun i hi => by split; exact upd_n (by omega); rfl), (hg1.at hkn (fun j hj => jgx_cond hj) (fun j _ hj => by split; exact upd_n (by omega); rfl) (by rw [eW]; split; rw [upd_s, upd_s]; exact e8.trans (by rw [upd_n (by omega), h0])))⟩
          · skip
            refine r_aload_n (pc := 65) X rfl dX6_goesToWreck_65 ?_
            refine r_iload_n (pc := 66) X rfl dX6_goesToWreck_66 ?_
            refine ca_X6_149 (pc := 67) X (c_X5_breakIn (sW_sh hk) (nI (jnx ce h))) (sW_sh hk) rfl rfl rfl dX6_goesToWreck_67 (fun M67 hp67 => ?_)
            obtain rfl := hp67
            refine bkV.eq (sS_sh hk (fun m _ hm => by rw [upd_n (fun e => hm (by rw [e]; exact jow_s hk (by omega))), upd_n (fun e => hm (by rw [e]; exact jow_s hk (by omega)))]) (fun j hne _ => ⟨upd_n (by omega), upd_n (by omega)⟩)) ?_
            refine r_aload_n (pc := 70) X rfl dX6_goesToWreck_70 ?_
            refine r_iload_n (pc := 71) X rfl dX6_goesToWreck_71 ?_
            refine r_aload_n (pc := 72) X rfl dX6_goesToWreck_72 ?_
            refine gt_X6_100 (pc := 73) X (sW_sh hk) rfl dX6_goesToWreck_73 ?_
            refine ca_X6_152 (pc := 76) X (c_X6_oweWreck hB hs (jnx ce h) hx _) sW_o rfl rfl rfl dX6_goesToWreck_76 (fun M76 hp76 => ?_)
            obtain rfl := hp76
            refine r_iconst (pc := 79) (v := 1) X rfl dX6_goesToWreck_79 ?_
            have eW := eg.trans (jgo_w (s := s) (n := n) (k := k) (c := ce) (h := h) (by clear K X; grind [bi_0, bi_n0]) (by clear K X; grind [bi_0, bi_n0]))
            exact K dX6_goesToWreck_80 (by first | exact Or.inl rfl | exact Or.inr rfl) ⟨(bi_1.mpr (by clear K X; unfold jwk; rw [e0]; grind [bi_0, bi_n0])).symm, _, by rw [eW], fun i hi => upd_n (by omega), (hg1.at hkn (fun j hj => jgx_cond hj) (fun j _ hj => upd_n (by omega)) (by rw [upd_s, eW, upd_n (by omega), upd_n (by omega), upd_s]))⟩
        · skip
          refine r_aload_n (pc := 49) X rfl dX6_goesToWreck_49 ?_
          refine r_dup (pc := 50) X rfl dX6_goesToWreck_50 ?_
          refine gt_X6_146 (pc := 51) X (sW_sh hk) rfl dX6_goesToWreck_51 ?_
          refine r_iconst (pc := 54) (v := 1) X rfl dX6_goesToWreck_54 ?_
          refine r_iadd (pc := 55) X dX6_goesToWreck_55 ?_
          refine pt_X6_146 (pc := 56) X (sW_sh hk)  rfl dX6_goesToWreck_56 ?_
          refine bkV.eq ((congrArg (fun z => bku _ _ (.inr (5, z))) shF_4).trans (sS_sh hk (fun m _ hm => by rw [upd_n (fun e => hm (by rw [e]; exact jow_s hk (by omega)))]) (fun _ _ _ => ⟨rfl, rfl⟩))) ?_
          refine r_iconst (pc := 59) (v := 0) X rfl dX6_goesToWreck_59 ?_
          have eW : jgx s n k = upd s (140 + 5 * k + 4) (s (140 + 5 * k + 4) + 1) := by
            rw [eg]
            unfold jgo
            rw [if_pos (by clear K X; grind [bi_0, bi_n0])]
          exact K dX6_goesToWreck_60 (by first | exact Or.inl rfl | exact Or.inr rfl) ⟨(bi_0.mpr (by clear K X; unfold jwk; rw [e0]; grind [bi_0, bi_n0])).symm, _, by rw [eW], fun _ _ => rfl, (hg1.at hkn (fun j hj => jgx_cond hj) (fun j _ hj => rfl) (e8.trans (by rw [eW, upd_n (by omega), h0])))⟩
  · skip
    cases q1

set_option maxHeartbeats 4000000 in
set_option maxRecDepth 100000 in
theorem c_X6_goes_n {G : bkG} {Z : Nat → Prop} {M : bkM} {B b : Nat} {s go : Nat → Int32} {n : Nat} (hgo : cgo s n go) : bkCi G Z Z yX6_goesToWreck cX6_goesToWreck 4 (some .boolean) 3 0 0 [.ref b, .null] (sW G B b s go M) (fun v M' => v = bi (jwv s n none) ∧ ∃ g', M' = sW G B b (jgv s n none) g' M ∧ (∀ i, i < 8 → g' i = jgu go none i) ∧ cgo (jgv s n none) n g') := by
  refine bk_metz [some (.ref b), some (.null), none, none] rfl pf_X6_goesToWreck rfl rfl (fun E X K => ?_)
  refine r_aload_nV (o := none) (pc := 0) X rfl dX6_goesToWreck_0 ?_
  refine r_ifnonnull (pc := 1) X (o := none) 6 (by decide) dX6_goesToWreck_1 (fun a1 q1 => ?_) (fun q1 => ?_)
  · skip
    cases q1
  · skip
    refine r_iconst (pc := 4) (v := 0) X rfl dX6_goesToWreck_4 ?_
    exact K dX6_goesToWreck_5 (Or.inl rfl) ⟨rfl, go, rfl, fun _ _ => rfl, hgo⟩

theorem c_X6_goesToWreck {G : bkG} {Z : Nat → Prop} {M : bkM} {B b : Nat} {s go : Nat → Int32} (hB : bB G B M) (hs : B + 12 ≤ b) (hf : jlf s) {n : Nat} (hw : jwf s n) (hgo : cgo s n go) (o : Option Nat) (ho : ∀ k, o = some k → k < n ∧ s (140 + 5 * k + 3) = 0) : bkCi G Z Z yX6_goesToWreck cX6_goesToWreck 4 (some .boolean) 3 0 0 [.ref b, rv (o.map fun k => b + 13 + k)] (sW G B b s go M) (fun v M' => v = bi (jwv s n o) ∧ ∃ g', M' = sW G B b (jgv s n o) g' M ∧ (∀ i, i < 8 → g' i = jgu go o i) ∧ cgo (jgv s n o) n g') := by
  cases o with
  | none => exact c_X6_goes_n hgo
  | some k => exact c_X6_goes_s hB hs hf hw hgo k (ho k rfl).1 (ho k rfl).2
