set_option maxHeartbeats 4000000 in
set_option maxRecDepth 100000 in
theorem c_X6_addShip {G : bkG} {Z : Nat → Prop} {M : bkM} {B b : Nat} {s go : Nat → Int32} {n : Nat} (hw : jwf s n) (hn : n < 8) (hg : cgo s n go) (w c h : Nat) (hw1 : w < 100) : bkCi G Z Z yX6_addShip cX6_addShip 5 (some .int) 1 0 0 [.ref b, .int (nI w), .int (nI c), .int (nI h)] (sW G B b s go M) (fun v M' => v = nI n ∧ ∃ go', M' = (sW G B b (jcm s n (nI w) (nI c) (nI h)) go' M) ∧ cgo (jcm s n (nI w) (nI c) (nI h)) (n + 1) go') := by
  refine bk_meti [some (.ref b), some (.int (nI w)), some (.int (nI c)), some (.int (nI h)), none] rfl pf_X6_addShip rfl rfl (fun E X K => ?_)
  refine r_aload_n (pc := 0) X rfl dX6_addShip_0 ?_
  refine gt_X6_33 (pc := 1) X sW_o rfl dX6_addShip_1 ?_
  refine bk_top hw.2.1 ?_
  refine r_istore (pc := 4) X rfl rfl dX6_addShip_4 ?_
  refine r_iload (pc := 6) X rfl dX6_addShip_6 ?_
  refine ca_X6_87 (pc := 8) X (c_X8_isShip (nI n)) rfl rfl rfl dX6_addShip_8 (fun r8 M8 hp8 => ?_)
  obtain ⟨rfl, rfl⟩ := hp8
  refine r_if_ne (pc := 11) X 17 (by decide) dX6_addShip_11 (fun q11 => ?_) (fun q11 => ?_)
  · skip
    refine r_aload_n (pc := 17) X rfl dX6_addShip_17 ?_
    refine gt_X6_29 (pc := 18) X sW_o rfl dX6_addShip_18 ?_
    refine r_iload (pc := 21) X rfl dX6_addShip_21 ?_
    refine r_aald (pc := 23) X sW_s rfl rfl (n) rfl (by omega) (by decide) rfl dX6_addShip_23 ?_
    refine r_iload_n (pc := 24) X rfl dX6_addShip_24 ?_
    refine r_iload_n (pc := 25) X rfl dX6_addShip_25 ?_
    refine r_iload_n (pc := 26) X rfl dX6_addShip_26 ?_
    refine ca_X6_90 (pc := 27) X (c_X5_begin (sW_sh hn) (nI w) (nI c) (nI h)) (sW_sh hn) rfl rfl rfl dX6_addShip_27 (fun M27 hp27 => ?_)
    obtain rfl := hp27
    refine bkV.eq ((congrArg (fun z => bku _ _ (.inr (5, z))) shF_bg).trans (sS_sh hn (fun m _ hm => cbg_o (by rcases Nat.lt_or_ge m (140 + 5 * n) with z | z; exact Or.inl z; rcases Nat.lt_or_ge m (145 + 5 * n) with z2 | z2; exact absurd (show jow m = 13 + n by rw [show m = 140 + 5 * n + (m - 140 - 5 * n) by omega]; exact jow_s hn (by omega)) hm; exact Or.inr z2)) (fun k hne _ => ⟨upd_n (by omega), upd_n (by omega)⟩))) ?_
    refine r_aload_n (pc := 30) X rfl dX6_addShip_30 ?_
    refine r_dup (pc := 31) X rfl dX6_addShip_31 ?_
    refine gt_X6_33 (pc := 32) X sW_o rfl dX6_addShip_32 ?_
    refine r_iconst (pc := 35) (v := 1) X rfl dX6_addShip_35 ?_
    refine r_iadd (pc := 36) X dX6_addShip_36 ?_
    refine pt_X6_33 (pc := 37) X sW_o  rfl dX6_addShip_37 ?_
    refine bkV.eq ((congrArg (fun z => bku _ _ (.inr (6, z))) sO_5).trans (sS_o (fun m _ hm => upd_n (fun e => hm (by rw [e]; exact jow_o (by omega)))))) ?_
    rw [cbg_cm]
    refine r_iload (pc := 40) X rfl dX6_addShip_40 ?_
    exact K dX6_addShip_42 ⟨rfl, _, rfl, cgo_cm hn hg⟩
  · skip
    exact absurd (bi_0.mp q11) (by rw [jin_7 hn]; decide)

theorem sS_mxl {G : bkG} {B b i : Nat} {s s' go : Nat → Int32} {M : bkM} (hi : i < 4) : bku (sW G B b (cmx s s' (5 + 2 * i)) go M) (b + 5 + 2 * i) (.inr (3, ltF B s' i)) = sW G B b (cmx s s' (6 + 2 * i)) go M := by
  have e := sS_mx (G := G) (B := B) (b := b) (s := s) (s' := s') (go := go) (M := M) (t := 5 + 2 * i) (by omega) (by omega)
  rw [sE_lt hi, ← Nat.add_assoc, show 5 + 2 * i + 1 = 6 + 2 * i by omega] at e
  exact e
theorem sS_mxk {G : bkG} {B b i : Nat} {s s' go : Nat → Int32} {M : bkM} (hi : i < 4) : bku (sW G B b (cmx s s' (6 + 2 * i)) go M) (b + 6 + 2 * i) (.inr (2, kpF s' i)) = sW G B b (cmx s s' (5 + 2 * (i + 1))) go M := by
  have e := sS_mx (G := G) (B := B) (b := b) (s := s) (s' := s') (go := go) (M := M) (t := 6 + 2 * i) (by omega) (by omega)
  rw [sE_kp hi, ← Nat.add_assoc, show 6 + 2 * i + 1 = 5 + 2 * (i + 1) by omega] at e
  exact e
theorem sS_mxs {G : bkG} {B b i : Nat} {s s' go go' : Nat → Int32} {M : bkM} (hi : i < 8) : bku (sW G B b (cmx s s' (13 + i)) (cmg go go' i) M) (b + 13 + i) (.inr (5, [.int (s' (140 + 5 * i + 0)), .int (s' (140 + 5 * i + 1)), .int (s' (140 + 5 * i + 2)), .int (go' (8 + i)), .int (s' (140 + 5 * i + 4)), .int (cmg go go' i i)])) = sW G B b (cmx s s' (13 + (i + 1))) (cmg go go' (i + 1)) M := by
  have hx : ∀ w, w < 5 → cmx s s' (13 + (i + 1)) (140 + 5 * i + w) = s' (140 + 5 * i + w) := fun w hw => cmx_in (by have := jow_s (i := i) (w := w) hi hw; omega)
  have e : [.int (s' (140 + 5 * i + 0)), .int (s' (140 + 5 * i + 1)), .int (s' (140 + 5 * i + 2)), .int (go' (8 + i)), .int (s' (140 + 5 * i + 4)), .int (cmg go go' i i)] = shF (cmx s s' (13 + (i + 1))) (cmg go go' (i + 1)) i := by
    unfold shF
    rw [hx 0 (by omega), hx 1 (by omega), hx 2 (by omega), hx 4 (by omega), show cmg go go' (i + 1) (8 + i) = go' (8 + i) from if_pos (by omega), show cmg go go' (i + 1) i = go i from if_neg (by omega), show cmg go go' i i = go i from if_neg (by omega)]
  rw [e]
  refine sS_sh hi (fun m _ hm => cmx_step hm) (fun k hne hk => ⟨?_, ?_⟩)
  · show (if 8 ≤ k ∧ k < 8 + (i + 1) then go' k else go k) = (if 8 ≤ k ∧ k < 8 + i then go' k else go k)
    rw [if_neg (by omega), if_neg (by omega)]
  · show (if 8 ≤ 8 + k ∧ 8 + k < 8 + (i + 1) then go' (8 + k) else go (8 + k)) = (if 8 ≤ 8 + k ∧ 8 + k < 8 + i then go' (8 + k) else go (8 + k))
    by_cases z : k < i
    · rw [if_pos (by omega), if_pos (by omega)]
    · rw [if_neg (by omega), if_neg (by omega)]
theorem cmx_all {s s' : Nat → Int32} : ∀ m, m < 183 → s' m = upd (upd (upd (cmx s s' 21) 180 (s' 180)) 182 (s' 182)) 181 (s' 181) m := by
  intro m hm
  by_cases e1 : m = 181
  · subst e1; rw [upd_s]
  · rw [upd_n e1]
    by_cases e2 : m = 182
    · subst e2; rw [upd_s]
    · rw [upd_n e2]
      by_cases e3 : m = 180
      · subst e3; rw [upd_s]
      · rw [upd_n e3]
        refine (cmx_in ?_).symm
        unfold jow
        by_cases h1 : m < 100
        · rw [if_pos h1]; exact Or.inl rfl
        · rw [if_neg h1]
          refine Or.inr ?_
          split
          · omega
          · split
            · omega
            · rw [if_pos (by omega)]
              omega
set_option maxHeartbeats 4000000 in
set_option maxRecDepth 100000 in
theorem c_X6_copyFrom {G : bkG} {Z : Nat → Prop} {M : bkM} {B b : Nat} {s go : Nat → Int32} {o : Nat} {s' go' : Nat → Int32} (hsep : o + 21 ≤ b ∨ b + 21 ≤ o) : bkCv G Z Z yX6_copyFrom cX6_copyFrom 3 2 0 0 [.ref b, .ref o] (sW G B b s go (sW G B o s' go' M)) (fun M' => M' = (sW G B b s' (jgm go go') (sW G B o s' go' M))) := by
  refine bk_metv [some (.ref b), some (.ref o), none] rfl pf_X6_copyFrom rfl rfl (fun E X hn K => ?_)
  refine r_aload_n (pc := 0) X rfl dX6_copyFrom_0 ?_
  refine gt_X6_9 (pc := 1) X ((sW_out (by omega)).trans sW_o) rfl dX6_copyFrom_1 ?_
  refine r_iconst (pc := 4) (v := 0) X rfl dX6_copyFrom_4 ?_
  refine r_aload_n (pc := 5) X rfl dX6_copyFrom_5 ?_
  refine gt_X6_9 (pc := 6) X sW_o rfl dX6_copyFrom_6 ?_
  refine r_iconst (pc := 9) (v := 0) X rfl dX6_copyFrom_9 ?_
  refine r_bipush (pc := 10) (v := 10) X rfl dX6_copyFrom_10 ?_
  refine r_copyI (pc := 12) X ((sW_out (by omega)).trans sW_r) sW_r (10) rfl (by omega) (by omega) (by decide) ml_X6_52 na_arraycopy st_arraycopy ini_J10 rfl ⟨Nat.le_of_ble_eq_true rfl, Nat.le_of_ble_eq_true rfl⟩ dX6_copyFrom_12 ?_
  rw [jrow_mx]
  refine bkV.eq (sS_r (s' := cmx s s' 5) (fun m _ hm => cmx_6 hm)) ?_
  refine r_iconst (pc := 15) (v := 0) X rfl dX6_copyFrom_15 ?_
  refine r_istore_n (pc := 16) X rfl rfl dX6_copyFrom_16 ?_
  have lp17 : ∀ (d j : Nat) (y : Int32), j ≤ 4 → 4 < j + d → (y = nI j) → bkV E G Z 0 0 (sW G B b (cmx s s' (5 + 2 * j)) go (sW G B o s' go' M)) 17 [some (.ref b), some (.ref o), some (.int y)] [] := by
    intro d
    induction d with
    | zero => intro j y; intros; exfalso; omega
    | succ d ih =>
      intro j y hj hd e1
      subst e1
      refine r_iload_n (pc := 17) X rfl dX6_copyFrom_17 ?_
      refine r_iconst (pc := 18) (v := 4) X rfl dX6_copyFrom_18 ?_
      refine r_icmpN_ge (pc := 19) X 58 (j) (4) rfl rfl (by omega) (by omega) (by decide) dX6_copyFrom_19 (fun q19 => ?_) (fun q19 => ?_)
      · skip
        obtain rfl : j = 4 := by omega
        refine r_iconst (pc := 58) (v := 0) X rfl dX6_copyFrom_58 ?_
        refine r_istore_n (pc := 59) X rfl rfl dX6_copyFrom_59 ?_
        have lp60 : ∀ (d j : Nat) (y : Int32), j ≤ 8 → 8 < j + d → (y = nI j) → bkV E G Z 0 0 (sW G B b (cmx s s' (13 + j)) (cmg go go' j) (sW G B o s' go' M)) 60 [some (.ref b), some (.ref o), some (.int y)] [] := by
          intro d
          induction d with
          | zero => intro j y; intros; exfalso; omega
          | succ d ih =>
            intro j y hj hd e1
            subst e1
            refine r_iload_n (pc := 60) X rfl dX6_copyFrom_60 ?_
            refine r_bipush (pc := 61) (v := 8) X rfl dX6_copyFrom_61 ?_
            refine r_icmpN_ge (pc := 63) X 87 (j) (8) rfl rfl (by omega) (by omega) (by decide) dX6_copyFrom_63 (fun q63 => ?_) (fun q63 => ?_)
            · skip
              obtain rfl : j = 8 := by omega
              refine r_aload_n (pc := 87) X rfl dX6_copyFrom_87 ?_
              refine r_aload_n (pc := 88) X rfl dX6_copyFrom_88 ?_
              refine gt_X6_33 (pc := 89) X ((sW_out (by omega)).trans sW_o) rfl dX6_copyFrom_89 ?_
              refine pt_X6_33 (pc := 92) X sW_o  rfl dX6_copyFrom_92 ?_
              refine bkV.eq ((congrArg (fun z => bku _ _ (.inr (6, z))) sO_5).trans (sS_o (fun m _ hm => upd_n (fun e => hm (by rw [e]; exact jow_o (by omega)))))) ?_
              refine r_aload_n (pc := 95) X rfl dX6_copyFrom_95 ?_
              refine r_aload_n (pc := 96) X rfl dX6_copyFrom_96 ?_
              refine gt_X6_37 (pc := 97) X ((sW_out (by omega)).trans sW_o) rfl dX6_copyFrom_97 ?_
              refine pt_X6_37 (pc := 100) X sW_o  rfl dX6_copyFrom_100 ?_
              refine bkV.eq ((congrArg (fun z => bku _ _ (.inr (6, z))) sO_6).trans (sS_o (fun m _ hm => upd_n (fun e => hm (by rw [e]; exact jow_o (by omega)))))) ?_
              refine r_aload_n (pc := 103) X rfl dX6_copyFrom_103 ?_
              refine r_aload_n (pc := 104) X rfl dX6_copyFrom_104 ?_
              refine gt_X6_40 (pc := 105) X ((sW_out (by omega)).trans sW_o) rfl dX6_copyFrom_105 ?_
              refine pt_X6_40 (pc := 108) X sW_o  rfl dX6_copyFrom_108 ?_
              refine bkV.eq ((congrArg (fun z => bku _ _ (.inr (6, z))) sO_7).trans (sS_o (fun m _ hm => upd_n (fun e => hm (by rw [e]; exact jow_o (by omega)))))) ?_
              exact K dX6_copyFrom_111 (sW_congr cmx_all (fun _ _ => ⟨rfl, rfl⟩))
            · skip
              refine r_aload_n (pc := 66) X rfl dX6_copyFrom_66 ?_
              refine gt_X6_29 (pc := 67) X sW_o rfl dX6_copyFrom_67 ?_
              refine r_iload_n (pc := 70) X rfl dX6_copyFrom_70 ?_
              refine r_aald (pc := 71) X sW_s rfl rfl (j) rfl (by omega) (by decide) rfl dX6_copyFrom_71 ?_
              refine r_aload_n (pc := 72) X rfl dX6_copyFrom_72 ?_
              refine gt_X6_29 (pc := 73) X ((sW_out (by omega)).trans sW_o) rfl dX6_copyFrom_73 ?_
              refine r_iload_n (pc := 76) X rfl dX6_copyFrom_76 ?_
              refine r_aald (pc := 77) X ((sW_out (by omega)).trans sW_s) rfl rfl (j) rfl (by omega) (by decide) rfl dX6_copyFrom_77 ?_
              refine ca_X6_65 (pc := 78) X (c_X5_copyFrom (by omega) (sW_sh (by omega)) ((sW_out (by omega)).trans (sW_sh (by omega)))) (sW_sh (by omega)) rfl rfl rfl dX6_copyFrom_78 (fun M78 hp78 => ?_)
              obtain rfl := hp78
              refine bkV.eq (sS_mxs (by omega)) ?_
              refine r_iinc (pc := 81) X rfl rfl rfl dX6_copyFrom_81 ?_
              refine r_goto (pc := 84) X 60 (by decide) dX6_copyFrom_84 ?_
              exact ih (j + 1) _ (by omega) (by omega) (nI_1 j)
        refine bkV.eq (congrArg (fun z => sW G B b (cmx s s' 13) z (sW G B o s' go' M)) (cmg_0 (go := go) (go' := go')).symm) ?_
        exact lp60 (8 + 1) 0 _ (by omega) (by omega) rfl
      · skip
        refine r_aload_n (pc := 22) X rfl dX6_copyFrom_22 ?_
        refine gt_X6_17 (pc := 23) X sW_o rfl dX6_copyFrom_23 ?_
        refine r_iload_n (pc := 26) X rfl dX6_copyFrom_26 ?_
        refine r_aald (pc := 27) X sW_l rfl rfl (j) rfl (by omega) (by decide) rfl dX6_copyFrom_27 ?_
        refine r_aload_n (pc := 28) X rfl dX6_copyFrom_28 ?_
        refine gt_X6_17 (pc := 29) X ((sW_out (by omega)).trans sW_o) rfl dX6_copyFrom_29 ?_
        refine r_iload_n (pc := 32) X rfl dX6_copyFrom_32 ?_
        refine r_aald (pc := 33) X ((sW_out (by omega)).trans sW_l) rfl rfl (j) rfl (by omega) (by decide) rfl dX6_copyFrom_33 ?_
        refine ca_X6_58 (pc := 34) X (c_X3_copyFrom (by omega) (sW_lt (by omega)) ((sW_out (by omega)).trans (sW_lt (by omega)))) (sW_lt (by omega)) rfl rfl rfl dX6_copyFrom_34 (fun M34 hp34 => ?_)
        obtain rfl := hp34
        refine bkV.eq (sS_mxl (by omega)) ?_
        refine r_aload_n (pc := 37) X rfl dX6_copyFrom_37 ?_
        refine gt_X6_23 (pc := 38) X sW_o rfl dX6_copyFrom_38 ?_
        refine r_iload_n (pc := 41) X rfl dX6_copyFrom_41 ?_
        refine r_aald (pc := 42) X sW_k rfl rfl (j) rfl (by omega) (by decide) rfl dX6_copyFrom_42 ?_
        refine r_aload_n (pc := 43) X rfl dX6_copyFrom_43 ?_
        refine gt_X6_23 (pc := 44) X ((sW_out (by omega)).trans sW_o) rfl dX6_copyFrom_44 ?_
        refine r_iload_n (pc := 47) X rfl dX6_copyFrom_47 ?_
        refine r_aald (pc := 48) X ((sW_out (by omega)).trans sW_k) rfl rfl (j) rfl (by omega) (by decide) rfl dX6_copyFrom_48 ?_
        refine ca_X6_62 (pc := 49) X (c_X2_copyFrom (by omega) (sW_kp (by omega)) ((sW_out (by omega)).trans (sW_kp (by omega)))) (sW_kp (by omega)) rfl rfl rfl dX6_copyFrom_49 (fun M49 hp49 => ?_)
        obtain rfl := hp49
        refine bkV.eq (sS_mxk (by omega)) ?_
        refine r_iinc (pc := 52) X rfl rfl rfl dX6_copyFrom_52 ?_
        refine r_goto (pc := 55) X 17 (by decide) dX6_copyFrom_55 ?_
        exact ih (j + 1) _ (by omega) (by omega) (nI_1 j)
  exact lp17 (4 + 1) 0 _ (by omega) (by omega) rfl

