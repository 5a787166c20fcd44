theorem jwn_s {s : Nat → Int32} {n k : Nat} (hw : jwf s n) (hk : k < 8) : s (140 + 5 * k + 0) = nI (jwn s k) := by
  obtain ⟨⟨w, hw2, ew⟩, -, -⟩ := hw.2.2.2 k hk
  unfold jwn
  rw [ew, tn_nI (by omega)]
theorem jwn_lt {s : Nat → Int32} {n k : Nat} (hw : jwf s n) (hk : k < 8) : jwn s k < 100 := by
  obtain ⟨⟨w, hw2, ew⟩, -, -⟩ := hw.2.2.2 k hk
  unfold jwn
  rw [ew, tn_nI (by omega)]
  exact hw2
set_option maxHeartbeats 4000000 in
set_option maxRecDepth 100000 in
theorem c_X6_addShip {G : bkG} {Z : Nat → Prop} {M : bkM} {B b : Nat} {s go : Nat → Int32} {n : Nat} (hw : jwf s n) (hn : n < 8) (hg : cjall s n go) (w c h : Nat) (hw1 : w < 100) : bkCi G Z Z yX6_addShip cX6_addShip 6 (some .int) 1 0 0 [.ref b, .int (nI w), .int (nI c), .int (nI h)] (sW G B b s go M) (fun v M' => v = nI n ∧ ∃ go', M' = (sW G B b (jcm s n (nI w) (nI c) (nI h)) go' M) ∧ cjall (jcm s n (nI w) (nI c) (nI h)) (n + 1) go') := by
  refine bk_meti [some (.ref b), some (.int (nI w)), some (.int (nI c)), some (.int (nI h)), none, none] rfl pf_X6_addShip rfl rfl (fun E X K => ?_)
  refine r_aload_n (pc := 0) X rfl dX6_addShip_0 ?_
  refine gt_X6_36 (pc := 1) X sW_o rfl dX6_addShip_1 ?_
  refine bk_top hw.2.1 ?_
  refine r_istore (pc := 4) X rfl rfl dX6_addShip_4 ?_
  refine r_aload_n (pc := 6) X rfl dX6_addShip_6 ?_
  refine gt_X6_29 (pc := 7) X sW_o rfl dX6_addShip_7 ?_
  refine r_iload (pc := 10) X rfl dX6_addShip_10 ?_
  refine r_aald (pc := 12) X sW_s rfl rfl (n) rfl (by omega) (by decide) rfl dX6_addShip_12 ?_
  refine r_iload_n (pc := 13) X rfl dX6_addShip_13 ?_
  refine r_iload_n (pc := 14) X rfl dX6_addShip_14 ?_
  refine r_iload_n (pc := 15) X rfl dX6_addShip_15 ?_
  refine ca_X6_90 (pc := 16) X (c_X5_begin (sW_sh hn) (nI w) (nI c) (nI h)) (sW_sh hn) rfl rfl rfl dX6_addShip_16 (fun M16 hp16 => ?_)
  obtain rfl := hp16
  refine bkV.eq ((congrArg (fun z => bku _ _ (.inr (5, z))) shF_bg.symm).trans (sS_sh hn (fun m _ hm => cbg_o (by rcases Nat.lt_or_ge m (140 + 5 * n) with z | z; exact Or.inl z; rcases Nat.lt_or_ge m (145 + 5 * n) with z2 | z2; exact absurd (show jow m = 14 + n by rw [show m = 140 + 5 * n + (m - 140 - 5 * n) by omega]; exact jow_s hn (by omega)) hm; exact Or.inr z2)))) ?_
  refine r_iload (pc := 19) X rfl dX6_addShip_19 ?_
  refine r_istore (pc := 21) X rfl rfl dX6_addShip_21 ?_
  have t71 : ∀ (p : Nat) (y : Int32), p ≤ n → y = nI p → (∀ i (_ : i < (jall (jwn s) n).length), p ≤ i → jwn s (jall (jwn s) n)[i] < w) → (p = 0 ∨ ∃ hq : p - 1 < (jall (jwn s) n).length, ¬ jwn s (jall (jwn s) n)[p - 1] < w) → bkV E G Z 0 0 (sW G B b (cbg s n (nI w) (nI c) (nI h)) (cgp go n p) M) 71 [some (.ref b), some (.int (nI w)), some (.int (nI c)), some (.int (nI h)), some (.int (nI n)), some (.int y)] [] := by
    intro p y hp ey h1 h2
    subst ey
    refine r_aload_n (pc := 71) X rfl dX6_addShip_71 ?_
    refine gt_X6_33 (pc := 72) X sW_o rfl dX6_addShip_72 ?_
    refine r_iload (pc := 75) X rfl dX6_addShip_75 ?_
    refine r_iload (pc := 77) X rfl dX6_addShip_77 ?_
    refine r_iast (pc := 79) X sW_g (p) rfl (by omega) (by decide) dX6_addShip_79 ?_
    refine bkV.eq sS_g ?_
    refine r_aload_n (pc := 80) X rfl dX6_addShip_80 ?_
    refine r_dup (pc := 81) X rfl dX6_addShip_81 ?_
    refine gt_X6_36 (pc := 82) X sW_o rfl dX6_addShip_82 ?_
    refine r_iconst (pc := 85) (v := 1) X rfl dX6_addShip_85 ?_
    refine r_iadd (pc := 86) X dX6_addShip_86 ?_
    refine pt_X6_36 (pc := 87) X sW_o  rfl dX6_addShip_87 ?_
    refine bkV.eq ((congrArg (fun z => bku _ _ (.inr (6, z))) sO_6).trans (sS_o (fun m _ hm => upd_n (fun e => hm (by rw [e]; exact jow_o (by omega)))))) ?_
    rw [cbg_cm]
    refine r_iload (pc := 90) X rfl dX6_addShip_90 ?_
    exact K dX6_addShip_92 ⟨rfl, _, rfl, cjall_cm hn hw1 hg hp h1 h2⟩
  have lp23 : ∀ (p : Nat) (y : Int32), p ≤ n → y = nI p → (∀ i (_ : i < (jall (jwn s) n).length), p ≤ i → jwn s (jall (jwn s) n)[i] < w) → bkV E G Z 0 0 (sW G B b (cbg s n (nI w) (nI c) (nI h)) (cgp go n p) M) 23 [some (.ref b), some (.int (nI w)), some (.int (nI c)), some (.int (nI h)), some (.int (nI n)), some (.int y)] [] := by
    intro p
    induction p with
    | zero =>
      intro y hp ey h1
      subst ey
      refine r_iload (pc := 23) X rfl dX6_addShip_23 ?_
      refine r_if_le (pc := 25) X 71 (by decide) dX6_addShip_25 (fun q25 => t71 0 _ hp rfl h1 (Or.inl rfl)) (fun q25 => absurd (by decide) q25)
    | succ p ih =>
      intro y hp ey h1
      subst ey
      have hpl : p < (jall (jwn s) n).length := by rw [jall_len]; omega
      have hpm : (jall (jwn s) n)[p] < n := jall_mem.mp (List.getElem_mem hpl)
      have esub : nI (p + 1) - 1 = nI p := by rw [← nI_1]; grind
      refine r_iload (pc := 23) X rfl dX6_addShip_23 ?_
      refine r_if_le (pc := 25) X 71 (by decide) dX6_addShip_25 (fun q25 => absurd q25 (nI_nle (by omega) (by omega))) (fun q25 => ?_)
      refine r_aload_n (pc := 28) X rfl dX6_addShip_28 ?_
      refine gt_X6_29 (pc := 29) X sW_o rfl dX6_addShip_29 ?_
      refine r_aload_n (pc := 32) X rfl dX6_addShip_32 ?_
      refine gt_X6_33 (pc := 33) X sW_o rfl dX6_addShip_33 ?_
      refine r_iload (pc := 36) X rfl dX6_addShip_36 ?_
      refine r_iconst (pc := 38) (v := 1) X rfl dX6_addShip_38 ?_
      refine r_isub (pc := 39) X dX6_addShip_39 ?_
      refine r_iald (pc := 40) X sW_g (p) esub (by omega) (by decide) dX6_addShip_40 ?_
      refine bk_top (cgp_at.trans (hg p hpl)) ?_
      refine r_aald (pc := 41) X sW_s rfl rfl ((jall (jwn s) n)[p]) rfl (by omega) (by decide) rfl dX6_addShip_41 ?_
      refine gt_X6_94 (pc := 42) X (sW_sh (i := (jall (jwn s) n)[p]) (by omega)) rfl dX6_addShip_42 ?_
      refine bk_top ((cbg_o (by omega)).trans (jwn_s hw (by omega))) ?_
      refine r_iload_n (pc := 45) X rfl dX6_addShip_45 ?_
      refine r_icmpN_ge (pc := 46) X 71 (jwn s (jall (jwn s) n)[p]) (w) rfl rfl (by have := jwn_lt hw (k := (jall (jwn s) n)[p]) (by omega); omega) (by omega) (by decide) dX6_addShip_46 (fun q46 => ?_) (fun q46 => ?_)
      · skip
        exact t71 (p + 1) _ hp rfl h1 (Or.inr ⟨by show p < _; exact hpl, by show ¬ jwn s (jall (jwn s) n)[p] < w; omega⟩)
      · skip
        refine r_aload_n (pc := 49) X rfl dX6_addShip_49 ?_
        refine gt_X6_33 (pc := 50) X sW_o rfl dX6_addShip_50 ?_
        refine r_iload (pc := 53) X rfl dX6_addShip_53 ?_
        refine r_aload_n (pc := 55) X rfl dX6_addShip_55 ?_
        refine gt_X6_33 (pc := 56) X sW_o rfl dX6_addShip_56 ?_
        refine r_iload (pc := 59) X rfl dX6_addShip_59 ?_
        refine r_iconst (pc := 61) (v := 1) X rfl dX6_addShip_61 ?_
        refine r_isub (pc := 62) X dX6_addShip_62 ?_
        refine r_iald (pc := 63) X sW_g (p) esub (by omega) (by decide) dX6_addShip_63 ?_
        refine bk_top cgp_at ?_
        refine r_iast (pc := 64) X sW_g (p + 1) rfl (by omega) (by decide) dX6_addShip_64 ?_
        rw [cgp_up (by omega)]
        refine bkV.eq sS_g ?_
        refine r_iinc (pc := 65) X rfl rfl rfl dX6_addShip_65 ?_
        refine r_goto (pc := 68) X 23 (by decide) dX6_addShip_68 ?_
        exact ih _ (by omega) (by rw [← nI_1]; show nI p + 1 + (-1) = nI p; grind) (fun i hi hpi => by
          rcases Nat.lt_or_ge p i with z | z
          · exact h1 i hi z
          · obtain rfl : i = p := by omega
            exact q46)
  refine bkV.eq (congrArg (fun z => sW G B b (cbg s n (nI w) (nI c) (nI h)) z M) (cgp_n go n).symm) ?_
  exact lp23 n _ (Nat.le_refl n) rfl (fun i hi h => absurd hi (by rw [jall_len]; omega))

theorem sS_mxl {G : bkG} {B b i : Nat} {s s' go : Nat → Int32} {M : bkM} (hi : i < 4) : bku (sW G B b (cmx s s' (6 + 2 * i)) go M) (b + 6 + 2 * i) (.inr (3, ltF B s' i)) = sW G B b (cmx s s' (7 + 2 * i)) go M := by
  have e := sS_mx (G := G) (B := B) (b := b) (s := s) (s' := s') (go := go) (M := M) (t := 6 + 2 * i) (by omega) (by omega)
  rw [sE_lt hi, ← Nat.add_assoc, show 6 + 2 * i + 1 = 7 + 2 * i by omega] at e
  exact e
theorem sS_mxk {G : bkG} {B b i : Nat} {s s' go : Nat → Int32} {M : bkM} (hi : i < 4) : bku (sW G B b (cmx s s' (7 + 2 * i)) go M) (b + 7 + 2 * i) (.inr (2, kpF s' i)) = sW G B b (cmx s s' (6 + 2 * (i + 1))) go M := by
  have e := sS_mx (G := G) (B := B) (b := b) (s := s) (s' := s') (go := go) (M := M) (t := 7 + 2 * i) (by omega) (by omega)
  rw [sE_kp hi, ← Nat.add_assoc, show 7 + 2 * i + 1 = 6 + 2 * (i + 1) by omega] at e
  exact e
theorem sS_mxs {G : bkG} {B b i : Nat} {s s' go : Nat → Int32} {M : bkM} (hi : i < 8) : bku (sW G B b (cmx s s' (14 + i)) go M) (b + 14 + i) (.inr (5, shF s' i)) = sW G B b (cmx s s' (14 + (i + 1))) go M := by
  have e := sS_mx (G := G) (B := B) (b := b) (s := s) (s' := s') (go := go) (M := M) (t := 14 + i) (by omega) (by omega)
  rw [sE_sh, ← Nat.add_assoc, show 14 + i + 1 = 14 + (i + 1) by omega] at e
  exact e
theorem cmx_all {s s' : Nat → Int32} : ∀ m, m < 183 → s' m = upd (upd (upd (cmx s s' 22) 180 (s' 180)) 182 (s' 182)) 181 (s' 181) m := by
  intro m hm
  by_cases e1 : m = 181
  · subst e1; rw [upd_s]
  · rw [upd_n e1]
    by_cases e2 : m = 182
    · subst e2; rw [upd_s]
    · rw [upd_n e2]
      by_cases e3 : m = 180
      · subst e3; rw [upd_s]
      · rw [upd_n e3]
        refine (cmx_in ?_).symm
        unfold jow
        by_cases h1 : m < 100
        · rw [if_pos h1]; exact Or.inl rfl
        · rw [if_neg h1]
          refine Or.inr ?_
          split
          · omega
          · split
            · omega
            · rw [if_pos (by omega)]
              omega
set_option maxHeartbeats 4000000 in
set_option maxRecDepth 100000 in
theorem c_X6_copyFrom {G : bkG} {Z : Nat → Prop} {M : bkM} {B b : Nat} {s go : Nat → Int32} {o : Nat} {s' go' : Nat → Int32} (hsep : o + 22 ≤ b ∨ b + 22 ≤ o) : bkCv G Z Z yX6_copyFrom cX6_copyFrom 3 2 0 0 [.ref b, .ref o] (sW G B b s go (sW G B o s' go' M)) (fun M' => M' = (sW G B b s' go' (sW G B o s' go' M))) := by
  refine bk_metv [some (.ref b), some (.ref o), none] rfl pf_X6_copyFrom rfl rfl (fun E X hn K => ?_)
  refine r_aload_n (pc := 0) X rfl dX6_copyFrom_0 ?_
  refine gt_X6_9 (pc := 1) X ((sW_out (by omega)).trans sW_o) rfl dX6_copyFrom_1 ?_
  refine r_iconst (pc := 4) (v := 0) X rfl dX6_copyFrom_4 ?_
  refine r_aload_n (pc := 5) X rfl dX6_copyFrom_5 ?_
  refine gt_X6_9 (pc := 6) X sW_o rfl dX6_copyFrom_6 ?_
  refine r_iconst (pc := 9) (v := 0) X rfl dX6_copyFrom_9 ?_
  refine r_bipush (pc := 10) (v := 10) X rfl dX6_copyFrom_10 ?_
  refine r_copyI (pc := 12) X ((sW_out (by omega)).trans sW_r) sW_r (10) rfl (by omega) (by omega) (by decide) ml_X6_55 na_arraycopy st_arraycopy ini_J10 rfl ⟨Nat.le_of_ble_eq_true rfl, Nat.le_of_ble_eq_true rfl⟩ dX6_copyFrom_12 ?_
  rw [jrow_mx]
  refine bkV.eq (sS_r (s' := cmx s s' 6) (fun m _ hm => cmx_6 hm)) ?_
  refine r_aload_n (pc := 15) X rfl dX6_copyFrom_15 ?_
  refine gt_X6_33 (pc := 16) X ((sW_out (by omega)).trans sW_o) rfl dX6_copyFrom_16 ?_
  refine r_iconst (pc := 19) (v := 0) X rfl dX6_copyFrom_19 ?_
  refine r_aload_n (pc := 20) X rfl dX6_copyFrom_20 ?_
  refine gt_X6_33 (pc := 21) X sW_o rfl dX6_copyFrom_21 ?_
  refine r_iconst (pc := 24) (v := 0) X rfl dX6_copyFrom_24 ?_
  refine r_bipush (pc := 25) (v := 8) X rfl dX6_copyFrom_25 ?_
  refine r_copyI (pc := 27) X ((sW_out (by omega)).trans sW_g) sW_g (8) rfl (by omega) (by omega) (by decide) ml_X6_55 na_arraycopy st_arraycopy ini_J10 rfl ⟨Nat.le_of_ble_eq_true rfl, Nat.le_of_ble_eq_true rfl⟩ dX6_copyFrom_27 ?_
  refine bkV.eq sS_g ?_
  refine bkV.extI sW_g (g := go') (fun i hi => if_pos hi) ?_
  refine bkV.eq sS_g ?_
  refine r_iconst (pc := 30) (v := 0) X rfl dX6_copyFrom_30 ?_
  refine r_istore_n (pc := 31) X rfl rfl dX6_copyFrom_31 ?_
  have lp32 : ∀ (d j : Nat) (y : Int32), j ≤ 4 → 4 < j + d → (y = nI j) → bkV E G Z 0 0 (sW G B b (cmx s s' (6 + 2 * j)) go' (sW G B o s' go' M)) 32 [some (.ref b), some (.ref o), some (.int y)] [] := by
    intro d
    induction d with
    | zero => intro j y; intros; exfalso; omega
    | succ d ih =>
      intro j y hj hd e1
      subst e1
      refine r_iload_n (pc := 32) X rfl dX6_copyFrom_32 ?_
      refine r_iconst (pc := 33) (v := 4) X rfl dX6_copyFrom_33 ?_
      refine r_icmpN_ge (pc := 34) X 73 (j) (4) rfl rfl (by omega) (by omega) (by decide) dX6_copyFrom_34 (fun q34 => ?_) (fun q34 => ?_)
      · skip
        obtain rfl : j = 4 := by omega
        refine r_iconst (pc := 73) (v := 0) X rfl dX6_copyFrom_73 ?_
        refine r_istore_n (pc := 74) X rfl rfl dX6_copyFrom_74 ?_
        have lp75 : ∀ (d j : Nat) (y : Int32), j ≤ 8 → 8 < j + d → (y = nI j) → bkV E G Z 0 0 (sW G B b (cmx s s' (14 + j)) go' (sW G B o s' go' M)) 75 [some (.ref b), some (.ref o), some (.int y)] [] := by
          intro d
          induction d with
          | zero => intro j y; intros; exfalso; omega
          | succ d ih =>
            intro j y hj hd e1
            subst e1
            refine r_iload_n (pc := 75) X rfl dX6_copyFrom_75 ?_
            refine r_bipush (pc := 76) (v := 8) X rfl dX6_copyFrom_76 ?_
            refine r_icmpN_ge (pc := 78) X 102 (j) (8) rfl rfl (by omega) (by omega) (by decide) dX6_copyFrom_78 (fun q78 => ?_) (fun q78 => ?_)
            · skip
              obtain rfl : j = 8 := by omega
              refine r_aload_n (pc := 102) X rfl dX6_copyFrom_102 ?_
              refine r_aload_n (pc := 103) X rfl dX6_copyFrom_103 ?_
              refine gt_X6_36 (pc := 104) X ((sW_out (by omega)).trans sW_o) rfl dX6_copyFrom_104 ?_
              refine pt_X6_36 (pc := 107) X sW_o  rfl dX6_copyFrom_107 ?_
              refine bkV.eq ((congrArg (fun z => bku _ _ (.inr (6, z))) sO_6).trans (sS_o (fun m _ hm => upd_n (fun e => hm (by rw [e]; exact jow_o (by omega)))))) ?_
              refine r_aload_n (pc := 110) X rfl dX6_copyFrom_110 ?_
              refine r_aload_n (pc := 111) X rfl dX6_copyFrom_111 ?_
              refine gt_X6_40 (pc := 112) X ((sW_out (by omega)).trans sW_o) rfl dX6_copyFrom_112 ?_
              refine pt_X6_40 (pc := 115) X sW_o  rfl dX6_copyFrom_115 ?_
              refine bkV.eq ((congrArg (fun z => bku _ _ (.inr (6, z))) sO_7).trans (sS_o (fun m _ hm => upd_n (fun e => hm (by rw [e]; exact jow_o (by omega)))))) ?_
              refine r_aload_n (pc := 118) X rfl dX6_copyFrom_118 ?_
              refine r_aload_n (pc := 119) X rfl dX6_copyFrom_119 ?_
              refine gt_X6_43 (pc := 120) X ((sW_out (by omega)).trans sW_o) rfl dX6_copyFrom_120 ?_
              refine pt_X6_43 (pc := 123) X sW_o  rfl dX6_copyFrom_123 ?_
              refine bkV.eq ((congrArg (fun z => bku _ _ (.inr (6, z))) sO_8).trans (sS_o (fun m _ hm => upd_n (fun e => hm (by rw [e]; exact jow_o (by omega)))))) ?_
              exact K dX6_copyFrom_126 (sW_congr cmx_all)
            · skip
              refine r_aload_n (pc := 81) X rfl dX6_copyFrom_81 ?_
              refine gt_X6_29 (pc := 82) X sW_o rfl dX6_copyFrom_82 ?_
              refine r_iload_n (pc := 85) X rfl dX6_copyFrom_85 ?_
              refine r_aald (pc := 86) X sW_s rfl rfl (j) rfl (by omega) (by decide) rfl dX6_copyFrom_86 ?_
              refine r_aload_n (pc := 87) X rfl dX6_copyFrom_87 ?_
              refine gt_X6_29 (pc := 88) X ((sW_out (by omega)).trans sW_o) rfl dX6_copyFrom_88 ?_
              refine r_iload_n (pc := 91) X rfl dX6_copyFrom_91 ?_
              refine r_aald (pc := 92) X ((sW_out (by omega)).trans sW_s) rfl rfl (j) rfl (by omega) (by decide) rfl dX6_copyFrom_92 ?_
              refine ca_X6_68 (pc := 93) X (c_X5_copyFrom (by omega) (sW_sh (by omega)) ((sW_out (by omega)).trans (sW_sh (by omega)))) (sW_sh (by omega)) rfl rfl rfl dX6_copyFrom_93 (fun M93 hp93 => ?_)
              obtain rfl := hp93
              refine bkV.eq (sS_mxs (by omega)) ?_
              refine r_iinc (pc := 96) X rfl rfl rfl dX6_copyFrom_96 ?_
              refine r_goto (pc := 99) X 75 (by decide) dX6_copyFrom_99 ?_
              exact ih (j + 1) _ (by omega) (by omega) (nI_1 j)
        exact lp75 (8 + 1) 0 _ (by omega) (by omega) rfl
      · skip
        refine r_aload_n (pc := 37) X rfl dX6_copyFrom_37 ?_
        refine gt_X6_17 (pc := 38) X sW_o rfl dX6_copyFrom_38 ?_
        refine r_iload_n (pc := 41) X rfl dX6_copyFrom_41 ?_
        refine r_aald (pc := 42) X sW_l rfl rfl (j) rfl (by omega) (by decide) rfl dX6_copyFrom_42 ?_
        refine r_aload_n (pc := 43) X rfl dX6_copyFrom_43 ?_
        refine gt_X6_17 (pc := 44) X ((sW_out (by omega)).trans sW_o) rfl dX6_copyFrom_44 ?_
        refine r_iload_n (pc := 47) X rfl dX6_copyFrom_47 ?_
        refine r_aald (pc := 48) X ((sW_out (by omega)).trans sW_l) rfl rfl (j) rfl (by omega) (by decide) rfl dX6_copyFrom_48 ?_
        refine ca_X6_61 (pc := 49) X (c_X3_copyFrom (by omega) (sW_lt (by omega)) ((sW_out (by omega)).trans (sW_lt (by omega)))) (sW_lt (by omega)) rfl rfl rfl dX6_copyFrom_49 (fun M49 hp49 => ?_)
        obtain rfl := hp49
        refine bkV.eq (sS_mxl (by omega)) ?_
        refine r_aload_n (pc := 52) X rfl dX6_copyFrom_52 ?_
        refine gt_X6_23 (pc := 53) X sW_o rfl dX6_copyFrom_53 ?_
        refine r_iload_n (pc := 56) X rfl dX6_copyFrom_56 ?_
        refine r_aald (pc := 57) X sW_k rfl rfl (j) rfl (by omega) (by decide) rfl dX6_copyFrom_57 ?_
        refine r_aload_n (pc := 58) X rfl dX6_copyFrom_58 ?_
        refine gt_X6_23 (pc := 59) X ((sW_out (by omega)).trans sW_o) rfl dX6_copyFrom_59 ?_
        refine r_iload_n (pc := 62) X rfl dX6_copyFrom_62 ?_
        refine r_aald (pc := 63) X ((sW_out (by omega)).trans sW_k) rfl rfl (j) rfl (by omega) (by decide) rfl dX6_copyFrom_63 ?_
        refine ca_X6_65 (pc := 64) X (c_X2_copyFrom (by omega) (sW_kp (by omega)) ((sW_out (by omega)).trans (sW_kp (by omega)))) (sW_kp (by omega)) rfl rfl rfl dX6_copyFrom_64 (fun M64 hp64 => ?_)
        obtain rfl := hp64
        refine bkV.eq (sS_mxk (by omega)) ?_
        refine r_iinc (pc := 67) X rfl rfl rfl dX6_copyFrom_67 ?_
        refine r_goto (pc := 70) X 32 (by decide) dX6_copyFrom_70 ?_
        exact ih (j + 1) _ (by omega) (by omega) (nI_1 j)
  exact lp32 (4 + 1) 0 _ (by omega) (by omega) rfl

