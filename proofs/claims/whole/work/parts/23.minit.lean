/-! the reference, new -/
def ji0 : Nat → Nat → Int32
  | 0 => fun _ => 0
  | l + 1 => upd (upd (upd (upd (ji0 l) (100 + 5 * l + 0) (nI l)) (100 + 5 * l + 1) 1) (100 + 5 * l + 2) 5) (120 + 5 * l + 2) 3
def jS0 : Nat → Int32 := upd (ji0 4) 182 2
def jz : Nat → Int32 := fun _ => 0
abbrev mD : List Value := [.null, .null, .null, .int 0, .null, .int 0, .null, .int 0, .null, .int 0, .int 0, .int 0, .int 0, .int 0, .int 0]
def mQe (G : bkG) (k : Nat) : va_E := if k = 3 then aI G 732 jz else if k = 5 then aC G 60 jz else if k = 6 then aI G 8 jz else aI G 183 jz
def mQ (G : bkG) (M : bkM) (r : Nat) : Nat → bkM
  | 0 => M
  | k + 1 => bku (mQ G M r k) (r + (k + 1)) (mQe G (k + 1))
theorem bku_comm {M : bkM} {a b : Nat} {e g : va_E} (h : a ≠ b) : bku (bku M a e) b g = bku (bku M b g) a e := by
  funext x
  unfold bku
  by_cases h1 : x = b
  · subst h1; rw [if_pos rfl, if_neg (Ne.symm h), if_pos rfl]
  · rw [if_neg h1, if_neg h1]
theorem bku_bku {M : bkM} {a : Nat} {e g : va_E} : bku (bku M a e) a g = bku M a g := by
  funext x
  unfold bku
  by_cases h1 : x = a
  · rw [if_pos h1, if_pos h1]
  · rw [if_neg h1, if_neg h1, if_neg h1]
theorem mQ_W {G : bkG} {M : bkM} {r : Nat} : bku (mQ G M r 6) r (.inr (9, mF r jz)) = mW G M r jz jz jz jz jz jz jz := by
  funext x
  unfold mW
  by_cases h0 : x = r
  · simp [h0, bku]
  · by_cases h1 : x = r + 1
    · simp [h1, bku, mQ, mQe]
    · by_cases h2 : x = r + 2
      · simp [h2, bku, mQ, mQe]
      · by_cases h3 : x = r + 3
        · simp [h3, bku, mQ, mQe]
        · by_cases h4 : x = r + 4
          · simp [h4, bku, mQ, mQe]
          · by_cases h5 : x = r + 5
            · simp [h5, bku, mQ, mQe]
            · by_cases h6 : x = r + 6
              · simp [h6, bku, mQ, mQe]
              · simp [h0, h1, h2, h3, h4, h5, h6, bku, mQ, mQe]
set_option maxHeartbeats 4000000 in
set_option maxRecDepth 100000 in
theorem c_X9_init {G : bkG} {M : bkM} {r : Nat} : bkCv G (fun z => z = r + 1) (fun z => z = r + 7) yX9_init cX9_init 2 1 6 1349 [.ref r] (bku M r (.inr (9, mD))) (fun M' => M' = (mW G M r jS0 jz jz jz jz jz jz)) := by
  refine bk_metv [some (.ref r), none] rfl pf_X9_init rfl rfl (fun E X hn K => ?_)
  refine r_aload_n (pc := 0) X rfl dX9_init_0 ?_
  refine r_objInit (pc := 1) X ml_X9_1 im_objectInit cd_objectInit rfl ⟨Nat.le_of_ble_eq_true rfl, Nat.le_of_ble_eq_true rfl⟩ dX9_init_1 ?_
  refine r_aload_n (pc := 4) X rfl dX9_init_4 ?_
  refine r_sipush (pc := 5) (v := 183) X rfl dX9_init_5 ?_
  refine r_newI (pc := 8) X (a := (r + 1)) 183 rfl (by decide) ac_int ⟨Nat.le_of_ble_eq_true rfl, Nat.le_of_ble_eq_true rfl⟩ dX9_init_8 ?_
  refine bkV.eq (bku_comm (by omega)) ?_
  refine bkV.eq (show bku (bku (mQ G M r 0) (r + 1) _) r _ = bku (mQ G M r 1) r _ from rfl) ?_
  refine pt_X9_7 (pc := 10) X bku_at (hn.trans rfl) rfl dX9_init_10 ?_
  refine bkV.eq bku_bku ?_
  refine bkV.eq (show bku _ r _ = bku (mQ G M r 1) r (.inr (9, [.ref (r + 1), .null, .null, .int 0, .null, .int 0, .null, .int 0, .null, .int 0, .int 0, .int 0, .int 0, .int 0, .int 0])) from rfl) ?_
  refine r_aload_n (pc := 13) X rfl dX9_init_13 ?_
  refine r_sipush (pc := 14) (v := 183) X rfl dX9_init_14 ?_
  refine r_newI (pc := 17) X (a := (r + 2)) 183 rfl (by decide) ac_int ⟨Nat.le_of_ble_eq_true rfl, Nat.le_of_ble_eq_true rfl⟩ dX9_init_17 ?_
  refine bkV.eq (bku_comm (by omega)) ?_
  refine bkV.eq (show bku (bku (mQ G M r 1) (r + 2) _) r _ = bku (mQ G M r 2) r _ from rfl) ?_
  refine pt_X9_13 (pc := 19) X bku_at (hn.trans rfl) rfl dX9_init_19 ?_
  refine bkV.eq bku_bku ?_
  refine bkV.eq (show bku _ r _ = bku (mQ G M r 2) r (.inr (9, [.ref (r + 1), .ref (r + 2), .null, .int 0, .null, .int 0, .null, .int 0, .null, .int 0, .int 0, .int 0, .int 0, .int 0, .int 0])) from rfl) ?_
  refine r_aload_n (pc := 22) X rfl dX9_init_22 ?_
  refine r_sipush (pc := 23) (v := 732) X rfl dX9_init_23 ?_
  refine r_newI (pc := 26) X (a := (r + 3)) 732 rfl (by decide) ac_int ⟨Nat.le_of_ble_eq_true rfl, Nat.le_of_ble_eq_true rfl⟩ dX9_init_26 ?_
  refine bkV.eq (bku_comm (by omega)) ?_
  refine bkV.eq (show bku (bku (mQ G M r 2) (r + 3) _) r _ = bku (mQ G M r 3) r _ from rfl) ?_
  refine pt_X9_16 (pc := 28) X bku_at (hn.trans rfl) rfl dX9_init_28 ?_
  refine bkV.eq bku_bku ?_
  refine bkV.eq (show bku _ r _ = bku (mQ G M r 3) r (.inr (9, [.ref (r + 1), .ref (r + 2), .ref (r + 3), .int 0, .null, .int 0, .null, .int 0, .null, .int 0, .int 0, .int 0, .int 0, .int 0, .int 0])) from rfl) ?_
  refine r_aload_n (pc := 31) X rfl dX9_init_31 ?_
  refine r_sipush (pc := 32) (v := 183) X rfl dX9_init_32 ?_
  refine r_newI (pc := 35) X (a := (r + 4)) 183 rfl (by decide) ac_int ⟨Nat.le_of_ble_eq_true rfl, Nat.le_of_ble_eq_true rfl⟩ dX9_init_35 ?_
  refine bkV.eq (bku_comm (by omega)) ?_
  refine bkV.eq (show bku (bku (mQ G M r 3) (r + 4) _) r _ = bku (mQ G M r 4) r _ from rfl) ?_
  refine pt_X9_19 (pc := 37) X bku_at (hn.trans rfl) rfl dX9_init_37 ?_
  refine bkV.eq bku_bku ?_
  refine bkV.eq (show bku _ r _ = bku (mQ G M r 4) r (.inr (9, [.ref (r + 1), .ref (r + 2), .ref (r + 3), .int 0, .ref (r + 4), .int 0, .null, .int 0, .null, .int 0, .int 0, .int 0, .int 0, .int 0, .int 0])) from rfl) ?_
  refine r_aload_n (pc := 40) X rfl dX9_init_40 ?_
  refine r_bipush (pc := 41) (v := 60) X rfl dX9_init_41 ?_
  refine r_newC (pc := 43) X (a := (r + 5)) 60 rfl (by decide) ac_char ⟨Nat.le_of_ble_eq_true rfl, Nat.le_of_ble_eq_true rfl⟩ dX9_init_43 ?_
  refine bkV.eq (bku_comm (by omega)) ?_
  refine bkV.eq (show bku (bku (mQ G M r 4) (r + 5) _) r _ = bku (mQ G M r 5) r _ from rfl) ?_
  refine pt_X9_22 (pc := 45) X bku_at (hn.trans rfl) rfl dX9_init_45 ?_
  refine bkV.eq bku_bku ?_
  refine bkV.eq (show bku _ r _ = bku (mQ G M r 5) r (.inr (9, [.ref (r + 1), .ref (r + 2), .ref (r + 3), .int 0, .ref (r + 4), .int 0, .ref (r + 5), .int 0, .null, .int 0, .int 0, .int 0, .int 0, .int 0, .int 0])) from rfl) ?_
  refine r_aload_n (pc := 48) X rfl dX9_init_48 ?_
  refine r_bipush (pc := 49) (v := 8) X rfl dX9_init_49 ?_
  refine r_newI (pc := 51) X (a := (r + 6)) 8 rfl (by decide) ac_int ⟨Nat.le_of_ble_eq_true rfl, Nat.le_of_ble_eq_true rfl⟩ dX9_init_51 ?_
  refine bkV.eq (bku_comm (by omega)) ?_
  refine bkV.eq (show bku (bku (mQ G M r 5) (r + 6) _) r _ = bku (mQ G M r 6) r _ from rfl) ?_
  refine pt_X9_26 (pc := 53) X bku_at (hn.trans rfl) rfl dX9_init_53 ?_
  refine bkV.eq bku_bku ?_
  refine bkV.eq (show bku _ r _ = bku (mQ G M r 6) r (.inr (9, mF r jz)) from rfl) ?_
  refine bkV.eq mQ_W ?_
  refine r_iconst (pc := 56) (v := 0) X rfl dX9_init_56 ?_
  refine r_istore_n (pc := 57) X rfl rfl dX9_init_57 ?_
  have lp58 : ∀ (d j : Nat) (y : Int32), j ≤ 4 → 4 < j + d → (y = nI j) → bkV E G (fun z => z = r + 7) 6 1349 (mW G M r (ji0 j) jz jz jz jz jz jz) 58 [some (.ref r), some (.int y)] [] := by
    intro d
    induction d with
    | zero => intro j y; intros; exfalso; omega
    | succ d ih =>
      intro j y hj hd e1
      subst e1
      refine r_iload_n (pc := 58) X rfl dX9_init_58 ?_
      refine r_iconst (pc := 59) (v := 4) X rfl dX9_init_59 ?_
      refine r_icmpN_ge (pc := 60) X 113 (j) (4) rfl rfl (by omega) (by omega) (by decide) dX9_init_60 (fun q60 => ?_) (fun q60 => ?_)
      · skip
        obtain rfl : j = 4 := by omega
        refine r_aload_n (pc := 113) X rfl dX9_init_113 ?_
        refine gt_X9_7 (pc := 114) X mW_0 rfl dX9_init_114 ?_
        refine r_sipush (pc := 117) (v := 182) X rfl dX9_init_117 ?_
        refine r_iconst (pc := 120) (v := 2) X rfl dX9_init_120 ?_
        refine r_iast (pc := 121) X mW_1 (182) rfl (by omega) (by decide) dX9_init_121 ?_
        refine bkV.eq mS_1 ?_
        exact K dX9_init_122 rfl
      · skip
        refine r_aload_n (pc := 63) X rfl dX9_init_63 ?_
        refine gt_X9_7 (pc := 64) X mW_0 rfl dX9_init_64 ?_
        refine r_iload_n (pc := 67) X rfl dX9_init_67 ?_
        refine r_iconst (pc := 68) (v := 0) X rfl dX9_init_68 ?_
        refine ca_X9_29 (pc := 69) X (c_X9_ofL j 0) rfl rfl rfl dX9_init_69 (fun r69 M69 hp69 => ?_)
        obtain ⟨rfl, rfl⟩ := hp69
        refine r_iload_n (pc := 72) X rfl dX9_init_72 ?_
        refine r_iast (pc := 73) X mW_1 (100 + 5 * j + 0) rfl (by omega) (by decide) dX9_init_73 ?_
        refine bkV.eq mS_1 ?_
        refine r_aload_n (pc := 74) X rfl dX9_init_74 ?_
        refine gt_X9_7 (pc := 75) X mW_0 rfl dX9_init_75 ?_
        refine r_iload_n (pc := 78) X rfl dX9_init_78 ?_
        refine r_iconst (pc := 79) (v := 1) X rfl dX9_init_79 ?_
        refine ca_X9_29 (pc := 80) X (c_X9_ofL j 1) rfl rfl rfl dX9_init_80 (fun r80 M80 hp80 => ?_)
        obtain ⟨rfl, rfl⟩ := hp80
        refine r_iconst (pc := 83) (v := 1) X rfl dX9_init_83 ?_
        refine r_iast (pc := 84) X mW_1 (100 + 5 * j + 1) rfl (by omega) (by decide) dX9_init_84 ?_
        refine bkV.eq mS_1 ?_
        refine r_aload_n (pc := 85) X rfl dX9_init_85 ?_
        refine gt_X9_7 (pc := 86) X mW_0 rfl dX9_init_86 ?_
        refine r_iload_n (pc := 89) X rfl dX9_init_89 ?_
        refine r_iconst (pc := 90) (v := 2) X rfl dX9_init_90 ?_
        refine ca_X9_29 (pc := 91) X (c_X9_ofL j 2) rfl rfl rfl dX9_init_91 (fun r91 M91 hp91 => ?_)
        obtain ⟨rfl, rfl⟩ := hp91
        refine r_iconst (pc := 94) (v := 5) X rfl dX9_init_94 ?_
        refine r_iast (pc := 95) X mW_1 (100 + 5 * j + 2) rfl (by omega) (by decide) dX9_init_95 ?_
        refine bkV.eq mS_1 ?_
        refine r_aload_n (pc := 96) X rfl dX9_init_96 ?_
        refine gt_X9_7 (pc := 97) X mW_0 rfl dX9_init_97 ?_
        refine r_iload_n (pc := 100) X rfl dX9_init_100 ?_
        refine r_iconst (pc := 101) (v := 2) X rfl dX9_init_101 ?_
        refine ca_X9_33 (pc := 102) X (c_X9_ofK j 2) rfl rfl rfl dX9_init_102 (fun r102 M102 hp102 => ?_)
        obtain ⟨rfl, rfl⟩ := hp102
        refine r_iconst (pc := 105) (v := 3) X rfl dX9_init_105 ?_
        refine r_iast (pc := 106) X mW_1 (120 + 5 * j + 2) rfl (by omega) (by decide) dX9_init_106 ?_
        refine bkV.eq mS_1 ?_
        refine r_iinc (pc := 107) X rfl rfl rfl dX9_init_107 ?_
        refine r_goto (pc := 110) X 58 (by decide) dX9_init_110 ?_
        exact ih (j + 1) _ (by omega) (by omega) (nI_1 j)
  refine bkV.eq (show (mW G M r jz jz jz jz jz jz jz) = (mW G M r (ji0 0) jz jz jz jz jz jz) from rfl) ?_
  exact lp58 (4 + 1) 0 _ (by omega) (by omega) rfl

