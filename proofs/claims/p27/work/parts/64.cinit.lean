set_option maxHeartbeats 4000000 in
set_option maxRecDepth 100000 in
theorem c_X2_init {G : bkG} {Z : Nat → Prop} {M : bkM} {a : Nat} (hm : M a = some (.inr (2, dfX2))) : bkCv G Z Z yX2_init cX2_init 1 1 0 0 [.ref a] M (fun M' => M' = bku M a (.inr (2, [.int 0, .int 0, .int 3, .int 0, .int 0]))) := by
  refine bk_metv [some (.ref a)] rfl pf_X2_init rfl rfl (fun E X hn K => ?_)
  refine r_aload_n (pc := 0) X rfl dX2_init_0 ?_
  refine r_objInit (pc := 1) X ml_X2_3 im_objectInit cd_objectInit rfl ⟨Nat.le_of_ble_eq_true rfl, Nat.le_of_ble_eq_true rfl⟩ dX2_init_1 ?_
  refine r_aload_n (pc := 4) X rfl dX2_init_4 ?_
  refine r_iconst (pc := 5) (v := 0) X rfl dX2_init_5 ?_
  refine pt_X2_9 (pc := 6) X hm  rfl dX2_init_6 ?_
  refine r_aload_n (pc := 9) X rfl dX2_init_9 ?_
  refine r_iconst (pc := 10) (v := 0) X rfl dX2_init_10 ?_
  refine pt_X2_15 (pc := 11) X bku_at  rfl dX2_init_11 ?_
  refine bkV.eq bku_bku ?_
  refine r_aload_n (pc := 14) X rfl dX2_init_14 ?_
  refine r_iconst (pc := 15) (v := 3) X rfl dX2_init_15 ?_
  refine pt_X2_18 (pc := 16) X bku_at  rfl dX2_init_16 ?_
  refine bkV.eq bku_bku ?_
  refine r_aload_n (pc := 19) X rfl dX2_init_19 ?_
  refine r_iconst (pc := 20) (v := 0) X rfl dX2_init_20 ?_
  refine pt_X2_21 (pc := 21) X bku_at  rfl dX2_init_21 ?_
  refine bkV.eq bku_bku ?_
  refine r_aload_n (pc := 24) X rfl dX2_init_24 ?_
  refine r_iconst (pc := 25) (v := 0) X rfl dX2_init_25 ?_
  refine pt_X2_24 (pc := 26) X bku_at  rfl dX2_init_26 ?_
  refine bkV.eq bku_bku ?_
  exact K dX2_init_29 rfl

set_option maxHeartbeats 4000000 in
set_option maxRecDepth 100000 in
theorem c_X5_init {G : bkG} {Z : Nat → Prop} {M : bkM} {a : Nat} (hm : M a = some (.inr (5, dfX5))) : bkCv G Z Z yX5_init cX5_init 1 1 0 0 [.ref a] M (fun M' => M' = bku M a (.inr (5, [.int 0, .int 0, .int 0, .int (-1), .int 0, .int 0]))) := by
  refine bk_metv [some (.ref a)] rfl pf_X5_init rfl rfl (fun E X hn K => ?_)
  refine r_aload_n (pc := 0) X rfl dX5_init_0 ?_
  refine r_objInit (pc := 1) X ml_X5_3 im_objectInit cd_objectInit rfl ⟨Nat.le_of_ble_eq_true rfl, Nat.le_of_ble_eq_true rfl⟩ dX5_init_1 ?_
  refine r_aload_n (pc := 4) X rfl dX5_init_4 ?_
  refine r_iconst (pc := 5) (v := 0) X rfl dX5_init_5 ?_
  refine pt_X5_9 (pc := 6) X hm  rfl dX5_init_6 ?_
  refine r_aload_n (pc := 9) X rfl dX5_init_9 ?_
  refine r_iconst (pc := 10) (v := 0) X rfl dX5_init_10 ?_
  refine pt_X5_15 (pc := 11) X bku_at  rfl dX5_init_11 ?_
  refine bkV.eq bku_bku ?_
  refine r_aload_n (pc := 14) X rfl dX5_init_14 ?_
  refine r_iconst (pc := 15) (v := 0) X rfl dX5_init_15 ?_
  refine pt_X5_18 (pc := 16) X bku_at  rfl dX5_init_16 ?_
  refine bkV.eq bku_bku ?_
  refine r_aload_n (pc := 19) X rfl dX5_init_19 ?_
  refine r_iconst (pc := 20) (v := (-1)) X rfl dX5_init_20 ?_
  refine pt_X5_21 (pc := 21) X bku_at  rfl dX5_init_21 ?_
  refine bkV.eq bku_bku ?_
  refine r_aload_n (pc := 24) X rfl dX5_init_24 ?_
  refine r_iconst (pc := 25) (v := 0) X rfl dX5_init_25 ?_
  refine pt_X5_24 (pc := 26) X bku_at  rfl dX5_init_26 ?_
  refine bkV.eq bku_bku ?_
  refine r_aload_n (pc := 29) X rfl dX5_init_29 ?_
  refine r_iconst (pc := 30) (v := 0) X rfl dX5_init_30 ?_
  refine pt_X5_27 (pc := 31) X bku_at (Or.inl rfl) rfl dX5_init_31 ?_
  refine bkV.eq bku_bku ?_
  exact K dX5_init_34 rfl

set_option maxHeartbeats 4000000 in
set_option maxRecDepth 100000 in
theorem c_X4_init {G : bkG} {Z : Nat → Prop} {M : bkM} {a : Nat} (hm : M a = some (.inr (4, dfX4))) : bkCv G Z Z yX4_init cX4_init 1 1 0 0 [.ref a] M (fun M' => M' = bku M a (.inr (4, [.int 32, .int 0, .int 0, .int 0, .int 0]))) := by
  refine bk_metv [some (.ref a)] rfl pf_X4_init rfl rfl (fun E X hn K => ?_)
  refine r_aload_n (pc := 0) X rfl dX4_init_0 ?_
  refine r_objInit (pc := 1) X ml_X4_1 im_objectInit cd_objectInit rfl ⟨Nat.le_of_ble_eq_true rfl, Nat.le_of_ble_eq_true rfl⟩ dX4_init_1 ?_
  refine r_aload_n (pc := 4) X rfl dX4_init_4 ?_
  refine r_bipush (pc := 5) (v := 32) X rfl dX4_init_5 ?_
  refine pt_X4_7 (pc := 7) X hm rfl rfl rfl dX4_init_7 ?_
  refine r_aload_n (pc := 10) X rfl dX4_init_10 ?_
  refine r_iconst (pc := 11) (v := 0) X rfl dX4_init_11 ?_
  refine pt_X4_13 (pc := 12) X bku_at  rfl dX4_init_12 ?_
  refine bkV.eq bku_bku ?_
  refine r_aload_n (pc := 15) X rfl dX4_init_15 ?_
  refine r_iconst (pc := 16) (v := 0) X rfl dX4_init_16 ?_
  refine pt_X4_17 (pc := 17) X bku_at  rfl dX4_init_17 ?_
  refine bkV.eq bku_bku ?_
  refine r_aload_n (pc := 20) X rfl dX4_init_20 ?_
  refine r_iconst (pc := 21) (v := 0) X rfl dX4_init_21 ?_
  refine pt_X4_20 (pc := 22) X bku_at  rfl dX4_init_22 ?_
  refine bkV.eq bku_bku ?_
  refine r_aload_n (pc := 25) X rfl dX4_init_25 ?_
  refine r_iconst (pc := 26) (v := 0) X rfl dX4_init_26 ?_
  refine pt_X4_23 (pc := 27) X bku_at  rfl dX4_init_27 ?_
  refine bkV.eq bku_bku ?_
  exact K dX4_init_30 rfl

set_option maxHeartbeats 4000000 in
set_option maxRecDepth 100000 in
theorem c_X3_init {G : bkG} {Z : Nat → Prop} {M : bkM} {a B i : Nat} (hm : M a = some (.inr (3, dfX3))) (hI : bI G B M) (hB : B + 12 ≤ a) (hi : i < 4) : bkCv G Z Z yX3_init cX3_init 3 1 0 0 [.ref a, .int (nI i), .ref B] M (fun M' => M' = bku M a (.inr (3, ltF B jS0 i))) := by
  refine bk_metv [some (.ref a), some (.int (nI i)), some (.ref B)] rfl pf_X3_init rfl rfl (fun E X hn K => ?_)
  refine r_aload_n (pc := 0) X rfl dX3_init_0 ?_
  refine r_objInit (pc := 1) X ml_X3_3 im_objectInit cd_objectInit rfl ⟨Nat.le_of_ble_eq_true rfl, Nat.le_of_ble_eq_true rfl⟩ dX3_init_1 ?_
  refine r_aload_n (pc := 4) X rfl dX3_init_4 ?_
  refine r_iconst (pc := 5) (v := 1) X rfl dX3_init_5 ?_
  refine pt_X3_9 (pc := 6) X hm  rfl dX3_init_6 ?_
  refine r_aload_n (pc := 9) X rfl dX3_init_9 ?_
  refine r_iconst (pc := 10) (v := 5) X rfl dX3_init_10 ?_
  refine pt_X3_15 (pc := 11) X bku_at  rfl dX3_init_11 ?_
  refine bkV.eq bku_bku ?_
  refine r_aload_n (pc := 14) X rfl dX3_init_14 ?_
  refine r_iconst (pc := 15) (v := 0) X rfl dX3_init_15 ?_
  refine pt_X3_18 (pc := 16) X bku_at  rfl dX3_init_16 ?_
  refine bkV.eq bku_bku ?_
  refine r_aload_n (pc := 19) X rfl dX3_init_19 ?_
  refine r_iconst (pc := 20) (v := 0) X rfl dX3_init_20 ?_
  refine pt_X3_21 (pc := 21) X bku_at  rfl dX3_init_21 ?_
  refine bkV.eq bku_bku ?_
  refine r_aload_n (pc := 24) X rfl dX3_init_24 ?_
  refine r_getsN (pc := 25) X (fun z => z.1) X.nw.2.1.2.1 dX3_init_25 ?_
  refine r_iload_n (pc := 28) X rfl dX3_init_28 ?_
  refine r_ialdS (pc := 29) X (fun z => z.1) (i) rfl hi dX3_init_29 ?_
  refine pt_X3_28 (pc := 30) X bku_at (hn.trans rfl) rfl dX3_init_30 ?_
  refine bkV.eq bku_bku ?_
  refine r_aload_n (pc := 33) X rfl dX3_init_33 ?_
  refine r_aload_n (pc := 34) X rfl dX3_init_34 ?_
  refine gt_X3_31 (pc := 35) X ((bku_ne (by omega)).trans hI.1) rfl dX3_init_35 ?_
  refine r_iload_n (pc := 38) X rfl dX3_init_38 ?_
  refine r_aald (pc := 39) X ((bku_ne (by omega)).trans hI.2.1) rfl rfl (i) rfl hi (by decide) (if_pos hi) dX3_init_39 ?_
  refine pt_X3_37 (pc := 40) X bku_at (hn.trans rfl) rfl dX3_init_40 ?_
  refine bkV.eq bku_bku ?_
  refine r_aload_n (pc := 43) X rfl dX3_init_43 ?_
  refine r_aload_n (pc := 44) X rfl dX3_init_44 ?_
  refine gt_X3_39 (pc := 45) X ((bku_ne (by omega)).trans hI.1) rfl dX3_init_45 ?_
  refine r_iload_n (pc := 48) X rfl dX3_init_48 ?_
  refine r_aald (pc := 49) X ((bku_ne (by omega)).trans hI.2.2) rfl rfl (i) rfl hi (by decide) (if_pos hi) dX3_init_49 ?_
  refine pt_X3_42 (pc := 50) X bku_at (hn.trans rfl) rfl dX3_init_50 ?_
  refine bkV.eq bku_bku ?_
  refine r_aload_n (pc := 53) X rfl dX3_init_53 ?_
  refine r_iload_n (pc := 54) X rfl dX3_init_54 ?_
  refine pt_X3_44 (pc := 55) X bku_at  rfl dX3_init_55 ?_
  refine bkV.eq bku_bku ?_
  exact K dX3_init_58 (by rw [jS0_lt hi]; rfl)

theorem sC_L {G : bkG} {B b : Nat} {A K S : Nat → Option Nat} {M : bkM} : vL b [.inr (6, sO B b jS0), aI G 10 jz, aQ G 3 4 A, aQ G 4 4 K, aQ G 5 8 S] M = vW b 5 (sC G B b A K S) M := vW_cg (fun i hi => by
  have hi6 : i < 5 := hi
  match i, hi6 with
  | 0, _ => rfl
  | 1, _ =>
    show aI G 10 jz = aI G 10 (jrow jS0)
    rw [jrow_0]
  | 2, _ => rfl
  | 3, _ => rfl
  | 4, _ => rfl
  | i + 5, h => exact absurd h (by omega))
section SCW
variable {G : bkG} {B b n : Nat} {A K S : Nat → Option Nat} {M : bkM}
theorem sC_o (h : 0 < n) : vW b n (sC G B b A K S) M b = some (.inr (6, sO B b jS0)) := vW_at (j := 0) h
theorem sC_l (h : 2 < n) : vW b n (sC G B b A K S) M (b + 2) = some (aQ G 3 4 A) := vW_at (j := 2) h
theorem sC_k (h : 3 < n) : vW b n (sC G B b A K S) M (b + 3) = some (aQ G 4 4 K) := vW_at (j := 3) h
theorem sC_s (h : 4 < n) : vW b n (sC G B b A K S) M (b + 4) = some (aQ G 5 8 S) := vW_at (j := 4) h
theorem vW_n {c : Nat → va_E} {m : Nat} (h : n = m) : vW b n c M = vW b m c M := by rw [h]
end SCW
set_option maxHeartbeats 4000000 in
set_option maxRecDepth 100000 in
theorem c_X6_init {G : bkG} {M : bkM} {b B : Nat} (hI : bI G B M) (hB : B + 12 ≤ b) : bkCv G (fun z => z = b + 1) (fun z => z = b + 21) yX6_init cX6_init 3 2 20 126 [.ref b, .ref B] (bku M b (.inr (6, dfX6))) (fun M' => M' = sW G B b jS0 jg0 M) := by
  refine bk_metv [some (.ref b), some (.ref B), none] rfl pf_X6_init rfl rfl (fun E X hn K => ?_)
  refine bkV.eq vL_1 ?_
  refine r_aload_n (pc := 0) X rfl dX6_init_0 ?_
  refine r_objInit (pc := 1) X ml_X6_3 im_objectInit cd_objectInit rfl ⟨Nat.le_of_ble_eq_true rfl, Nat.le_of_ble_eq_true rfl⟩ dX6_init_1 ?_
  refine r_aload_n (pc := 4) X rfl dX6_init_4 ?_
  refine r_bipush (pc := 5) (v := 10) X rfl dX6_init_5 ?_
  refine r_newI (pc := 7) X (a := (b + 1)) 10 rfl (by decide) ac_int ⟨Nat.le_of_ble_eq_true rfl, Nat.le_of_ble_eq_true rfl⟩ dX6_init_7 ?_
  refine bkV.eq (show bku _ _ _ = vL b [.inr (6, [.null, .null, .null, .null, .null, .int 0, .int 0, .int 0]), aI G 10 jz] M from vL_add) ?_
  refine pt_X6_9 (pc := 9) X vL_h (hn.trans rfl) rfl dX6_init_9 ?_
  refine bkV.eq (show bku _ _ _ = vL b [.inr (6, [.null, .ref (b + 1), .null, .null, .null, .int 0, .int 0, .int 0]), aI G 10 jz] M from vL_put) ?_
  refine r_aload_n (pc := 12) X rfl dX6_init_12 ?_
  refine r_iconst (pc := 13) (v := 4) X rfl dX6_init_13 ?_
  refine r_newQ (pc := 14) X (a := (b + 2)) (t := 3) 4 rfl (by decide) cl_X6_15 X.nw.2.2.2.1 rfl ⟨Nat.le_of_ble_eq_true rfl, Nat.le_of_ble_eq_true rfl⟩ dX6_init_14 ?_
  refine bkV.eq (show bku _ _ _ = vL b [.inr (6, [.null, .ref (b + 1), .null, .null, .null, .int 0, .int 0, .int 0]), aI G 10 jz, aQ G 3 4 (fun _ => none)] M from vL_add) ?_
  refine pt_X6_17 (pc := 17) X vL_h (hn.trans rfl) rfl dX6_init_17 ?_
  refine bkV.eq (show bku _ _ _ = vL b [.inr (6, [.null, .ref (b + 1), .ref (b + 2), .null, .null, .int 0, .int 0, .int 0]), aI G 10 jz, aQ G 3 4 (fun _ => none)] M from vL_put) ?_
  refine r_aload_n (pc := 20) X rfl dX6_init_20 ?_
  refine r_iconst (pc := 21) (v := 4) X rfl dX6_init_21 ?_
  refine r_newQ (pc := 22) X (a := (b + 3)) (t := 4) 4 rfl (by decide) cl_X6_21 X.nw.2.2.1 rfl ⟨Nat.le_of_ble_eq_true rfl, Nat.le_of_ble_eq_true rfl⟩ dX6_init_22 ?_
  refine bkV.eq (show bku _ _ _ = vL b [.inr (6, [.null, .ref (b + 1), .ref (b + 2), .null, .null, .int 0, .int 0, .int 0]), aI G 10 jz, aQ G 3 4 (fun _ => none), aQ G 4 4 (fun _ => none)] M from vL_add) ?_
  refine pt_X6_23 (pc := 25) X vL_h (hn.trans rfl) rfl dX6_init_25 ?_
  refine bkV.eq (show bku _ _ _ = vL b [.inr (6, [.null, .ref (b + 1), .ref (b + 2), .ref (b + 3), .null, .int 0, .int 0, .int 0]), aI G 10 jz, aQ G 3 4 (fun _ => none), aQ G 4 4 (fun _ => none)] M from vL_put) ?_
  refine r_aload_n (pc := 28) X rfl dX6_init_28 ?_
  refine r_bipush (pc := 29) (v := 8) X rfl dX6_init_29 ?_
  refine r_newQ (pc := 31) X (a := (b + 4)) (t := 5) 8 rfl (by decide) cl_X6_27 X.nw.2.2.2.2.2.1 rfl ⟨Nat.le_of_ble_eq_true rfl, Nat.le_of_ble_eq_true rfl⟩ dX6_init_31 ?_
  refine bkV.eq (show bku _ _ _ = vL b [.inr (6, [.null, .ref (b + 1), .ref (b + 2), .ref (b + 3), .null, .int 0, .int 0, .int 0]), aI G 10 jz, aQ G 3 4 (fun _ => none), aQ G 4 4 (fun _ => none), aQ G 5 8 (fun _ => none)] M from vL_add) ?_
  refine pt_X6_29 (pc := 34) X vL_h (hn.trans rfl) rfl dX6_init_34 ?_
  refine bkV.eq (show bku _ _ _ = vL b [.inr (6, [.null, .ref (b + 1), .ref (b + 2), .ref (b + 3), .ref (b + 4), .int 0, .int 0, .int 0]), aI G 10 jz, aQ G 3 4 (fun _ => none), aQ G 4 4 (fun _ => none), aQ G 5 8 (fun _ => none)] M from vL_put) ?_
  refine r_aload_n (pc := 37) X rfl dX6_init_37 ?_
  refine r_iconst (pc := 38) (v := 0) X rfl dX6_init_38 ?_
  refine pt_X6_33 (pc := 39) X vL_h  rfl dX6_init_39 ?_
  refine bkV.eq (show bku _ _ _ = vL b [.inr (6, [.null, .ref (b + 1), .ref (b + 2), .ref (b + 3), .ref (b + 4), .int 0, .int 0, .int 0]), aI G 10 jz, aQ G 3 4 (fun _ => none), aQ G 4 4 (fun _ => none), aQ G 5 8 (fun _ => none)] M from vL_put) ?_
  refine r_aload_n (pc := 42) X rfl dX6_init_42 ?_
  refine r_iconst (pc := 43) (v := 2) X rfl dX6_init_43 ?_
  refine pt_X6_37 (pc := 44) X vL_h  rfl dX6_init_44 ?_
  refine bkV.eq (show bku _ _ _ = vL b [.inr (6, [.null, .ref (b + 1), .ref (b + 2), .ref (b + 3), .ref (b + 4), .int 0, .int 2, .int 0]), aI G 10 jz, aQ G 3 4 (fun _ => none), aQ G 4 4 (fun _ => none), aQ G 5 8 (fun _ => none)] M from vL_put) ?_
  refine r_aload_n (pc := 47) X rfl dX6_init_47 ?_
  refine r_iconst (pc := 48) (v := 0) X rfl dX6_init_48 ?_
  refine pt_X6_40 (pc := 49) X vL_h  rfl dX6_init_49 ?_
  refine bkV.eq (show bku _ _ _ = vL b [.inr (6, [.null, .ref (b + 1), .ref (b + 2), .ref (b + 3), .ref (b + 4), .int 0, .int 2, .int 0]), aI G 10 jz, aQ G 3 4 (fun _ => none), aQ G 4 4 (fun _ => none), aQ G 5 8 (fun _ => none)] M from vL_put) ?_
  refine r_aload_n (pc := 52) X rfl dX6_init_52 ?_
  refine r_aload_n (pc := 53) X rfl dX6_init_53 ?_
  refine pt_X6_43 (pc := 54) X vL_h (hn.trans rfl) rfl dX6_init_54 ?_
  refine bkV.eq (show bku _ _ _ = vL b [.inr (6, [.ref B, .ref (b + 1), .ref (b + 2), .ref (b + 3), .ref (b + 4), .int 0, .int 2, .int 0]), aI G 10 jz, aQ G 3 4 (fun _ => none), aQ G 4 4 (fun _ => none), aQ G 5 8 (fun _ => none)] M from vL_put) ?_
  refine r_iconst (pc := 57) (v := 0) X rfl dX6_init_57 ?_
  refine r_istore_n (pc := 58) X rfl rfl dX6_init_58 ?_
  have lp59 : ∀ (d j : Nat) (y : Int32), j ≤ 4 → 4 < j + d → (y = nI j) → bkV E G (fun z => z = b + (5 + 2 * j)) (4 + 2 * j) (26 + 13 * j) (vW b (5 + 2 * j) (sC G B b (jfl 4 j (fun i => b + 5 + 2 * i)) (jfl 4 j (fun i => b + 6 + 2 * i)) (jfl 8 0 (fun i => b + 13 + i))) M) 59 [some (.ref b), some (.ref B), some (.int y)] [] := by
    intro d
    induction d with
    | zero => intro j y; intros; exfalso; omega
    | succ d ih =>
      intro j y hj hd e1
      subst e1
      refine r_iload_n (pc := 59) X rfl dX6_init_59 ?_
      refine r_iconst (pc := 60) (v := 4) X rfl dX6_init_60 ?_
      refine r_icmpN_ge (pc := 61) X 98 (j) (4) rfl rfl (by omega) (by omega) (by decide) dX6_init_61 (fun q61 => ?_) (fun q61 => ?_)
      · skip
        obtain rfl : j = 4 := by omega
        refine r_iconst (pc := 98) (v := 0) X rfl dX6_init_98 ?_
        refine r_istore_n (pc := 99) X rfl rfl dX6_init_99 ?_
        have lp100 : ∀ (d2 i : Nat) (y : Int32), i ≤ 8 → 8 < i + d2 → (y = nI i) → bkV E G (fun z => z = b + (13 + i)) (12 + i) (78 + 6 * i) (vW b (13 + i) (sC G B b (jfl 4 4 (fun i => b + 5 + 2 * i)) (jfl 4 4 (fun i => b + 6 + 2 * i)) (jfl 8 i (fun i => b + 13 + i))) M) 100 [some (.ref b), some (.ref B), some (.int y)] [] := by
          intro d2
          induction d2 with
          | zero => intro i y; intros; exfalso; omega
          | succ d2 ih2 =>
            intro i y hj2 hd2 e21
            subst e21
            refine r_iload_n (pc := 100) X rfl dX6_init_100 ?_
            refine r_bipush (pc := 101) (v := 8) X rfl dX6_init_101 ?_
            refine r_icmpN_ge (pc := 103) X 125 (i) (8) rfl rfl (by omega) (by omega) (by decide) dX6_init_103 (fun q103 => ?_) (fun q103 => ?_)
            · skip
              obtain rfl : i = 8 := by omega
              refine bkV.z (Z2 := fun z => z = b + (21)) (fun z h => Eq.trans h (by omega)) ?_
              refine bkV.kn (k2 := 20) (n2 := 126) (by omega) (by omega) ?_
              exact K dX6_init_125 sC_W
            · skip
              refine r_aload_n (pc := 106) X rfl dX6_init_106 ?_
              refine gt_X6_29 (pc := 107) X (sC_o (by omega)) rfl dX6_init_107 ?_
              refine r_iload_n (pc := 110) X rfl dX6_init_110 ?_
              refine r_new (pc := 111) X (a := (b + (13 + i))) (ci := 5) rfl inX5 tyX5 tyX5_ok dfX5 dfX5_ok cl_X6_27 ins_X5 ini_X5 ⟨by show _ ≤ 20; omega, by show _ ≤ 126; omega⟩ dX6_init_111 ?_
              refine r_dup (pc := 114) X rfl dX6_init_114 ?_
              refine ca_X6_51 (pc := 115) X (c_X5_init bku_at) (bk_rm rfl rfl (by show _ ≤ 20; omega) (by show _ ≤ 126; omega)) rfl rfl dX6_init_115 (fun M115 hp115 => ?_)
              obtain rfl := hp115
              refine bkV.eq bku_bku ?_
              refine bkV.eq (vW_add (sC_sh.trans (by rw [jS0_sh (by omega)]))) ?_
              refine r_aast (pc := 118) X (sC_s (by omega)) rfl ((vW_at (j := 13 + i) (by omega)).trans (congrArg some sC_sh)) rfl (i) rfl (by omega) (by decide) dX6_init_118 ?_
              rw [jfl_up (N := 8) (j := i) (f := (fun i => b + 13 + i)) (show b + (13 + i) = b + 13 + i by omega)]
              refine bkV.eq (sC_4 (by omega)) ?_
              refine r_iinc (pc := 119) X rfl rfl rfl dX6_init_119 ?_
              refine r_goto (pc := 122) X 100 (by decide) dX6_init_122 ?_
              refine bkV.z (Z2 := fun z => z = b + (13 + (i + 1))) (fun z h => Eq.trans h (by omega)) ?_
              refine bkV.kn (k2 := 12 + (i + 1)) (n2 := 78 + 6 * (i + 1)) (by omega) (by omega) ?_
              exact ih2 (i + 1) _ (by omega) (by omega) (nI_1 i)
        exact lp100 (8 + 1) 0 _ (by omega) (by omega) rfl
      · skip
        refine r_aload_n (pc := 64) X rfl dX6_init_64 ?_
        refine gt_X6_17 (pc := 65) X (sC_o (by omega)) rfl dX6_init_65 ?_
        refine r_iload_n (pc := 68) X rfl dX6_init_68 ?_
        refine r_new (pc := 69) X (a := (b + (5 + 2 * j))) (ci := 3) rfl inX3 tyX3 tyX3_ok dfX3 dfX3_ok cl_X6_15 ins_X3 ini_X3 ⟨by show _ ≤ 20; omega, by show _ ≤ 126; omega⟩ dX6_init_69 ?_
        refine r_dup (pc := 72) X rfl dX6_init_72 ?_
        refine r_iload_n (pc := 73) X rfl dX6_init_73 ?_
        refine r_aload_n (pc := 74) X rfl dX6_init_74 ?_
        refine ca_X6_47 (pc := 75) X (c_X3_init (i := j) bku_at ((hI.vW (by omega)).ku (by omega)) (by omega) (by omega)) (bk_rm rfl rfl (by show _ ≤ 20; omega) (by show _ ≤ 126; omega)) rfl rfl dX6_init_75 (fun M75 hp75 => ?_)
        obtain rfl := hp75
        refine bkV.eq bku_bku ?_
        refine bkV.eq (vW_add (sC_lt (by omega))) ?_
        refine r_aast (pc := 78) X (sC_l (by omega)) rfl ((vW_at (j := 5 + 2 * j) (by omega)).trans (congrArg some (sC_lt (by omega)))) rfl (j) rfl (by omega) (by decide) dX6_init_78 ?_
        rw [jfl_up (N := 4) (j := j) (f := (fun i => b + 5 + 2 * i)) (show b + (5 + 2 * j) = b + 5 + 2 * j by omega)]
        refine bkV.eq (sC_2 (by omega)) ?_
        refine r_aload_n (pc := 79) X rfl dX6_init_79 ?_
        refine gt_X6_23 (pc := 80) X (sC_o (by omega)) rfl dX6_init_80 ?_
        refine r_iload_n (pc := 83) X rfl dX6_init_83 ?_
        refine bkV.z (Z2 := fun z => z = b + (6 + 2 * j)) (fun z h => Eq.trans h (by omega)) ?_
        refine bkV.eq (vW_n (show 5 + 2 * j + 1 = 6 + 2 * j by omega)) ?_
        refine r_new (pc := 84) X (a := (b + (6 + 2 * j))) (ci := 2) rfl inX2 tyX2 tyX2_ok dfX2 dfX2_ok cl_X6_21 ins_X2 ini_X2 ⟨by show _ ≤ 20; omega, by show _ ≤ 126; omega⟩ dX6_init_84 ?_
        refine r_dup (pc := 87) X rfl dX6_init_87 ?_
        refine ca_X6_50 (pc := 88) X (c_X2_init bku_at) (bk_rm rfl rfl (by show _ ≤ 20; omega) (by show _ ≤ 126; omega)) rfl rfl dX6_init_88 (fun M88 hp88 => ?_)
        obtain rfl := hp88
        refine bkV.eq bku_bku ?_
        refine bkV.eq (vW_add ((sC_kp (by omega)).trans (by rw [jS0_kp (by omega)]))) ?_
        refine r_aast (pc := 91) X (sC_k (by omega)) rfl ((vW_at (j := 6 + 2 * j) (by omega)).trans (congrArg some (sC_kp (by omega)))) rfl (j) rfl (by omega) (by decide) dX6_init_91 ?_
        rw [jfl_up (N := 4) (j := j) (f := (fun i => b + 6 + 2 * i)) (show b + (6 + 2 * j) = b + 6 + 2 * j by omega)]
        refine bkV.eq (sC_3 (by omega)) ?_
        refine r_iinc (pc := 92) X rfl rfl rfl dX6_init_92 ?_
        refine r_goto (pc := 95) X 59 (by decide) dX6_init_95 ?_
        refine bkV.z (Z2 := fun z => z = b + (5 + 2 * (j + 1))) (fun z h => Eq.trans h (by omega)) ?_
        refine bkV.kn (k2 := 4 + 2 * (j + 1)) (n2 := 26 + 13 * (j + 1)) (by omega) (by omega) ?_
        refine bkV.eq (vW_n (show 6 + 2 * j + 1 = 5 + 2 * (j + 1) by omega)) ?_
        exact ih (j + 1) _ (by omega) (by omega) (nI_1 j)
  refine bkV.eq (show _ = vW b 5 (sC G B b (fun _ => none) (fun _ => none) (fun _ => none)) M from sC_L) ?_
  refine bkV.ext3 (a := b + 2) (t := 3) (g := jfl 4 0 (fun i => b + 5 + 2 * i)) (sC_l (by omega)) (fun i hi => jfl_0 hi) ?_
  refine bkV.eq (sC_2 (by omega)) ?_
  refine bkV.ext3 (a := b + 3) (t := 4) (g := jfl 4 0 (fun i => b + 6 + 2 * i)) (sC_k (by omega)) (fun i hi => jfl_0 hi) ?_
  refine bkV.eq (sC_3 (by omega)) ?_
  refine bkV.ext3 (a := b + 4) (t := 5) (g := jfl 8 0 (fun i => b + 13 + i)) (sC_s (by omega)) (fun i hi => jfl_0 hi) ?_
  refine bkV.eq (sC_4 (by omega)) ?_
  refine bkV.z (Z2 := fun z => z = b + (5 + 2 * 0)) (fun z h => Eq.trans h (by omega)) ?_
  exact lp59 (4 + 1) 0 _ (by omega) (by omega) rfl

