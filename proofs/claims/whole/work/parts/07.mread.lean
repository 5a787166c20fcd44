set_option maxHeartbeats 4000000 in
set_option maxRecDepth 100000 in
theorem c_X9_in {G : bkG} {Z : Nat → Prop} {M : bkM} (v lo hi : Int32) : bkCi G Z Z yX9_in cX9_in 3 (some .boolean) 0 0 0 [.int v, .int lo, .int hi] M (fun x M' => x = bi (jin v lo hi) ∧ M' = M) := by
  refine bk_metz [some (.int v), some (.int lo), some (.int hi)] rfl pf_X9_in rfl rfl (fun E X K => ?_)
  refine r_iload_n (pc := 0) X rfl dX9_in_0 ?_
  refine r_iload_n (pc := 1) X rfl dX9_in_1 ?_
  refine r_icmp_lt (pc := 2) X 14 (by decide) dX9_in_2 (fun q2 => ?_) (fun q2 => ?_)
  · skip
    refine r_iconst (pc := 14) (v := 0) X rfl dX9_in_14 ?_
    exact K dX9_in_15 (by first | exact Or.inl rfl | exact Or.inr rfl) ⟨by clear K X; grind [bi, jin], rfl⟩
  · skip
    refine r_iload_n (pc := 5) X rfl dX9_in_5 ?_
    refine r_iload_n (pc := 6) X rfl dX9_in_6 ?_
    refine r_icmp_gt (pc := 7) X 14 (by decide) dX9_in_7 (fun q7 => ?_) (fun q7 => ?_)
    · skip
      refine r_iconst (pc := 14) (v := 0) X rfl dX9_in_14 ?_
      exact K dX9_in_15 (by first | exact Or.inl rfl | exact Or.inr rfl) ⟨by clear K X; grind [bi, jin], rfl⟩
    · skip
      refine r_iconst (pc := 10) (v := 1) X rfl dX9_in_10 ?_
      refine r_goto (pc := 11) X 15 (by decide) dX9_in_11 ?_
      exact K dX9_in_15 (by first | exact Or.inl rfl | exact Or.inr rfl) ⟨by clear K X; grind [bi, jin], rfl⟩

set_option maxHeartbeats 4000000 in
set_option maxRecDepth 100000 in
theorem c_X9_isCell {G : bkG} {Z : Nat → Prop} {M : bkM} (v : Int32) : bkCi G Z Z yX9_isCell cX9_isCell 1 (some .boolean) 1 0 0 [.int v] M (fun x M' => x = bi (jin v 0 99) ∧ M' = M) := by
  refine bk_metz [some (.int v)] rfl pf_X9_isCell rfl rfl (fun E X K => ?_)
  refine r_iload_n (pc := 0) X rfl dX9_isCell_0 ?_
  refine r_iconst (pc := 1) (v := 0) X rfl dX9_isCell_1 ?_
  refine r_bipush (pc := 2) (v := 99) X rfl dX9_isCell_2 ?_
  refine ca_X9_36 (pc := 4) X (c_X9_in v 0 99) rfl rfl rfl dX9_isCell_4 (fun r4 M4 hp4 => ?_)
  obtain ⟨rfl, rfl⟩ := hp4
  exact K dX9_isCell_7 (bi_01 _) ⟨rfl, rfl⟩

set_option maxHeartbeats 4000000 in
set_option maxRecDepth 100000 in
theorem c_X9_isLight {G : bkG} {Z : Nat → Prop} {M : bkM} (v : Int32) : bkCi G Z Z yX9_isLight cX9_isLight 1 (some .boolean) 1 0 0 [.int v] M (fun x M' => x = bi (jin v 0 3) ∧ M' = M) := by
  refine bk_metz [some (.int v)] rfl pf_X9_isLight rfl rfl (fun E X K => ?_)
  refine r_iload_n (pc := 0) X rfl dX9_isLight_0 ?_
  refine r_iconst (pc := 1) (v := 0) X rfl dX9_isLight_1 ?_
  refine r_iconst (pc := 2) (v := 3) X rfl dX9_isLight_2 ?_
  refine ca_X9_36 (pc := 3) X (c_X9_in v 0 3) rfl rfl rfl dX9_isLight_3 (fun r3 M3 hp3 => ?_)
  obtain ⟨rfl, rfl⟩ := hp3
  exact K dX9_isLight_6 (bi_01 _) ⟨rfl, rfl⟩

set_option maxHeartbeats 4000000 in
set_option maxRecDepth 100000 in
theorem c_X9_ofL {G : bkG} {Z : Nat → Prop} {M : bkM} (l w : Nat) : bkCi G Z Z yX9_ofL cX9_ofL 2 (some .int) 0 0 0 [.int (nI l), .int (nI w)] M (fun x M' => x = nI (100 + 5 * l + w) ∧ M' = M) := by
  refine bk_meti [some (.int (nI l)), some (.int (nI w))] rfl pf_X9_ofL rfl rfl (fun E X K => ?_)
  refine r_bipush (pc := 0) (v := 100) X rfl dX9_ofL_0 ?_
  refine r_iconst (pc := 2) (v := 5) X rfl dX9_ofL_2 ?_
  refine r_iload_n (pc := 3) X rfl dX9_ofL_3 ?_
  refine r_imul (pc := 4) X dX9_ofL_4 ?_
  refine r_iadd (pc := 5) X dX9_ofL_5 ?_
  refine r_iload_n (pc := 6) X rfl dX9_ofL_6 ?_
  refine r_iadd (pc := 7) X dX9_ofL_7 ?_
  exact K dX9_ofL_8 ⟨by rw [← nI_add, ← nI_add, ← pk_mul]; rfl, rfl⟩

set_option maxHeartbeats 4000000 in
set_option maxRecDepth 100000 in
theorem c_X9_ofK {G : bkG} {Z : Nat → Prop} {M : bkM} (l w : Nat) : bkCi G Z Z yX9_ofK cX9_ofK 2 (some .int) 0 0 0 [.int (nI l), .int (nI w)] M (fun x M' => x = nI (120 + 5 * l + w) ∧ M' = M) := by
  refine bk_meti [some (.int (nI l)), some (.int (nI w))] rfl pf_X9_ofK rfl rfl (fun E X K => ?_)
  refine r_bipush (pc := 0) (v := 120) X rfl dX9_ofK_0 ?_
  refine r_iconst (pc := 2) (v := 5) X rfl dX9_ofK_2 ?_
  refine r_iload_n (pc := 3) X rfl dX9_ofK_3 ?_
  refine r_imul (pc := 4) X dX9_ofK_4 ?_
  refine r_iadd (pc := 5) X dX9_ofK_5 ?_
  refine r_iload_n (pc := 6) X rfl dX9_ofK_6 ?_
  refine r_iadd (pc := 7) X dX9_ofK_7 ?_
  exact K dX9_ofK_8 ⟨by rw [← nI_add, ← nI_add, ← pk_mul]; rfl, rfl⟩

set_option maxHeartbeats 4000000 in
set_option maxRecDepth 100000 in
theorem c_X9_ofS {G : bkG} {Z : Nat → Prop} {M : bkM} (l w : Nat) : bkCi G Z Z yX9_ofS cX9_ofS 2 (some .int) 0 0 0 [.int (nI l), .int (nI w)] M (fun x M' => x = nI (140 + 5 * l + w) ∧ M' = M) := by
  refine bk_meti [some (.int (nI l)), some (.int (nI w))] rfl pf_X9_ofS rfl rfl (fun E X K => ?_)
  refine r_sipush (pc := 0) (v := 140) X rfl dX9_ofS_0 ?_
  refine r_iconst (pc := 3) (v := 5) X rfl dX9_ofS_3 ?_
  refine r_iload_n (pc := 4) X rfl dX9_ofS_4 ?_
  refine r_imul (pc := 5) X dX9_ofS_5 ?_
  refine r_iadd (pc := 6) X dX9_ofS_6 ?_
  refine r_iload_n (pc := 7) X rfl dX9_ofS_7 ?_
  refine r_iadd (pc := 8) X dX9_ofS_8 ?_
  exact K dX9_ofS_9 ⟨by rw [← nI_add, ← nI_add, ← pk_mul]; rfl, rfl⟩

set_option maxHeartbeats 4000000 in
set_option maxRecDepth 100000 in
theorem c_X9_home {G : bkG} {Z : Nat → Prop} {M : bkM} (l : Nat) (hl : l < 4) : bkCi G Z Z yX9_home cX9_home 1 (some .int) 0 0 0 [.int (nI l)] M (fun x M' => x = nI (jhm l) ∧ M' = M) := by
  refine bk_meti [some (.int (nI l))] rfl pf_X9_home rfl rfl (fun E X K => ?_)
  refine r_iload_n (pc := 0) X rfl dX9_home_0 ?_
  refine r_if_ne (pc := 1) X 9 (by decide) dX9_home_1 (fun q1 => ?_) (fun q1 => ?_)
  · skip
    refine r_iload_n (pc := 9) X rfl dX9_home_9 ?_
    refine r_iconst (pc := 10) (v := 1) X rfl dX9_home_10 ?_
    refine r_icmp_ne (pc := 11) X 19 (by decide) dX9_home_11 (fun q11 => ?_) (fun q11 => ?_)
    · skip
      refine r_iload_n (pc := 19) X rfl dX9_home_19 ?_
      refine r_iconst (pc := 20) (v := 2) X rfl dX9_home_20 ?_
      refine r_icmp_ne (pc := 21) X 29 (by decide) dX9_home_21 (fun q21 => ?_) (fun q21 => ?_)
      · skip
        refine r_bipush (pc := 29) (v := 77) X rfl dX9_home_29 ?_
        exact K dX9_home_31 ⟨by rcases (show l = 0 ∨ l = 1 ∨ l = 2 ∨ l = 3 by omega) with rfl | rfl | rfl | rfl <;> first | rfl | (exfalso; revert q1 q11 q21; decide), rfl⟩
      · skip
        refine r_bipush (pc := 24) (v := 72) X rfl dX9_home_24 ?_
        refine r_goto (pc := 26) X 31 (by decide) dX9_home_26 ?_
        exact K dX9_home_31 ⟨by rcases (show l = 0 ∨ l = 1 ∨ l = 2 ∨ l = 3 by omega) with rfl | rfl | rfl | rfl <;> first | rfl | (exfalso; revert q1 q11 q21; decide), rfl⟩
    · skip
      refine r_bipush (pc := 14) (v := 27) X rfl dX9_home_14 ?_
      refine r_goto (pc := 16) X 31 (by decide) dX9_home_16 ?_
      exact K dX9_home_31 ⟨by rcases (show l = 0 ∨ l = 1 ∨ l = 2 ∨ l = 3 by omega) with rfl | rfl | rfl | rfl <;> first | rfl | (exfalso; revert q1 q11; decide), rfl⟩
  · skip
    refine r_bipush (pc := 4) (v := 22) X rfl dX9_home_4 ?_
    refine r_goto (pc := 6) X 31 (by decide) dX9_home_6 ?_
    exact K dX9_home_31 ⟨by rcases (show l = 0 ∨ l = 1 ∨ l = 2 ∨ l = 3 by omega) with rfl | rfl | rfl | rfl <;> first | rfl | (exfalso; revert q1; decide), rfl⟩

set_option maxHeartbeats 4000000 in
set_option maxRecDepth 100000 in
theorem c_X9_isHome {G : bkG} {Z : Nat → Prop} {M : bkM} (v : Int32) : bkCi G Z Z yX9_isHome cX9_isHome 1 (some .boolean) 0 0 0 [.int v] M (fun x M' => x = bi (decide (v = 22) || decide (v = 27) || decide (v = 72) || decide (v = 77)) ∧ M' = M) := by
  refine bk_metz [some (.int v)] rfl pf_X9_isHome rfl rfl (fun E X K => ?_)
  refine r_iload_n (pc := 0) X rfl dX9_isHome_0 ?_
  refine r_bipush (pc := 1) (v := 22) X rfl dX9_isHome_1 ?_
  refine r_icmp_eq (pc := 3) X 24 (by decide) dX9_isHome_3 (fun q3 => ?_) (fun q3 => ?_)
  · skip
    refine r_iconst (pc := 24) (v := 1) X rfl dX9_isHome_24 ?_
    refine r_goto (pc := 25) X 29 (by decide) dX9_isHome_25 ?_
    exact K dX9_isHome_29 (by first | exact Or.inl rfl | exact Or.inr rfl) ⟨by simp [bi, q3], rfl⟩
  · skip
    refine r_iload_n (pc := 6) X rfl dX9_isHome_6 ?_
    refine r_bipush (pc := 7) (v := 27) X rfl dX9_isHome_7 ?_
    refine r_icmp_eq (pc := 9) X 24 (by decide) dX9_isHome_9 (fun q9 => ?_) (fun q9 => ?_)
    · skip
      refine r_iconst (pc := 24) (v := 1) X rfl dX9_isHome_24 ?_
      refine r_goto (pc := 25) X 29 (by decide) dX9_isHome_25 ?_
      exact K dX9_isHome_29 (by first | exact Or.inl rfl | exact Or.inr rfl) ⟨by simp [bi, q3, q9], rfl⟩
    · skip
      refine r_iload_n (pc := 12) X rfl dX9_isHome_12 ?_
      refine r_bipush (pc := 13) (v := 72) X rfl dX9_isHome_13 ?_
      refine r_icmp_eq (pc := 15) X 24 (by decide) dX9_isHome_15 (fun q15 => ?_) (fun q15 => ?_)
      · skip
        refine r_iconst (pc := 24) (v := 1) X rfl dX9_isHome_24 ?_
        refine r_goto (pc := 25) X 29 (by decide) dX9_isHome_25 ?_
        exact K dX9_isHome_29 (by first | exact Or.inl rfl | exact Or.inr rfl) ⟨by simp [bi, q3, q9, q15], rfl⟩
      · skip
        refine r_iload_n (pc := 18) X rfl dX9_isHome_18 ?_
        refine r_bipush (pc := 19) (v := 77) X rfl dX9_isHome_19 ?_
        refine r_icmp_ne (pc := 21) X 28 (by decide) dX9_isHome_21 (fun q21 => ?_) (fun q21 => ?_)
        · skip
          refine r_iconst (pc := 28) (v := 0) X rfl dX9_isHome_28 ?_
          exact K dX9_isHome_29 (by first | exact Or.inl rfl | exact Or.inr rfl) ⟨by simp [bi, q3, q9, q15, q21], rfl⟩
        · skip
          refine r_iconst (pc := 24) (v := 1) X rfl dX9_isHome_24 ?_
          refine r_goto (pc := 25) X 29 (by decide) dX9_isHome_25 ?_
          exact K dX9_isHome_29 (by first | exact Or.inl rfl | exact Or.inr rfl) ⟨by simp [bi, q3, q9, q15, q21], rfl⟩

set_option maxHeartbeats 4000000 in
set_option maxRecDepth 100000 in
theorem c_X9_size {G : bkG} {Z : Nat → Prop} {M : bkM} (v : Int32) : bkCi G Z Z yX9_size cX9_size 1 (some .int) 0 0 0 [.int v] M (fun x M' => x = jsz v ∧ M' = M) := by
  refine bk_meti [some (.int v)] rfl pf_X9_size rfl rfl (fun E X K => ?_)
  refine r_iload_n (pc := 0) X rfl dX9_size_0 ?_
  refine r_if_ge (pc := 1) X 9 (by decide) dX9_size_1 (fun q1 => ?_) (fun q1 => ?_)
  · skip
    refine r_iload_n (pc := 9) X rfl dX9_size_9 ?_
    exact K dX9_size_10 ⟨by unfold jsz; first | (rw [if_pos (Int32.not_le.mp q1)]) | (rw [if_neg (Int32.not_lt.mpr q1)]), rfl⟩
  · skip
    refine r_iload_n (pc := 4) X rfl dX9_size_4 ?_
    refine r_ineg (pc := 5) X dX9_size_5 ?_
    refine r_goto (pc := 6) X 10 (by decide) dX9_size_6 ?_
    exact K dX9_size_10 ⟨by unfold jsz; first | (rw [if_pos (Int32.not_le.mp q1)]) | (rw [if_neg (Int32.not_lt.mpr q1)]), rfl⟩

set_option maxHeartbeats 4000000 in
set_option maxRecDepth 100000 in
theorem c_X9_east {G : bkG} {Z : Nat → Prop} {M : bkM} (x y : Nat) (hx : x < 100) (hy : y < 100) : bkCi G Z Z yX9_east cX9_east 2 (some .int) 0 0 0 [.int (nI x), .int (nI y)] M (fun v M' => v = jea x y ∧ M' = M) := by
  refine bk_meti [some (.int (nI x)), some (.int (nI y))] rfl pf_X9_east rfl rfl (fun E X K => ?_)
  refine r_iload_n (pc := 0) X rfl dX9_east_0 ?_
  refine r_bipush (pc := 1) (v := 10) X rfl dX9_east_1 ?_
  refine r_irem (pc := 3) X (by decide) dX9_east_3 ?_
  refine r_iload_n (pc := 4) X rfl dX9_east_4 ?_
  refine r_bipush (pc := 5) (v := 10) X rfl dX9_east_5 ?_
  refine r_irem (pc := 7) X (by decide) dX9_east_7 ?_
  refine r_isub (pc := 8) X dX9_east_8 ?_
  exact K dX9_east_9 ⟨congr (congrArg HSub.hSub (bk_rem (d := 10) (by omega) (by omega) (by omega))) (bk_rem (d := 10) (by omega) (by omega) (by omega)), rfl⟩

set_option maxHeartbeats 4000000 in
set_option maxRecDepth 100000 in
theorem c_X9_south {G : bkG} {Z : Nat → Prop} {M : bkM} (x y : Nat) (hx : x < 100) (hy : y < 100) : bkCi G Z Z yX9_south cX9_south 2 (some .int) 0 0 0 [.int (nI x), .int (nI y)] M (fun v M' => v = jso x y ∧ M' = M) := by
  refine bk_meti [some (.int (nI x)), some (.int (nI y))] rfl pf_X9_south rfl rfl (fun E X K => ?_)
  refine r_iload_n (pc := 0) X rfl dX9_south_0 ?_
  refine r_bipush (pc := 1) (v := 10) X rfl dX9_south_1 ?_
  refine r_idiv (pc := 3) X (by decide) dX9_south_3 ?_
  refine r_iload_n (pc := 4) X rfl dX9_south_4 ?_
  refine r_bipush (pc := 5) (v := 10) X rfl dX9_south_5 ?_
  refine r_idiv (pc := 7) X (by decide) dX9_south_7 ?_
  refine r_isub (pc := 8) X dX9_south_8 ?_
  exact K dX9_south_9 ⟨congr (congrArg HSub.hSub (pk_div (d := 10) (by omega) (by omega) (by omega))) (pk_div (d := 10) (by omega) (by omega) (by omega)), rfl⟩

set_option maxHeartbeats 4000000 in
set_option maxRecDepth 100000 in
theorem c_X9_distance {G : bkG} {Z : Nat → Prop} {M : bkM} (x y : Nat) (hx : x < 100) (hy : y < 100) : bkCi G Z Z yX9_distance cX9_distance 4 (some .int) 1 0 0 [.int (nI x), .int (nI y)] M (fun v M' => v = jds x y ∧ M' = M) := by
  refine bk_meti [some (.int (nI x)), some (.int (nI y)), none, none] rfl pf_X9_distance rfl rfl (fun E X K => ?_)
  refine r_iload_n (pc := 0) X rfl dX9_distance_0 ?_
  refine r_iload_n (pc := 1) X rfl dX9_distance_1 ?_
  refine ca_X9_44 (pc := 2) X (c_X9_east x y hx hy) rfl rfl rfl dX9_distance_2 (fun r2 M2 hp2 => ?_)
  obtain ⟨rfl, rfl⟩ := hp2
  refine ca_X9_47 (pc := 5) X (c_X9_size (jea x y)) rfl rfl rfl dX9_distance_5 (fun r5 M5 hp5 => ?_)
  obtain ⟨rfl, rfl⟩ := hp5
  refine r_istore_n (pc := 8) X rfl rfl dX9_distance_8 ?_
  refine r_iload_n (pc := 9) X rfl dX9_distance_9 ?_
  refine r_iload_n (pc := 10) X rfl dX9_distance_10 ?_
  refine ca_X9_51 (pc := 11) X (c_X9_south x y hx hy) rfl rfl rfl dX9_distance_11 (fun r11 M11 hp11 => ?_)
  obtain ⟨rfl, rfl⟩ := hp11
  refine ca_X9_47 (pc := 14) X (c_X9_size (jso x y)) rfl rfl rfl dX9_distance_14 (fun r14 M14 hp14 => ?_)
  obtain ⟨rfl, rfl⟩ := hp14
  refine r_istore_n (pc := 17) X rfl rfl dX9_distance_17 ?_
  refine r_iload_n (pc := 18) X rfl dX9_distance_18 ?_
  refine r_iload_n (pc := 19) X rfl dX9_distance_19 ?_
  refine r_icmp_le (pc := 20) X 27 (by decide) dX9_distance_20 (fun q20 => ?_) (fun q20 => ?_)
  · skip
    refine r_iload_n (pc := 27) X rfl dX9_distance_27 ?_
    exact K dX9_distance_28 ⟨by unfold jds; first | rw [if_pos (Int32.not_le.mp q20)] | rw [if_neg (Int32.not_lt.mpr q20)], rfl⟩
  · skip
    refine r_iload_n (pc := 23) X rfl dX9_distance_23 ?_
    refine r_goto (pc := 24) X 28 (by decide) dX9_distance_24 ?_
    exact K dX9_distance_28 ⟨by unfold jds; first | rw [if_pos (Int32.not_le.mp q20)] | rw [if_neg (Int32.not_lt.mpr q20)], rfl⟩

set_option maxHeartbeats 4000000 in
set_option maxRecDepth 100000 in
theorem c_X9_wind {G : bkG} {Z : Nat → Prop} {M : bkM} (l c : Nat) (hl : l < 4) (hc : c < 100) : bkCi G Z Z yX9_wind cX9_wind 4 (some .int) 1 0 0 [.int (nI l), .int (nI c)] M (fun v M' => v = jwd l c ∧ M' = M) := by
  refine bk_meti [some (.int (nI l)), some (.int (nI c)), none, none] rfl pf_X9_wind rfl rfl (fun E X K => ?_)
  refine r_iload_n (pc := 0) X rfl dX9_wind_0 ?_
  refine ca_X9_54 (pc := 1) X (c_X9_home l hl) rfl rfl rfl dX9_wind_1 (fun r1 M1 hp1 => ?_)
  obtain ⟨rfl, rfl⟩ := hp1
  refine r_iload_n (pc := 4) X rfl dX9_wind_4 ?_
  refine ca_X9_44 (pc := 5) X (c_X9_east (jhm l) c (jhm_lt l) hc) rfl rfl rfl dX9_wind_5 (fun r5 M5 hp5 => ?_)
  obtain ⟨rfl, rfl⟩ := hp5
  refine r_istore_n (pc := 8) X rfl rfl dX9_wind_8 ?_
  refine r_iload_n (pc := 9) X rfl dX9_wind_9 ?_
  refine ca_X9_54 (pc := 10) X (c_X9_home l hl) rfl rfl rfl dX9_wind_10 (fun r10 M10 hp10 => ?_)
  obtain ⟨rfl, rfl⟩ := hp10
  refine r_iload_n (pc := 13) X rfl dX9_wind_13 ?_
  refine ca_X9_51 (pc := 14) X (c_X9_south (jhm l) c (jhm_lt l) hc) rfl rfl rfl dX9_wind_14 (fun r14 M14 hp14 => ?_)
  obtain ⟨rfl, rfl⟩ := hp14
  refine r_istore_n (pc := 17) X rfl rfl dX9_wind_17 ?_
  refine r_iload_n (pc := 18) X rfl dX9_wind_18 ?_
  refine r_if_ne (pc := 19) X 29 (by decide) dX9_wind_19 (fun q19 => ?_) (fun q19 => ?_)
  · skip
    refine r_iconst (pc := 29) (v := 2) X rfl dX9_wind_29 ?_
    refine r_iload_n (pc := 30) X rfl dX9_wind_30 ?_
    refine ca_X9_47 (pc := 31) X (c_X9_size (jso (jhm l) c)) rfl rfl rfl dX9_wind_31 (fun r31 M31 hp31 => ?_)
    obtain ⟨rfl, rfl⟩ := hp31
    refine r_imul (pc := 34) X dX9_wind_34 ?_
    refine r_iload_n (pc := 35) X rfl dX9_wind_35 ?_
    refine ca_X9_47 (pc := 36) X (c_X9_size (jea (jhm l) c)) rfl rfl rfl dX9_wind_36 (fun r36 M36 hp36 => ?_)
    obtain ⟨rfl, rfl⟩ := hp36
    refine r_icmp_gt (pc := 39) X 52 (by decide) dX9_wind_39 (fun q39 => ?_) (fun q39 => ?_)
    · skip
      refine r_iconst (pc := 52) (v := 2) X rfl dX9_wind_52 ?_
      refine r_iload_n (pc := 53) X rfl dX9_wind_53 ?_
      refine ca_X9_47 (pc := 54) X (c_X9_size (jea (jhm l) c)) rfl rfl rfl dX9_wind_54 (fun r54 M54 hp54 => ?_)
      obtain ⟨rfl, rfl⟩ := hp54
      refine r_imul (pc := 57) X dX9_wind_57 ?_
      refine r_iload_n (pc := 58) X rfl dX9_wind_58 ?_
      refine ca_X9_47 (pc := 59) X (c_X9_size (jso (jhm l) c)) rfl rfl rfl dX9_wind_59 (fun r59 M59 hp59 => ?_)
      obtain ⟨rfl, rfl⟩ := hp59
      refine r_icmp_gt (pc := 62) X 76 (by decide) dX9_wind_62 (fun q62 => ?_) (fun q62 => ?_)
      · skip
        refine r_iload_n (pc := 76) X rfl dX9_wind_76 ?_
        refine r_if_le (pc := 77) X 92 (by decide) dX9_wind_77 (fun q77 => ?_) (fun q77 => ?_)
        · skip
          refine r_iload_n (pc := 92) X rfl dX9_wind_92 ?_
          refine r_if_le (pc := 93) X 101 (by decide) dX9_wind_93 (fun q93 => ?_) (fun q93 => ?_)
          · skip
            refine r_iconst (pc := 101) (v := 5) X rfl dX9_wind_101 ?_
            exact K dX9_wind_102 ⟨by clear K X; unfold jwd jwd2; (try rw [Int32.not_le.symm] at *); grind, rfl⟩
          · skip
            refine r_bipush (pc := 96) (v := 7) X rfl dX9_wind_96 ?_
            refine r_goto (pc := 98) X 102 (by decide) dX9_wind_98 ?_
            exact K dX9_wind_102 ⟨by clear K X; unfold jwd jwd2; (try rw [Int32.not_le.symm] at *); grind, rfl⟩
        · skip
          refine r_iload_n (pc := 80) X rfl dX9_wind_80 ?_
          refine r_if_le (pc := 81) X 88 (by decide) dX9_wind_81 (fun q81 => ?_) (fun q81 => ?_)
          · skip
            refine r_iconst (pc := 88) (v := 3) X rfl dX9_wind_88 ?_
            refine r_goto (pc := 89) X 102 (by decide) dX9_wind_89 ?_
            exact K dX9_wind_102 ⟨by clear K X; unfold jwd jwd2; (try rw [Int32.not_le.symm] at *); grind, rfl⟩
          · skip
            refine r_iconst (pc := 84) (v := 1) X rfl dX9_wind_84 ?_
            refine r_goto (pc := 85) X 102 (by decide) dX9_wind_85 ?_
            exact K dX9_wind_102 ⟨by clear K X; unfold jwd jwd2; (try rw [Int32.not_le.symm] at *); grind, rfl⟩
      · skip
        refine r_iload_n (pc := 65) X rfl dX9_wind_65 ?_
        refine r_if_le (pc := 66) X 73 (by decide) dX9_wind_66 (fun q66 => ?_) (fun q66 => ?_)
        · skip
          refine r_bipush (pc := 73) (v := 6) X rfl dX9_wind_73 ?_
          exact K dX9_wind_75 ⟨by clear K X; unfold jwd jwd2; (try rw [Int32.not_le.symm] at *); grind, rfl⟩
        · skip
          refine r_iconst (pc := 69) (v := 2) X rfl dX9_wind_69 ?_
          refine r_goto (pc := 70) X 75 (by decide) dX9_wind_70 ?_
          exact K dX9_wind_75 ⟨by clear K X; unfold jwd jwd2; (try rw [Int32.not_le.symm] at *); grind, rfl⟩
    · skip
      refine r_iload_n (pc := 42) X rfl dX9_wind_42 ?_
      refine r_if_le (pc := 43) X 50 (by decide) dX9_wind_43 (fun q43 => ?_) (fun q43 => ?_)
      · skip
        refine r_iconst (pc := 50) (v := 4) X rfl dX9_wind_50 ?_
        exact K dX9_wind_51 ⟨by clear K X; unfold jwd jwd2; (try rw [Int32.not_le.symm] at *); grind, rfl⟩
      · skip
        refine r_iconst (pc := 46) (v := 0) X rfl dX9_wind_46 ?_
        refine r_goto (pc := 47) X 51 (by decide) dX9_wind_47 ?_
        exact K dX9_wind_51 ⟨by clear K X; unfold jwd jwd2; (try rw [Int32.not_le.symm] at *); grind, rfl⟩
  · skip
    refine r_iload_n (pc := 22) X rfl dX9_wind_22 ?_
    refine r_if_ne (pc := 23) X 29 (by decide) dX9_wind_23 (fun q23 => ?_) (fun q23 => ?_)
    · skip
      refine r_iconst (pc := 29) (v := 2) X rfl dX9_wind_29 ?_
      refine r_iload_n (pc := 30) X rfl dX9_wind_30 ?_
      refine ca_X9_47 (pc := 31) X (c_X9_size (jso (jhm l) c)) rfl rfl rfl dX9_wind_31 (fun r31 M31 hp31 => ?_)
      obtain ⟨rfl, rfl⟩ := hp31
      refine r_imul (pc := 34) X dX9_wind_34 ?_
      refine r_iload_n (pc := 35) X rfl dX9_wind_35 ?_
      refine ca_X9_47 (pc := 36) X (c_X9_size (jea (jhm l) c)) rfl rfl rfl dX9_wind_36 (fun r36 M36 hp36 => ?_)
      obtain ⟨rfl, rfl⟩ := hp36
      refine r_icmp_gt (pc := 39) X 52 (by decide) dX9_wind_39 (fun q39 => ?_) (fun q39 => ?_)
      · skip
        refine r_iconst (pc := 52) (v := 2) X rfl dX9_wind_52 ?_
        refine r_iload_n (pc := 53) X rfl dX9_wind_53 ?_
        refine ca_X9_47 (pc := 54) X (c_X9_size (jea (jhm l) c)) rfl rfl rfl dX9_wind_54 (fun r54 M54 hp54 => ?_)
        obtain ⟨rfl, rfl⟩ := hp54
        refine r_imul (pc := 57) X dX9_wind_57 ?_
        refine r_iload_n (pc := 58) X rfl dX9_wind_58 ?_
        refine ca_X9_47 (pc := 59) X (c_X9_size (jso (jhm l) c)) rfl rfl rfl dX9_wind_59 (fun r59 M59 hp59 => ?_)
        obtain ⟨rfl, rfl⟩ := hp59
        refine r_icmp_gt (pc := 62) X 76 (by decide) dX9_wind_62 (fun q62 => ?_) (fun q62 => ?_)
        · skip
          refine r_iload_n (pc := 76) X rfl dX9_wind_76 ?_
          refine r_if_le (pc := 77) X 92 (by decide) dX9_wind_77 (fun q77 => ?_) (fun q77 => ?_)
          · skip
            refine r_iload_n (pc := 92) X rfl dX9_wind_92 ?_
            refine r_if_le (pc := 93) X 101 (by decide) dX9_wind_93 (fun q93 => ?_) (fun q93 => ?_)
            · skip
              refine r_iconst (pc := 101) (v := 5) X rfl dX9_wind_101 ?_
              exact K dX9_wind_102 ⟨by clear K X; unfold jwd jwd2; (try rw [Int32.not_le.symm] at *); grind, rfl⟩
            · skip
              refine r_bipush (pc := 96) (v := 7) X rfl dX9_wind_96 ?_
              refine r_goto (pc := 98) X 102 (by decide) dX9_wind_98 ?_
              exact K dX9_wind_102 ⟨by clear K X; unfold jwd jwd2; (try rw [Int32.not_le.symm] at *); grind, rfl⟩
          · skip
            refine r_iload_n (pc := 80) X rfl dX9_wind_80 ?_
            refine r_if_le (pc := 81) X 88 (by decide) dX9_wind_81 (fun q81 => ?_) (fun q81 => ?_)
            · skip
              refine r_iconst (pc := 88) (v := 3) X rfl dX9_wind_88 ?_
              refine r_goto (pc := 89) X 102 (by decide) dX9_wind_89 ?_
              exact K dX9_wind_102 ⟨by clear K X; unfold jwd jwd2; (try rw [Int32.not_le.symm] at *); grind, rfl⟩
            · skip
              refine r_iconst (pc := 84) (v := 1) X rfl dX9_wind_84 ?_
              refine r_goto (pc := 85) X 102 (by decide) dX9_wind_85 ?_
              exact K dX9_wind_102 ⟨by clear K X; unfold jwd jwd2; (try rw [Int32.not_le.symm] at *); grind, rfl⟩
        · skip
          refine r_iload_n (pc := 65) X rfl dX9_wind_65 ?_
          refine r_if_le (pc := 66) X 73 (by decide) dX9_wind_66 (fun q66 => ?_) (fun q66 => ?_)
          · skip
            refine r_bipush (pc := 73) (v := 6) X rfl dX9_wind_73 ?_
            exact K dX9_wind_75 ⟨by clear K X; unfold jwd jwd2; (try rw [Int32.not_le.symm] at *); grind, rfl⟩
          · skip
            refine r_iconst (pc := 69) (v := 2) X rfl dX9_wind_69 ?_
            refine r_goto (pc := 70) X 75 (by decide) dX9_wind_70 ?_
            exact K dX9_wind_75 ⟨by clear K X; unfold jwd jwd2; (try rw [Int32.not_le.symm] at *); grind, rfl⟩
      · skip
        refine r_iload_n (pc := 42) X rfl dX9_wind_42 ?_
        refine r_if_le (pc := 43) X 50 (by decide) dX9_wind_43 (fun q43 => ?_) (fun q43 => ?_)
        · skip
          refine r_iconst (pc := 50) (v := 4) X rfl dX9_wind_50 ?_
          exact K dX9_wind_51 ⟨by clear K X; unfold jwd jwd2; (try rw [Int32.not_le.symm] at *); grind, rfl⟩
        · skip
          refine r_iconst (pc := 46) (v := 0) X rfl dX9_wind_46 ?_
          refine r_goto (pc := 47) X 51 (by decide) dX9_wind_47 ?_
          exact K dX9_wind_51 ⟨by clear K X; unfold jwd jwd2; (try rw [Int32.not_le.symm] at *); grind, rfl⟩
    · skip
      refine r_bipush (pc := 26) (v := (-5)) X rfl dX9_wind_26 ?_
      exact K dX9_wind_28 ⟨by clear K X; unfold jwd jwd2; (try rw [Int32.not_le.symm] at *); grind, rfl⟩

set_option maxHeartbeats 4000000 in
set_option maxRecDepth 100000 in
theorem c_X9_beam {G : bkG} {Z : Nat → Prop} {M : bkM} {r : Nat} {s a p q t o f : Nat → Int32} (l : Nat) (hl : l < 4) (hr : Int32) : bkCi G Z Z yX9_beam cX9_beam 3 (some .int) 1 0 0 [.ref r, .int (nI l), .int hr] (mW G M r s a p q t o f) (fun v M' => v = jbm s l hr ∧ M' = mW G M r s a p q t o f) := by
  refine bk_meti [some (.ref r), some (.int (nI l)), some (.int hr)] rfl pf_X9_beam rfl rfl (fun E X K => ?_)
  refine r_aload_n (pc := 0) X rfl dX9_beam_0 ?_
  refine gt_X9_7 (pc := 1) X mW_0 rfl dX9_beam_1 ?_
  refine r_iload_n (pc := 4) X rfl dX9_beam_4 ?_
  refine r_iconst (pc := 5) (v := 0) X rfl dX9_beam_5 ?_
  refine ca_X9_29 (pc := 6) X (c_X9_ofL l 0) rfl rfl rfl dX9_beam_6 (fun r6 M6 hp6 => ?_)
  obtain ⟨rfl, rfl⟩ := hp6
  refine r_iald (pc := 9) X mW_1 (100 + 5 * l + 0) rfl (by omega) (by decide) dX9_beam_9 ?_
  refine r_iload_n (pc := 10) X rfl dX9_beam_10 ?_
  refine r_aload_n (pc := 11) X rfl dX9_beam_11 ?_
  refine gt_X9_7 (pc := 12) X mW_0 rfl dX9_beam_12 ?_
  refine r_iload_n (pc := 15) X rfl dX9_beam_15 ?_
  refine r_iconst (pc := 16) (v := 1) X rfl dX9_beam_16 ?_
  refine ca_X9_29 (pc := 17) X (c_X9_ofL l 1) rfl rfl rfl dX9_beam_17 (fun r17 M17 hp17 => ?_)
  obtain ⟨rfl, rfl⟩ := hp17
  refine r_iald (pc := 20) X mW_1 (100 + 5 * l + 1) rfl (by omega) (by decide) dX9_beam_20 ?_
  refine r_imul (pc := 21) X dX9_beam_21 ?_
  refine r_iadd (pc := 22) X dX9_beam_22 ?_
  refine r_bipush (pc := 23) (v := 8) X rfl dX9_beam_23 ?_
  refine r_irem (pc := 25) X (by decide) dX9_beam_25 ?_
  exact K dX9_beam_26 ⟨rfl, rfl⟩

set_option maxHeartbeats 4000000 in
set_option maxRecDepth 100000 in
theorem c_X9_isDark {G : bkG} {Z : Nat → Prop} {M : bkM} {r : Nat} {s a p q t o f : Nat → Int32} (l : Nat) (hl : l < 4) (w : Int32) : bkCi G Z Z yX9_isDark cX9_isDark 3 (some .boolean) 1 0 0 [.ref r, .int (nI l), .int w] (mW G M r s a p q t o f) (fun v M' => v = bi (jdk s l w) ∧ M' = mW G M r s a p q t o f) := by
  refine bk_metz [some (.ref r), some (.int (nI l)), some (.int w)] rfl pf_X9_isDark rfl rfl (fun E X K => ?_)
  refine r_aload_n (pc := 0) X rfl dX9_isDark_0 ?_
  refine gt_X9_7 (pc := 1) X mW_0 rfl dX9_isDark_1 ?_
  refine r_iload_n (pc := 4) X rfl dX9_isDark_4 ?_
  refine r_iconst (pc := 5) (v := 3) X rfl dX9_isDark_5 ?_
  refine ca_X9_29 (pc := 6) X (c_X9_ofL l 3) rfl rfl rfl dX9_isDark_6 (fun r6 M6 hp6 => ?_)
  obtain ⟨rfl, rfl⟩ := hp6
  refine r_iald (pc := 9) X mW_1 (100 + 5 * l + 3) rfl (by omega) (by decide) dX9_isDark_9 ?_
  refine r_iload_n (pc := 10) X rfl dX9_isDark_10 ?_
  refine r_ishr (pc := 11) X dX9_isDark_11 ?_
  refine r_iconst (pc := 12) (v := 1) X rfl dX9_isDark_12 ?_
  refine r_iand (pc := 13) X dX9_isDark_13 ?_
  refine r_iconst (pc := 14) (v := 1) X rfl dX9_isDark_14 ?_
  refine r_icmp_ne (pc := 15) X 22 (by decide) dX9_isDark_15 (fun q15 => ?_) (fun q15 => ?_)
  · skip
    refine r_iconst (pc := 22) (v := 0) X rfl dX9_isDark_22 ?_
    exact K dX9_isDark_23 (by first | exact Or.inl rfl | exact Or.inr rfl) ⟨by unfold jdk; simp [bi, q15], rfl⟩
  · skip
    refine r_iconst (pc := 18) (v := 1) X rfl dX9_isDark_18 ?_
    refine r_goto (pc := 19) X 23 (by decide) dX9_isDark_19 ?_
    exact K dX9_isDark_23 (by first | exact Or.inl rfl | exact Or.inr rfl) ⟨by unfold jdk; simp [bi, q15], rfl⟩

set_option maxHeartbeats 4000000 in
set_option maxRecDepth 100000 in
theorem c_X9_lights {G : bkG} {Z : Nat → Prop} {M : bkM} {r : Nat} {s a p q t o f : Nat → Int32} (l c : Nat) (hl : l < 4) (hc : c < 100) (hr fog : Int32) : bkCi G Z Z yX9_lights cX9_lights 6 (some .boolean) 2 0 0 [.ref r, .int (nI l), .int (nI c), .int hr, .int fog] (mW G M r s a p q t o f) (fun v M' => v = bi (jlit s l c hr fog) ∧ M' = mW G M r s a p q t o f) := by
  refine bk_metz [some (.ref r), some (.int (nI l)), some (.int (nI c)), some (.int hr), some (.int fog), none] rfl pf_X9_lights rfl rfl (fun E X K => ?_)
  refine r_iload_n (pc := 0) X rfl dX9_lights_0 ?_
  refine r_iload_n (pc := 1) X rfl dX9_lights_1 ?_
  refine ca_X9_57 (pc := 2) X (c_X9_wind l c hl hc) rfl rfl rfl dX9_lights_2 (fun r2 M2 hp2 => ?_)
  obtain ⟨rfl, rfl⟩ := hp2
  refine r_istore (pc := 5) X rfl rfl dX9_lights_5 ?_
  refine r_iload (pc := 7) X rfl dX9_lights_7 ?_
  refine r_bipush (pc := 9) (v := (-5)) X rfl dX9_lights_9 ?_
  refine r_icmp_eq (pc := 11) X 59 (by decide) dX9_lights_11 (fun q11 => ?_) (fun q11 => ?_)
  · skip
    refine r_iconst (pc := 59) (v := 1) X rfl dX9_lights_59 ?_
    refine r_goto (pc := 60) X 64 (by decide) dX9_lights_60 ?_
    exact K dX9_lights_64 (by first | exact Or.inl rfl | exact Or.inr rfl) ⟨by clear K X; grind [jlit, bi, bi_0, bi_n0], rfl⟩
  · skip
    refine r_iload (pc := 14) X rfl dX9_lights_14 ?_
    refine r_aload_n (pc := 16) X rfl dX9_lights_16 ?_
    refine r_iload_n (pc := 17) X rfl dX9_lights_17 ?_
    refine r_iload_n (pc := 18) X rfl dX9_lights_18 ?_
    refine ca_X9_60 (pc := 19) X (c_X9_beam l hl hr) mW_0 rfl rfl rfl dX9_lights_19 (fun r19 M19 hp19 => ?_)
    obtain ⟨rfl, rfl⟩ := hp19
    refine r_icmp_ne (pc := 22) X 63 (by decide) dX9_lights_22 (fun q22 => ?_) (fun q22 => ?_)
    · skip
      refine r_iconst (pc := 63) (v := 0) X rfl dX9_lights_63 ?_
      exact K dX9_lights_64 (by first | exact Or.inl rfl | exact Or.inr rfl) ⟨by clear K X; grind [jlit, bi, bi_0, bi_n0], rfl⟩
    · skip
      refine r_aload_n (pc := 25) X rfl dX9_lights_25 ?_
      refine r_iload_n (pc := 26) X rfl dX9_lights_26 ?_
      refine r_iload (pc := 27) X rfl dX9_lights_27 ?_
      refine ca_X9_63 (pc := 29) X (c_X9_isDark l hl (jwd l c)) mW_0 rfl rfl rfl dX9_lights_29 (fun r29 M29 hp29 => ?_)
      obtain ⟨rfl, rfl⟩ := hp29
      refine r_if_ne (pc := 32) X 63 (by decide) dX9_lights_32 (fun q32 => ?_) (fun q32 => ?_)
      · skip
        refine r_iconst (pc := 63) (v := 0) X rfl dX9_lights_63 ?_
        exact K dX9_lights_64 (by first | exact Or.inl rfl | exact Or.inr rfl) ⟨by clear K X; grind [jlit, bi, bi_0, bi_n0], rfl⟩
      · skip
        refine r_iload_n (pc := 35) X rfl dX9_lights_35 ?_
        refine ca_X9_54 (pc := 36) X (c_X9_home l hl) rfl rfl rfl dX9_lights_36 (fun r36 M36 hp36 => ?_)
        obtain ⟨rfl, rfl⟩ := hp36
        refine r_iload_n (pc := 39) X rfl dX9_lights_39 ?_
        refine ca_X9_67 (pc := 40) X (c_X9_distance (jhm l) c (jhm_lt l) hc) rfl rfl rfl dX9_lights_40 (fun r40 M40 hp40 => ?_)
        obtain ⟨rfl, rfl⟩ := hp40
        refine r_aload_n (pc := 43) X rfl dX9_lights_43 ?_
        refine gt_X9_7 (pc := 44) X mW_0 rfl dX9_lights_44 ?_
        refine r_iload_n (pc := 47) X rfl dX9_lights_47 ?_
        refine r_iconst (pc := 48) (v := 2) X rfl dX9_lights_48 ?_
        refine ca_X9_29 (pc := 49) X (c_X9_ofL l 2) rfl rfl rfl dX9_lights_49 (fun r49 M49 hp49 => ?_)
        obtain ⟨rfl, rfl⟩ := hp49
        refine r_iald (pc := 52) X mW_1 (100 + 5 * l + 2) rfl (by omega) (by decide) dX9_lights_52 ?_
        refine r_iload (pc := 53) X rfl dX9_lights_53 ?_
        refine r_isub (pc := 55) X dX9_lights_55 ?_
        refine r_icmp_gt (pc := 56) X 63 (by decide) dX9_lights_56 (fun q56 => ?_) (fun q56 => ?_)
        · skip
          refine r_iconst (pc := 63) (v := 0) X rfl dX9_lights_63 ?_
          exact K dX9_lights_64 (by first | exact Or.inl rfl | exact Or.inr rfl) ⟨by clear K X; grind [jlit, bi, bi_0, bi_n0], rfl⟩
        · skip
          refine r_iconst (pc := 59) (v := 1) X rfl dX9_lights_59 ?_
          refine r_goto (pc := 60) X 64 (by decide) dX9_lights_60 ?_
          exact K dX9_lights_64 (by first | exact Or.inl rfl | exact Or.inr rfl) ⟨by clear K X; grind [jlit, bi, bi_0, bi_n0], rfl⟩

