set_option maxHeartbeats 4000000 in
set_option maxRecDepth 100000 in
theorem c_J9_abs_0f7a4 {G : bkG} {Z : Nat → Prop} {M : bkM} (x : Int32) : bkCi G Z Z yJ9_abs_0f7a4 cJ9_abs_0f7a4 1 (some .int) 0 0 0 [.int x] M (fun v M' => v = jsz x ∧ M' = M) := by
  refine bk_meti [some (.int x)] rfl pf_J9_abs_0f7a4 rfl rfl (fun E X K => ?_)
  refine r_iload_n (pc := 0) X rfl dJ9_abs_0f7a4_0 ?_
  refine r_if_ge (pc := 1) X 9 (by decide) dJ9_abs_0f7a4_1 (fun q1 => ?_) (fun q1 => ?_)
  · skip
    refine r_iload_n (pc := 9) X rfl dJ9_abs_0f7a4_9 ?_
    exact K dJ9_abs_0f7a4_10 ⟨by clear K X; grind [jsz], rfl⟩
  · skip
    refine r_iload_n (pc := 4) X rfl dJ9_abs_0f7a4_4 ?_
    refine r_ineg (pc := 5) X dJ9_abs_0f7a4_5 ?_
    refine r_goto (pc := 6) X 10 (by decide) dJ9_abs_0f7a4_6 ?_
    exact K dJ9_abs_0f7a4_10 ⟨by clear K X; grind [jsz], rfl⟩

set_option maxHeartbeats 4000000 in
set_option maxRecDepth 100000 in
theorem c_J9_max_7cf53 {G : bkG} {Z : Nat → Prop} {M : bkM} (x y : Int32) : bkCi G Z Z yJ9_max_7cf53 cJ9_max_7cf53 2 (some .int) 0 0 0 [.int x, .int y] M (fun v M' => v = cmax x y ∧ M' = M) := by
  refine bk_meti [some (.int x), some (.int y)] rfl pf_J9_max_7cf53 rfl rfl (fun E X K => ?_)
  refine r_iload_n (pc := 0) X rfl dJ9_max_7cf53_0 ?_
  refine r_iload_n (pc := 1) X rfl dJ9_max_7cf53_1 ?_
  refine r_icmp_lt (pc := 2) X 9 (by decide) dJ9_max_7cf53_2 (fun q2 => ?_) (fun q2 => ?_)
  · skip
    refine r_iload_n (pc := 9) X rfl dJ9_max_7cf53_9 ?_
    exact K dJ9_max_7cf53_10 ⟨by clear K X; grind [cmax], rfl⟩
  · skip
    refine r_iload_n (pc := 5) X rfl dJ9_max_7cf53_5 ?_
    refine r_goto (pc := 6) X 10 (by decide) dJ9_max_7cf53_6 ?_
    exact K dJ9_max_7cf53_10 ⟨by clear K X; grind [cmax], rfl⟩

set_option maxHeartbeats 4000000 in
set_option maxRecDepth 100000 in
theorem c_J9_min_7cf53 {G : bkG} {Z : Nat → Prop} {M : bkM} (x y : Int32) : bkCi G Z Z yJ9_min_7cf53 cJ9_min_7cf53 2 (some .int) 0 0 0 [.int x, .int y] M (fun v M' => v = cmin x y ∧ M' = M) := by
  refine bk_meti [some (.int x), some (.int y)] rfl pf_J9_min_7cf53 rfl rfl (fun E X K => ?_)
  refine r_iload_n (pc := 0) X rfl dJ9_min_7cf53_0 ?_
  refine r_iload_n (pc := 1) X rfl dJ9_min_7cf53_1 ?_
  refine r_icmp_gt (pc := 2) X 9 (by decide) dJ9_min_7cf53_2 (fun q2 => ?_) (fun q2 => ?_)
  · skip
    refine r_iload_n (pc := 9) X rfl dJ9_min_7cf53_9 ?_
    exact K dJ9_min_7cf53_10 ⟨by clear K X; grind [cmin], rfl⟩
  · skip
    refine r_iload_n (pc := 5) X rfl dJ9_min_7cf53_5 ?_
    refine r_goto (pc := 6) X 10 (by decide) dJ9_min_7cf53_6 ?_
    exact K dJ9_min_7cf53_10 ⟨by clear K X; grind [cmin], rfl⟩

set_option maxHeartbeats 4000000 in
set_option maxRecDepth 100000 in
theorem c_J6_compare_7cf53 {G : bkG} {Z : Nat → Prop} {M : bkM} (x y : Int32) : bkCi G Z Z yJ6_compare_7cf53 cJ6_compare_7cf53 2 (some .int) 0 0 0 [.int x, .int y] M (fun v M' => v = ccmp x y ∧ M' = M) := by
  refine bk_meti [some (.int x), some (.int y)] rfl pf_J6_compare_7cf53 rfl rfl (fun E X K => ?_)
  refine r_iload_n (pc := 0) X rfl dJ6_compare_7cf53_0 ?_
  refine r_iload_n (pc := 1) X rfl dJ6_compare_7cf53_1 ?_
  refine r_icmp_ge (pc := 2) X 9 (by decide) dJ6_compare_7cf53_2 (fun q2 => ?_) (fun q2 => ?_)
  · skip
    refine r_iload_n (pc := 9) X rfl dJ6_compare_7cf53_9 ?_
    refine r_iload_n (pc := 10) X rfl dJ6_compare_7cf53_10 ?_
    refine r_icmp_ne (pc := 11) X 18 (by decide) dJ6_compare_7cf53_11 (fun q11 => ?_) (fun q11 => ?_)
    · skip
      refine r_iconst (pc := 18) (v := 1) X rfl dJ6_compare_7cf53_18 ?_
      exact K dJ6_compare_7cf53_19 ⟨by clear K X; grind [ccmp], rfl⟩
    · skip
      refine r_iconst (pc := 14) (v := 0) X rfl dJ6_compare_7cf53_14 ?_
      refine r_goto (pc := 15) X 19 (by decide) dJ6_compare_7cf53_15 ?_
      exact K dJ6_compare_7cf53_19 ⟨by clear K X; grind [ccmp], rfl⟩
  · skip
    refine r_iconst (pc := 5) (v := (-1)) X rfl dJ6_compare_7cf53_5 ?_
    refine r_goto (pc := 6) X 19 (by decide) dJ6_compare_7cf53_6 ?_
    exact K dJ6_compare_7cf53_19 ⟨by clear K X; grind [ccmp], rfl⟩

set_option maxHeartbeats 4000000 in
set_option maxRecDepth 100000 in
theorem c_X8_isCell {G : bkG} {Z : Nat → Prop} {M : bkM} (v : Int32) : bkCi G Z Z yX8_isCell cX8_isCell 1 (some .boolean) 0 0 0 [.int v] M (fun x M' => x = bi (jin v 0 99) ∧ M' = M) := by
  refine bk_metz [some (.int v)] rfl pf_X8_isCell rfl rfl (fun E X K => ?_)
  refine r_iload_n (pc := 0) X rfl dX8_isCell_0 ?_
  refine r_if_lt (pc := 1) X 14 (by decide) dX8_isCell_1 (fun q1 => ?_) (fun q1 => ?_)
  · skip
    refine r_iconst (pc := 14) (v := 0) X rfl dX8_isCell_14 ?_
    exact K dX8_isCell_15 (by first | exact Or.inl rfl | exact Or.inr rfl) ⟨by clear K X; unfold jin bi; grind, rfl⟩
  · skip
    refine r_iload_n (pc := 4) X rfl dX8_isCell_4 ?_
    refine r_bipush (pc := 5) (v := 100) X rfl dX8_isCell_5 ?_
    refine r_icmp_ge (pc := 7) X 14 (by decide) dX8_isCell_7 (fun q7 => ?_) (fun q7 => ?_)
    · skip
      refine r_iconst (pc := 14) (v := 0) X rfl dX8_isCell_14 ?_
      exact K dX8_isCell_15 (by first | exact Or.inl rfl | exact Or.inr rfl) ⟨by clear K X; unfold jin bi; grind, rfl⟩
    · skip
      refine r_iconst (pc := 10) (v := 1) X rfl dX8_isCell_10 ?_
      refine r_goto (pc := 11) X 15 (by decide) dX8_isCell_11 ?_
      exact K dX8_isCell_15 (by first | exact Or.inl rfl | exact Or.inr rfl) ⟨by clear K X; unfold jin bi; grind, rfl⟩

set_option maxHeartbeats 4000000 in
set_option maxRecDepth 100000 in
theorem c_X8_isLight {G : bkG} {Z : Nat → Prop} {M : bkM} (v : Int32) : bkCi G Z Z yX8_isLight cX8_isLight 1 (some .boolean) 0 0 0 [.int v] M (fun x M' => x = bi (jin v 0 3) ∧ M' = M) := by
  refine bk_metz [some (.int v)] rfl pf_X8_isLight rfl rfl (fun E X K => ?_)
  refine r_iload_n (pc := 0) X rfl dX8_isLight_0 ?_
  refine r_if_lt (pc := 1) X 13 (by decide) dX8_isLight_1 (fun q1 => ?_) (fun q1 => ?_)
  · skip
    refine r_iconst (pc := 13) (v := 0) X rfl dX8_isLight_13 ?_
    exact K dX8_isLight_14 (by first | exact Or.inl rfl | exact Or.inr rfl) ⟨by clear K X; unfold jin bi; grind, rfl⟩
  · skip
    refine r_iload_n (pc := 4) X rfl dX8_isLight_4 ?_
    refine r_iconst (pc := 5) (v := 4) X rfl dX8_isLight_5 ?_
    refine r_icmp_ge (pc := 6) X 13 (by decide) dX8_isLight_6 (fun q6 => ?_) (fun q6 => ?_)
    · skip
      refine r_iconst (pc := 13) (v := 0) X rfl dX8_isLight_13 ?_
      exact K dX8_isLight_14 (by first | exact Or.inl rfl | exact Or.inr rfl) ⟨by clear K X; unfold jin bi; grind, rfl⟩
    · skip
      refine r_iconst (pc := 9) (v := 1) X rfl dX8_isLight_9 ?_
      refine r_goto (pc := 10) X 14 (by decide) dX8_isLight_10 ?_
      exact K dX8_isLight_14 (by first | exact Or.inl rfl | exact Or.inr rfl) ⟨by clear K X; unfold jin bi; grind, rfl⟩

set_option maxHeartbeats 4000000 in
set_option maxRecDepth 100000 in
theorem c_X8_isShip {G : bkG} {Z : Nat → Prop} {M : bkM} (v : Int32) : bkCi G Z Z yX8_isShip cX8_isShip 1 (some .boolean) 0 0 0 [.int v] M (fun x M' => x = bi (jin v 0 7) ∧ M' = M) := by
  refine bk_metz [some (.int v)] rfl pf_X8_isShip rfl rfl (fun E X K => ?_)
  refine r_iload_n (pc := 0) X rfl dX8_isShip_0 ?_
  refine r_if_lt (pc := 1) X 14 (by decide) dX8_isShip_1 (fun q1 => ?_) (fun q1 => ?_)
  · skip
    refine r_iconst (pc := 14) (v := 0) X rfl dX8_isShip_14 ?_
    exact K dX8_isShip_15 (by first | exact Or.inl rfl | exact Or.inr rfl) ⟨by clear K X; unfold jin bi; grind, rfl⟩
  · skip
    refine r_iload_n (pc := 4) X rfl dX8_isShip_4 ?_
    refine r_bipush (pc := 5) (v := 8) X rfl dX8_isShip_5 ?_
    refine r_icmp_ge (pc := 7) X 14 (by decide) dX8_isShip_7 (fun q7 => ?_) (fun q7 => ?_)
    · skip
      refine r_iconst (pc := 14) (v := 0) X rfl dX8_isShip_14 ?_
      exact K dX8_isShip_15 (by first | exact Or.inl rfl | exact Or.inr rfl) ⟨by clear K X; unfold jin bi; grind, rfl⟩
    · skip
      refine r_iconst (pc := 10) (v := 1) X rfl dX8_isShip_10 ?_
      refine r_goto (pc := 11) X 15 (by decide) dX8_isShip_11 ?_
      exact K dX8_isShip_15 (by first | exact Or.inl rfl | exact Or.inr rfl) ⟨by clear K X; unfold jin bi; grind, rfl⟩

set_option maxHeartbeats 4000000 in
set_option maxRecDepth 100000 in
theorem c_X8_distanceBetween {G : bkG} {Z : Nat → Prop} {M : bkM} (x y : Nat) (hx : x < 100) (hy : y < 100) : bkCi G Z Z yX8_distanceBetween cX8_distanceBetween 4 (some .int) 1 0 0 [.int (nI x), .int (nI y)] M (fun v M' => v = jds x y ∧ M' = M) := by
  refine bk_meti [some (.int (nI x)), some (.int (nI y)), none, none] rfl pf_X8_distanceBetween rfl rfl (fun E X K => ?_)
  refine r_iload_n (pc := 0) X rfl dX8_distanceBetween_0 ?_
  refine r_bipush (pc := 1) (v := 10) X rfl dX8_distanceBetween_1 ?_
  refine r_irem (pc := 3) X (by decide) dX8_distanceBetween_3 ?_
  refine bk_top (pk_rem (a := y) (d := 10) (by omega) (by omega) (by omega)) ?_
  refine r_iload_n (pc := 4) X rfl dX8_distanceBetween_4 ?_
  refine r_bipush (pc := 5) (v := 10) X rfl dX8_distanceBetween_5 ?_
  refine r_irem (pc := 7) X (by decide) dX8_distanceBetween_7 ?_
  refine bk_top (pk_rem (a := x) (d := 10) (by omega) (by omega) (by omega)) ?_
  refine r_isub (pc := 8) X dX8_distanceBetween_8 ?_
  refine ca_X8_241 (pc := 9) X (c_J9_abs_0f7a4 (jea x y)) rfl rfl rfl dX8_distanceBetween_9 (fun r9 M9 hp9 => ?_)
  obtain ⟨rfl, rfl⟩ := hp9
  refine r_istore_n (pc := 12) X rfl rfl dX8_distanceBetween_12 ?_
  refine r_iload_n (pc := 13) X rfl dX8_distanceBetween_13 ?_
  refine r_bipush (pc := 14) (v := 10) X rfl dX8_distanceBetween_14 ?_
  refine r_idiv (pc := 16) X (by decide) dX8_distanceBetween_16 ?_
  refine bk_top (pk_div (a := y) (d := 10) (by omega) (by omega) (by omega)) ?_
  refine r_iload_n (pc := 17) X rfl dX8_distanceBetween_17 ?_
  refine r_bipush (pc := 18) (v := 10) X rfl dX8_distanceBetween_18 ?_
  refine r_idiv (pc := 20) X (by decide) dX8_distanceBetween_20 ?_
  refine bk_top (pk_div (a := x) (d := 10) (by omega) (by omega) (by omega)) ?_
  refine r_isub (pc := 21) X dX8_distanceBetween_21 ?_
  refine ca_X8_241 (pc := 22) X (c_J9_abs_0f7a4 (jso x y)) rfl rfl rfl dX8_distanceBetween_22 (fun r22 M22 hp22 => ?_)
  obtain ⟨rfl, rfl⟩ := hp22
  refine r_istore_n (pc := 25) X rfl rfl dX8_distanceBetween_25 ?_
  refine r_iload_n (pc := 26) X rfl dX8_distanceBetween_26 ?_
  refine r_iload_n (pc := 27) X rfl dX8_distanceBetween_27 ?_
  refine ca_X8_244 (pc := 28) X (c_J9_max_7cf53 (jsz (jea x y)) (jsz (jso x y))) rfl rfl rfl dX8_distanceBetween_28 (fun r28 M28 hp28 => ?_)
  obtain ⟨rfl, rfl⟩ := hp28
  exact K dX8_distanceBetween_31 ⟨by clear K X; grind [jds, cmax], rfl⟩

set_option maxHeartbeats 4000000 in
set_option maxRecDepth 100000 in
theorem c_X0_windOf {G : bkG} {Z : Nat → Prop} {M : bkM} (x y : Int32) : bkCi G Z Z yX0_windOf cX0_windOf 4 (some .int) 1 0 0 [.int x, .int y] M (fun v M' => v = cw2 x y ∧ M' = M) := by
  refine bk_meti [some (.int x), some (.int y), none, none] rfl pf_X0_windOf rfl rfl (fun E X K => ?_)
  refine r_iload_n (pc := 0) X rfl dX0_windOf_0 ?_
  refine ca_X0_33 (pc := 1) X (c_J9_abs_0f7a4 x) rfl rfl rfl dX0_windOf_1 (fun r1 M1 hp1 => ?_)
  obtain ⟨rfl, rfl⟩ := hp1
  refine r_istore_n (pc := 4) X rfl rfl dX0_windOf_4 ?_
  refine r_iload_n (pc := 5) X rfl dX0_windOf_5 ?_
  refine ca_X0_33 (pc := 6) X (c_J9_abs_0f7a4 y) rfl rfl rfl dX0_windOf_6 (fun r6 M6 hp6 => ?_)
  obtain ⟨rfl, rfl⟩ := hp6
  refine r_istore_n (pc := 9) X rfl rfl dX0_windOf_9 ?_
  refine r_iload_n (pc := 10) X rfl dX0_windOf_10 ?_
  refine r_if_ne (pc := 11) X 20 (by decide) dX0_windOf_11 (fun q11 => ?_) (fun q11 => ?_)
  · skip
    refine r_iconst (pc := 20) (v := 2) X rfl dX0_windOf_20 ?_
    refine r_iload_n (pc := 21) X rfl dX0_windOf_21 ?_
    refine r_imul (pc := 22) X dX0_windOf_22 ?_
    refine r_iload_n (pc := 23) X rfl dX0_windOf_23 ?_
    refine r_icmp_gt (pc := 24) X 37 (by decide) dX0_windOf_24 (fun q24 => ?_) (fun q24 => ?_)
    · skip
      refine r_iconst (pc := 37) (v := 2) X rfl dX0_windOf_37 ?_
      refine r_iload_n (pc := 38) X rfl dX0_windOf_38 ?_
      refine r_imul (pc := 39) X dX0_windOf_39 ?_
      refine r_iload_n (pc := 40) X rfl dX0_windOf_40 ?_
      refine r_icmp_gt (pc := 41) X 55 (by decide) dX0_windOf_41 (fun q41 => ?_) (fun q41 => ?_)
      · skip
        refine r_iload_n (pc := 55) X rfl dX0_windOf_55 ?_
        refine r_if_le (pc := 56) X 69 (by decide) dX0_windOf_56 (fun q56 => ?_) (fun q56 => ?_)
        · skip
          refine r_iload_n (pc := 69) X rfl dX0_windOf_69 ?_
          refine r_if_le (pc := 70) X 78 (by decide) dX0_windOf_70 (fun q70 => ?_) (fun q70 => ?_)
          · skip
            refine r_iconst (pc := 78) (v := 5) X rfl dX0_windOf_78 ?_
            exact K dX0_windOf_79 ⟨by clear K X; grind [cw2], rfl⟩
          · skip
            refine r_bipush (pc := 73) (v := 7) X rfl dX0_windOf_73 ?_
            refine r_goto (pc := 75) X 79 (by decide) dX0_windOf_75 ?_
            exact K dX0_windOf_79 ⟨by clear K X; grind [cw2], rfl⟩
        · skip
          refine r_iload_n (pc := 59) X rfl dX0_windOf_59 ?_
          refine r_if_le (pc := 60) X 67 (by decide) dX0_windOf_60 (fun q60 => ?_) (fun q60 => ?_)
          · skip
            refine r_iconst (pc := 67) (v := 3) X rfl dX0_windOf_67 ?_
            exact K dX0_windOf_68 ⟨by clear K X; grind [cw2], rfl⟩
          · skip
            refine r_iconst (pc := 63) (v := 1) X rfl dX0_windOf_63 ?_
            refine r_goto (pc := 64) X 68 (by decide) dX0_windOf_64 ?_
            exact K dX0_windOf_68 ⟨by clear K X; grind [cw2], rfl⟩
      · skip
        refine r_iload_n (pc := 44) X rfl dX0_windOf_44 ?_
        refine r_if_le (pc := 45) X 52 (by decide) dX0_windOf_45 (fun q45 => ?_) (fun q45 => ?_)
        · skip
          refine r_bipush (pc := 52) (v := 6) X rfl dX0_windOf_52 ?_
          exact K dX0_windOf_54 ⟨by clear K X; grind [cw2], rfl⟩
        · skip
          refine r_iconst (pc := 48) (v := 2) X rfl dX0_windOf_48 ?_
          refine r_goto (pc := 49) X 54 (by decide) dX0_windOf_49 ?_
          exact K dX0_windOf_54 ⟨by clear K X; grind [cw2], rfl⟩
    · skip
      refine r_iload_n (pc := 27) X rfl dX0_windOf_27 ?_
      refine r_if_le (pc := 28) X 35 (by decide) dX0_windOf_28 (fun q28 => ?_) (fun q28 => ?_)
      · skip
        refine r_iconst (pc := 35) (v := 4) X rfl dX0_windOf_35 ?_
        exact K dX0_windOf_36 ⟨by clear K X; grind [cw2], rfl⟩
      · skip
        refine r_iconst (pc := 31) (v := 0) X rfl dX0_windOf_31 ?_
        refine r_goto (pc := 32) X 36 (by decide) dX0_windOf_32 ?_
        exact K dX0_windOf_36 ⟨by clear K X; grind [cw2], rfl⟩
  · skip
    refine r_iload_n (pc := 14) X rfl dX0_windOf_14 ?_
    refine r_if_ne (pc := 15) X 20 (by decide) dX0_windOf_15 (fun q15 => ?_) (fun q15 => ?_)
    · skip
      refine r_iconst (pc := 20) (v := 2) X rfl dX0_windOf_20 ?_
      refine r_iload_n (pc := 21) X rfl dX0_windOf_21 ?_
      refine r_imul (pc := 22) X dX0_windOf_22 ?_
      refine r_iload_n (pc := 23) X rfl dX0_windOf_23 ?_
      refine r_icmp_gt (pc := 24) X 37 (by decide) dX0_windOf_24 (fun q24 => ?_) (fun q24 => ?_)
      · skip
        refine r_iconst (pc := 37) (v := 2) X rfl dX0_windOf_37 ?_
        refine r_iload_n (pc := 38) X rfl dX0_windOf_38 ?_
        refine r_imul (pc := 39) X dX0_windOf_39 ?_
        refine r_iload_n (pc := 40) X rfl dX0_windOf_40 ?_
        refine r_icmp_gt (pc := 41) X 55 (by decide) dX0_windOf_41 (fun q41 => ?_) (fun q41 => ?_)
        · skip
          refine r_iload_n (pc := 55) X rfl dX0_windOf_55 ?_
          refine r_if_le (pc := 56) X 69 (by decide) dX0_windOf_56 (fun q56 => ?_) (fun q56 => ?_)
          · skip
            refine r_iload_n (pc := 69) X rfl dX0_windOf_69 ?_
            refine r_if_le (pc := 70) X 78 (by decide) dX0_windOf_70 (fun q70 => ?_) (fun q70 => ?_)
            · skip
              refine r_iconst (pc := 78) (v := 5) X rfl dX0_windOf_78 ?_
              exact K dX0_windOf_79 ⟨by clear K X; grind [cw2], rfl⟩
            · skip
              refine r_bipush (pc := 73) (v := 7) X rfl dX0_windOf_73 ?_
              refine r_goto (pc := 75) X 79 (by decide) dX0_windOf_75 ?_
              exact K dX0_windOf_79 ⟨by clear K X; grind [cw2], rfl⟩
          · skip
            refine r_iload_n (pc := 59) X rfl dX0_windOf_59 ?_
            refine r_if_le (pc := 60) X 67 (by decide) dX0_windOf_60 (fun q60 => ?_) (fun q60 => ?_)
            · skip
              refine r_iconst (pc := 67) (v := 3) X rfl dX0_windOf_67 ?_
              exact K dX0_windOf_68 ⟨by clear K X; grind [cw2], rfl⟩
            · skip
              refine r_iconst (pc := 63) (v := 1) X rfl dX0_windOf_63 ?_
              refine r_goto (pc := 64) X 68 (by decide) dX0_windOf_64 ?_
              exact K dX0_windOf_68 ⟨by clear K X; grind [cw2], rfl⟩
        · skip
          refine r_iload_n (pc := 44) X rfl dX0_windOf_44 ?_
          refine r_if_le (pc := 45) X 52 (by decide) dX0_windOf_45 (fun q45 => ?_) (fun q45 => ?_)
          · skip
            refine r_bipush (pc := 52) (v := 6) X rfl dX0_windOf_52 ?_
            exact K dX0_windOf_54 ⟨by clear K X; grind [cw2], rfl⟩
          · skip
            refine r_iconst (pc := 48) (v := 2) X rfl dX0_windOf_48 ?_
            refine r_goto (pc := 49) X 54 (by decide) dX0_windOf_49 ?_
            exact K dX0_windOf_54 ⟨by clear K X; grind [cw2], rfl⟩
      · skip
        refine r_iload_n (pc := 27) X rfl dX0_windOf_27 ?_
        refine r_if_le (pc := 28) X 35 (by decide) dX0_windOf_28 (fun q28 => ?_) (fun q28 => ?_)
        · skip
          refine r_iconst (pc := 35) (v := 4) X rfl dX0_windOf_35 ?_
          exact K dX0_windOf_36 ⟨by clear K X; grind [cw2], rfl⟩
        · skip
          refine r_iconst (pc := 31) (v := 0) X rfl dX0_windOf_31 ?_
          refine r_goto (pc := 32) X 36 (by decide) dX0_windOf_32 ?_
          exact K dX0_windOf_36 ⟨by clear K X; grind [cw2], rfl⟩
    · skip
      refine r_iconst (pc := 18) (v := (-1)) X rfl dX0_windOf_18 ?_
      exact K dX0_windOf_19 ⟨by clear K X; grind [cw2], rfl⟩

set_option maxHeartbeats 4000000 in
set_option maxRecDepth 100000 in
theorem c_X3_beamWind {G : bkG} {Z : Nat → Prop} {M : bkM} {a B i : Nat} {s : Nat → Int32} (hm : M a = some (.inr (3, ltF B s i))) (hr : Int32) : bkCi G Z Z yX3_beamWind cX3_beamWind 2 (some .int) 0 0 0 [.ref a, .int hr] M (fun v M' => v = jbm s i hr ∧ M' = M) := by
  refine bk_meti [some (.ref a), some (.int hr)] rfl pf_X3_beamWind rfl rfl (fun E X K => ?_)
  refine r_aload_n (pc := 0) X rfl dX3_beamWind_0 ?_
  refine gt_X3_44 (pc := 1) X hm rfl dX3_beamWind_1 ?_
  refine r_iload_n (pc := 4) X rfl dX3_beamWind_4 ?_
  refine r_aload_n (pc := 5) X rfl dX3_beamWind_5 ?_
  refine gt_X3_9 (pc := 6) X hm rfl dX3_beamWind_6 ?_
  refine r_imul (pc := 9) X dX3_beamWind_9 ?_
  refine r_iadd (pc := 10) X dX3_beamWind_10 ?_
  refine r_bipush (pc := 11) (v := 8) X rfl dX3_beamWind_11 ?_
  refine r_irem (pc := 13) X (by decide) dX3_beamWind_13 ?_
  exact K dX3_beamWind_14 ⟨rfl, rfl⟩

set_option maxHeartbeats 4000000 in
set_option maxRecDepth 100000 in
theorem c_X3_isDark {G : bkG} {Z : Nat → Prop} {M : bkM} {a B i : Nat} {s : Nat → Int32} (hm : M a = some (.inr (3, ltF B s i))) (w : Int32) : bkCi G Z Z yX3_isDark cX3_isDark 2 (some .boolean) 0 0 0 [.ref a, .int w] M (fun v M' => v = bi (jdk s i w) ∧ M' = M) := by
  refine bk_metz [some (.ref a), some (.int w)] rfl pf_X3_isDark rfl rfl (fun E X K => ?_)
  refine r_aload_n (pc := 0) X rfl dX3_isDark_0 ?_
  refine gt_X3_18 (pc := 1) X hm rfl dX3_isDark_1 ?_
  refine r_iload_n (pc := 4) X rfl dX3_isDark_4 ?_
  refine r_ishr (pc := 5) X dX3_isDark_5 ?_
  refine r_iconst (pc := 6) (v := 1) X rfl dX3_isDark_6 ?_
  refine r_iand (pc := 7) X dX3_isDark_7 ?_
  refine r_if_eq (pc := 8) X 15 (by decide) dX3_isDark_8 (fun q8 => ?_) (fun q8 => ?_)
  · skip
    refine r_iconst (pc := 15) (v := 0) X rfl dX3_isDark_15 ?_
    exact K dX3_isDark_16 (by first | exact Or.inl rfl | exact Or.inr rfl) ⟨by first | exact (bi_1.mpr (jdk_n.mp q8)).symm | exact (bi_0.mpr (by cases e : jdk s i w; rfl; exact absurd q8 (jdk_n.mpr e))).symm, rfl⟩
  · skip
    refine r_iconst (pc := 11) (v := 1) X rfl dX3_isDark_11 ?_
    refine r_goto (pc := 12) X 16 (by decide) dX3_isDark_12 ?_
    exact K dX3_isDark_16 (by first | exact Or.inl rfl | exact Or.inr rfl) ⟨by first | exact (bi_1.mpr (jdk_n.mp q8)).symm | exact (bi_0.mpr (by cases e : jdk s i w; rfl; exact absurd q8 (jdk_n.mpr e))).symm, rfl⟩

set_option maxHeartbeats 4000000 in
set_option maxRecDepth 100000 in
theorem c_X3_reach {G : bkG} {Z : Nat → Prop} {M : bkM} {a B i : Nat} {s : Nat → Int32} (hm : M a = some (.inr (3, ltF B s i))) (th : Int32) : bkCi G Z Z yX3_reach cX3_reach 2 (some .int) 0 0 0 [.ref a, .int th] M (fun v M' => v = crch s i th ∧ M' = M) := by
  refine bk_meti [some (.ref a), some (.int th)] rfl pf_X3_reach rfl rfl (fun E X K => ?_)
  refine r_aload_n (pc := 0) X rfl dX3_reach_0 ?_
  refine gt_X3_21 (pc := 1) X hm rfl dX3_reach_1 ?_
  refine r_iload_n (pc := 4) X rfl dX3_reach_4 ?_
  refine r_icmp_le (pc := 5) X 22 (by decide) dX3_reach_5 (fun q5 => ?_) (fun q5 => ?_)
  · skip
    refine r_aload_n (pc := 22) X rfl dX3_reach_22 ?_
    refine gt_X3_15 (pc := 23) X hm rfl dX3_reach_23 ?_
    exact K dX3_reach_26 ⟨by first | exact (if_pos (Int32.not_le.mp q5)).symm | exact (if_neg (Int32.not_lt.mpr q5)).symm, rfl⟩
  · skip
    refine r_aload_n (pc := 8) X rfl dX3_reach_8 ?_
    refine gt_X3_15 (pc := 9) X hm rfl dX3_reach_9 ?_
    refine r_aload_n (pc := 12) X rfl dX3_reach_12 ?_
    refine gt_X3_21 (pc := 13) X hm rfl dX3_reach_13 ?_
    refine r_iload_n (pc := 16) X rfl dX3_reach_16 ?_
    refine r_isub (pc := 17) X dX3_reach_17 ?_
    refine r_isub (pc := 18) X dX3_reach_18 ?_
    refine r_goto (pc := 19) X 26 (by decide) dX3_reach_19 ?_
    exact K dX3_reach_26 ⟨by first | exact (if_pos (Int32.not_le.mp q5)).symm | exact (if_neg (Int32.not_lt.mpr q5)).symm, rfl⟩

set_option maxHeartbeats 4000000 in
set_option maxRecDepth 100000 in
theorem c_X3_lightsCell {G : bkG} {Z : Nat → Prop} {M : bkM} {a B i : Nat} {s : Nat → Int32} (hm : M a = some (.inr (3, ltF B s i))) (hi : i < 4) (hw : M (B + 2 + i) = some (aI G 100 (cwd i))) (hds : M (B + 7 + i) = some (aI G 100 (cds i))) (c : Nat) (hc : c < 100) (hr th : Int32) : bkCi G Z Z yX3_lightsCell cX3_lightsCell 5 (some .boolean) 1 0 0 [.ref a, .int (nI c), .int hr, .int th] M (fun v M' => v = bi (clit s i c hr th) ∧ M' = M) := by
  refine bk_metz [some (.ref a), some (.int (nI c)), some (.int hr), some (.int th), none] rfl pf_X3_lightsCell rfl rfl (fun E X K => ?_)
  refine r_iload_n (pc := 0) X rfl dX3_lightsCell_0 ?_
  refine r_aload_n (pc := 1) X rfl dX3_lightsCell_1 ?_
  refine gt_X3_28 (pc := 2) X hm rfl dX3_lightsCell_2 ?_
  refine r_icmpN_ne (pc := 5) X 10 (c) (jhm i) rfl rfl (by omega) (by have := jhm_lt i; omega) (by decide) dX3_lightsCell_5 (fun q5 => ?_) (fun q5 => ?_)
  · skip
    refine r_iload_n (pc := 10) X rfl dX3_lightsCell_10 ?_
    refine ca_X3_60 (pc := 11) X (c_X8_isCell (nI c)) rfl rfl rfl dX3_lightsCell_11 (fun r11 M11 hp11 => ?_)
    obtain ⟨rfl, rfl⟩ := hp11
    refine r_if_ne (pc := 14) X 19 (by decide) dX3_lightsCell_14 (fun q14 => ?_) (fun q14 => ?_)
    · skip
      refine r_aload_n (pc := 19) X rfl dX3_lightsCell_19 ?_
      refine gt_X3_37 (pc := 20) X hm rfl dX3_lightsCell_20 ?_
      refine r_iload_n (pc := 23) X rfl dX3_lightsCell_23 ?_
      refine r_iald (pc := 24) X hw (c) rfl (by omega) (by decide) dX3_lightsCell_24 ?_
      refine r_istore (pc := 25) X rfl rfl dX3_lightsCell_25 ?_
      refine r_iload (pc := 27) X rfl dX3_lightsCell_27 ?_
      refine r_aload_n (pc := 29) X rfl dX3_lightsCell_29 ?_
      refine r_iload_n (pc := 30) X rfl dX3_lightsCell_30 ?_
      refine ca_X3_47 (pc := 31) X (c_X3_beamWind hm hr) hm rfl rfl rfl dX3_lightsCell_31 (fun r31 M31 hp31 => ?_)
      obtain ⟨rfl, rfl⟩ := hp31
      refine r_icmp_ne (pc := 34) X 64 (by decide) dX3_lightsCell_34 (fun q34 => ?_) (fun q34 => ?_)
      · skip
        refine r_iconst (pc := 64) (v := 0) X rfl dX3_lightsCell_64 ?_
        exact K dX3_lightsCell_65 (by first | exact Or.inl rfl | exact Or.inr rfl) ⟨by clear K X; unfold clit; grind [bi, bi_0, bi_n0], rfl⟩
      · skip
        refine r_aload_n (pc := 37) X rfl dX3_lightsCell_37 ?_
        refine gt_X3_42 (pc := 38) X hm rfl dX3_lightsCell_38 ?_
        refine r_iload_n (pc := 41) X rfl dX3_lightsCell_41 ?_
        refine r_iald (pc := 42) X hds (c) rfl (by omega) (by decide) dX3_lightsCell_42 ?_
        refine r_aload_n (pc := 43) X rfl dX3_lightsCell_43 ?_
        refine r_iload_n (pc := 44) X rfl dX3_lightsCell_44 ?_
        refine ca_X3_64 (pc := 45) X (c_X3_reach hm th) hm rfl rfl rfl dX3_lightsCell_45 (fun r45 M45 hp45 => ?_)
        obtain ⟨rfl, rfl⟩ := hp45
        refine r_icmp_gt (pc := 48) X 64 (by decide) dX3_lightsCell_48 (fun q48 => ?_) (fun q48 => ?_)
        · skip
          refine r_iconst (pc := 64) (v := 0) X rfl dX3_lightsCell_64 ?_
          exact K dX3_lightsCell_65 (by first | exact Or.inl rfl | exact Or.inr rfl) ⟨by clear K X; unfold clit; grind [bi, bi_0, bi_n0], rfl⟩
        · skip
          refine r_aload_n (pc := 51) X rfl dX3_lightsCell_51 ?_
          refine r_iload (pc := 52) X rfl dX3_lightsCell_52 ?_
          refine ca_X3_67 (pc := 54) X (c_X3_isDark hm (cwd i c)) hm rfl rfl rfl dX3_lightsCell_54 (fun r54 M54 hp54 => ?_)
          obtain ⟨rfl, rfl⟩ := hp54
          refine r_if_ne (pc := 57) X 64 (by decide) dX3_lightsCell_57 (fun q57 => ?_) (fun q57 => ?_)
          · skip
            refine r_iconst (pc := 64) (v := 0) X rfl dX3_lightsCell_64 ?_
            exact K dX3_lightsCell_65 (by first | exact Or.inl rfl | exact Or.inr rfl) ⟨by clear K X; unfold clit; grind [bi, bi_0, bi_n0], rfl⟩
          · skip
            refine r_iconst (pc := 60) (v := 1) X rfl dX3_lightsCell_60 ?_
            refine r_goto (pc := 61) X 65 (by decide) dX3_lightsCell_61 ?_
            exact K dX3_lightsCell_65 (by first | exact Or.inl rfl | exact Or.inr rfl) ⟨by clear K X; unfold clit; grind [bi, bi_0, bi_n0], rfl⟩
    · skip
      exact absurd q14 (by rw [show jin (nI c) 0 99 = true from jin_nI (j := c) (n := 99) (by omega) (by decide)]; decide)
  · skip
    refine r_iconst (pc := 8) (v := 1) X rfl dX3_lightsCell_8 ?_
    exact K dX3_lightsCell_9 (by first | exact Or.inl rfl | exact Or.inr rfl) ⟨by clear K X; unfold clit; grind [bi, bi_0, bi_n0], rfl⟩

set_option maxHeartbeats 4000000 in
set_option maxRecDepth 100000 in
theorem c_X3_litCells {G : bkG} {Z : Nat → Prop} {M : bkM} {a B i : Nat} {s : Nat → Int32} (hm : M a = some (.inr (3, ltF B s i))) (hi : i < 4) (hw : M (B + 2 + i) = some (aI G 100 (cwd i))) (hds : M (B + 7 + i) = some (aI G 100 (cds i))) (hr : Int32) : bkCi G Z Z yX3_litCells cX3_litCells 4 (some .int) 2 0 0 [.ref a, .int hr] M (fun v M' => v = nI (jct (fun c => clit s i c hr 0) 100) ∧ M' = M) := by
  refine bk_meti [some (.ref a), some (.int hr), none, none] rfl pf_X3_litCells rfl rfl (fun E X K => ?_)
  refine r_iconst (pc := 0) (v := 0) X rfl dX3_litCells_0 ?_
  refine r_istore_n (pc := 1) X rfl rfl dX3_litCells_1 ?_
  refine r_iconst (pc := 2) (v := 0) X rfl dX3_litCells_2 ?_
  refine r_istore_n (pc := 3) X rfl rfl dX3_litCells_3 ?_
  have lp4 : ∀ (d j : Nat) (x : Int32) (y : Int32), j ≤ 100 → 100 < j + d → (x = nI (jct (fun c => clit s i c hr 0) j)) → (y = nI j) → bkV E G Z 0 0 M 4 [some (.ref a), some (.int hr), some (.int x), some (.int y)] [] := by
    intro d
    induction d with
    | zero => intro j x y; intros; exfalso; omega
    | succ d ih =>
      intro j x y hj hd e1 e2
      subst e1
      subst e2
      refine r_iload_n (pc := 4) X rfl dX3_litCells_4 ?_
      refine r_bipush (pc := 5) (v := 100) X rfl dX3_litCells_5 ?_
      refine r_icmpN_ge (pc := 7) X 29 (j) (100) rfl rfl (by omega) (by omega) (by decide) dX3_litCells_7 (fun q7 => ?_) (fun q7 => ?_)
      · skip
        refine r_iload_n (pc := 29) X rfl dX3_litCells_29 ?_
        exact K dX3_litCells_30 ⟨by rw [show j = 100 by omega], rfl⟩
      · skip
        refine r_aload_n (pc := 10) X rfl dX3_litCells_10 ?_
        refine r_iload_n (pc := 11) X rfl dX3_litCells_11 ?_
        refine r_iload_n (pc := 12) X rfl dX3_litCells_12 ?_
        refine r_iconst (pc := 13) (v := 0) X rfl dX3_litCells_13 ?_
        refine ca_X3_85 (pc := 14) X (c_X3_lightsCell hm hi hw hds j (by omega) hr 0) hm rfl rfl rfl dX3_litCells_14 (fun r14 M14 hp14 => ?_)
        obtain ⟨rfl, rfl⟩ := hp14
        refine r_if_eq (pc := 17) X 23 (by decide) dX3_litCells_17 (fun q17 => ?_) (fun q17 => ?_)
        · skip
          refine r_iinc (pc := 23) X rfl rfl rfl dX3_litCells_23 ?_
          refine r_goto (pc := 26) X 4 (by decide) dX3_litCells_26 ?_
          refine ih (j + 1) _ _ (by omega) (by omega) ?_ (nI_1 j)
          first | exact jct_t (bi_n0.mp q17) | exact (jct_f0 (bi_0.mp q17))
        · skip
          refine r_iinc (pc := 20) X rfl rfl rfl dX3_litCells_20 ?_
          refine r_iinc (pc := 23) X rfl rfl rfl dX3_litCells_23 ?_
          refine r_goto (pc := 26) X 4 (by decide) dX3_litCells_26 ?_
          refine ih (j + 1) _ _ (by omega) (by omega) ?_ (nI_1 j)
          first | exact jct_t (bi_n0.mp q17) | exact (jct_f0 (bi_0.mp q17))
  exact lp4 (100 + 1) 0 _ _ (by omega) (by omega) rfl rfl

set_option maxHeartbeats 4000000 in
set_option maxRecDepth 100000 in
theorem c_X3_whyDark {G : bkG} {Z : Nat → Prop} {M : bkM} {a B i : Nat} {s : Nat → Int32} (hm : M a = some (.inr (3, ltF B s i))) (hi : i < 4) (hw : M (B + 2 + i) = some (aI G 100 (cwd i))) (hds : M (B + 7 + i) = some (aI G 100 (cds i))) (c : Nat) (hc : c < 100) (hr : Int32) : bkCi G Z Z yX3_whyDark cX3_whyDark 5 (some .int) 1 0 0 [.ref a, .int (nI c), .int hr] M (fun v M' => v = (if c = jhm i then 0 else if jdk s i (cwd i c) = true then 1 else if s (100 + 5 * i + 2) < cds i c then 2 else if crch s i 0 < cds i c then 3 else if cwd i c = jbm s i hr then 0 else 4) ∧ M' = M) := by
  refine bk_meti [some (.ref a), some (.int (nI c)), some (.int hr), none, none] rfl pf_X3_whyDark rfl rfl (fun E X K => ?_)
  refine r_iload_n (pc := 0) X rfl dX3_whyDark_0 ?_
  refine r_aload_n (pc := 1) X rfl dX3_whyDark_1 ?_
  refine gt_X3_28 (pc := 2) X hm rfl dX3_whyDark_2 ?_
  refine r_icmpN_eq (pc := 5) X 15 (c) (jhm i) rfl rfl (by omega) (by have := jhm_lt i; omega) (by decide) dX3_whyDark_5 (fun q5 => ?_) (fun q5 => ?_)
  · skip
    refine r_iconst (pc := 15) (v := 0) X rfl dX3_whyDark_15 ?_
    exact K dX3_whyDark_16 ⟨by clear K X; grind [bi, bi_0, bi_n0], rfl⟩
  · skip
    refine r_iload_n (pc := 8) X rfl dX3_whyDark_8 ?_
    refine ca_X3_60 (pc := 9) X (c_X8_isCell (nI c)) rfl rfl rfl dX3_whyDark_9 (fun r9 M9 hp9 => ?_)
    obtain ⟨rfl, rfl⟩ := hp9
    refine r_if_ne (pc := 12) X 17 (by decide) dX3_whyDark_12 (fun q12 => ?_) (fun q12 => ?_)
    · skip
      refine r_aload_n (pc := 17) X rfl dX3_whyDark_17 ?_
      refine gt_X3_37 (pc := 18) X hm rfl dX3_whyDark_18 ?_
      refine r_iload_n (pc := 21) X rfl dX3_whyDark_21 ?_
      refine r_iald (pc := 22) X hw (c) rfl (by omega) (by decide) dX3_whyDark_22 ?_
      refine r_istore_n (pc := 23) X rfl rfl dX3_whyDark_23 ?_
      refine r_aload_n (pc := 24) X rfl dX3_whyDark_24 ?_
      refine gt_X3_42 (pc := 25) X hm rfl dX3_whyDark_25 ?_
      refine r_iload_n (pc := 28) X rfl dX3_whyDark_28 ?_
      refine r_iald (pc := 29) X hds (c) rfl (by omega) (by decide) dX3_whyDark_29 ?_
      refine r_istore (pc := 30) X rfl rfl dX3_whyDark_30 ?_
      refine r_aload_n (pc := 32) X rfl dX3_whyDark_32 ?_
      refine r_iload_n (pc := 33) X rfl dX3_whyDark_33 ?_
      refine ca_X3_67 (pc := 34) X (c_X3_isDark hm (cwd i c)) hm rfl rfl rfl dX3_whyDark_34 (fun r34 M34 hp34 => ?_)
      obtain ⟨rfl, rfl⟩ := hp34
      refine r_if_eq (pc := 37) X 42 (by decide) dX3_whyDark_37 (fun q37 => ?_) (fun q37 => ?_)
      · skip
        refine r_iload (pc := 42) X rfl dX3_whyDark_42 ?_
        refine r_aload_n (pc := 44) X rfl dX3_whyDark_44 ?_
        refine gt_X3_15 (pc := 45) X hm rfl dX3_whyDark_45 ?_
        refine r_icmp_le (pc := 48) X 53 (by decide) dX3_whyDark_48 (fun q48 => ?_) (fun q48 => ?_)
        · skip
          refine r_iload (pc := 53) X rfl dX3_whyDark_53 ?_
          refine r_aload_n (pc := 55) X rfl dX3_whyDark_55 ?_
          refine r_iconst (pc := 56) (v := 0) X rfl dX3_whyDark_56 ?_
          refine ca_X3_64 (pc := 57) X (c_X3_reach hm 0) hm rfl rfl rfl dX3_whyDark_57 (fun r57 M57 hp57 => ?_)
          obtain ⟨rfl, rfl⟩ := hp57
          refine r_icmp_le (pc := 60) X 65 (by decide) dX3_whyDark_60 (fun q60 => ?_) (fun q60 => ?_)
          · skip
            refine r_iload_n (pc := 65) X rfl dX3_whyDark_65 ?_
            refine r_aload_n (pc := 66) X rfl dX3_whyDark_66 ?_
            refine r_iload_n (pc := 67) X rfl dX3_whyDark_67 ?_
            refine ca_X3_47 (pc := 68) X (c_X3_beamWind hm hr) hm rfl rfl rfl dX3_whyDark_68 (fun r68 M68 hp68 => ?_)
            obtain ⟨rfl, rfl⟩ := hp68
            refine r_icmp_ne (pc := 71) X 78 (by decide) dX3_whyDark_71 (fun q71 => ?_) (fun q71 => ?_)
            · skip
              refine r_iconst (pc := 78) (v := 4) X rfl dX3_whyDark_78 ?_
              exact K dX3_whyDark_79 ⟨by clear K X; grind [bi, bi_0, bi_n0], rfl⟩
            · skip
              refine r_iconst (pc := 74) (v := 0) X rfl dX3_whyDark_74 ?_
              refine r_goto (pc := 75) X 79 (by decide) dX3_whyDark_75 ?_
              exact K dX3_whyDark_79 ⟨by clear K X; grind [bi, bi_0, bi_n0], rfl⟩
          · skip
            refine r_iconst (pc := 63) (v := 3) X rfl dX3_whyDark_63 ?_
            exact K dX3_whyDark_64 ⟨by clear K X; grind [bi, bi_0, bi_n0], rfl⟩
        · skip
          refine r_iconst (pc := 51) (v := 2) X rfl dX3_whyDark_51 ?_
          exact K dX3_whyDark_52 ⟨by clear K X; grind [bi, bi_0, bi_n0], rfl⟩
      · skip
        refine r_iconst (pc := 40) (v := 1) X rfl dX3_whyDark_40 ?_
        exact K dX3_whyDark_41 ⟨by clear K X; grind [bi, bi_0, bi_n0], rfl⟩
    · skip
      exact absurd q12 (by rw [show jin (nI c) 0 99 = true from jin_nI (j := c) (n := 99) (by omega) (by decide)]; decide)

set_option maxHeartbeats 4000000 in
set_option maxRecDepth 100000 in
theorem c_X3_told {G : bkG} {Z : Nat → Prop} {M : bkM} {a B i : Nat} {s : Nat → Int32} (hm : M a = some (.inr (3, ltF B s i))) (hi : i < 4) (hw : M (B + 2 + i) = some (aI G 100 (cwd i))) (hds : M (B + 7 + i) = some (aI G 100 (cds i))) (w hr : Int32) : bkCi G Z Z yX3_told cX3_told 3 (some .int) 3 0 0 [.ref a, .int w, .int hr] M (fun v M' => v = (if w = 0 then s (100 + 5 * i + 0) else if w = 1 then s (100 + 5 * i + 1) else if w = 2 then s (100 + 5 * i + 2) else if w = 3 then s (100 + 5 * i + 3) else if w = 4 then s (100 + 5 * i + 4) else if w = 5 then jbm s i hr else if w = 6 then nI (jct (fun c => clit s i c hr 0) 100) else -2) ∧ M' = M) := by
  refine bk_meti [some (.ref a), some (.int w), some (.int hr)] rfl pf_X3_told rfl rfl (fun E X K => ?_)
  refine r_iload_n (pc := 0) X rfl dX3_told_0 ?_
  rcases tb_case 6 (by decide) w with ⟨w9, hw9, rfl⟩ | ⟨hq, hne⟩
  · match w9, hw9 with
    | 0, _ =>
      refine r_tableIn (pc := 1) X 44 (by decide) (by decide) rfl (by decide) dX3_told_1 ?_
      refine r_aload_n (pc := 44) X rfl dX3_told_44 ?_
      refine gt_X3_44 (pc := 45) X hm rfl dX3_told_45 ?_
      exact K dX3_told_48 ⟨by first | rfl | rw [if_neg n0, if_neg n1, if_neg n2, if_neg n3, if_neg n4, if_neg n5, if_neg n6], rfl⟩
    | 1, _ =>
      refine r_tableIn (pc := 1) X 49 (by decide) (by decide) rfl (by decide) dX3_told_1 ?_
      refine r_aload_n (pc := 49) X rfl dX3_told_49 ?_
      refine gt_X3_9 (pc := 50) X hm rfl dX3_told_50 ?_
      exact K dX3_told_53 ⟨by first | rfl | rw [if_neg n0, if_neg n1, if_neg n2, if_neg n3, if_neg n4, if_neg n5, if_neg n6], rfl⟩
    | 2, _ =>
      refine r_tableIn (pc := 1) X 54 (by decide) (by decide) rfl (by decide) dX3_told_1 ?_
      refine r_aload_n (pc := 54) X rfl dX3_told_54 ?_
      refine gt_X3_15 (pc := 55) X hm rfl dX3_told_55 ?_
      exact K dX3_told_58 ⟨by first | rfl | rw [if_neg n0, if_neg n1, if_neg n2, if_neg n3, if_neg n4, if_neg n5, if_neg n6], rfl⟩
    | 3, _ =>
      refine r_tableIn (pc := 1) X 59 (by decide) (by decide) rfl (by decide) dX3_told_1 ?_
      refine r_aload_n (pc := 59) X rfl dX3_told_59 ?_
      refine gt_X3_18 (pc := 60) X hm rfl dX3_told_60 ?_
      exact K dX3_told_63 ⟨by first | rfl | rw [if_neg n0, if_neg n1, if_neg n2, if_neg n3, if_neg n4, if_neg n5, if_neg n6], rfl⟩
    | 4, _ =>
      refine r_tableIn (pc := 1) X 64 (by decide) (by decide) rfl (by decide) dX3_told_1 ?_
      refine r_aload_n (pc := 64) X rfl dX3_told_64 ?_
      refine gt_X3_21 (pc := 65) X hm rfl dX3_told_65 ?_
      exact K dX3_told_68 ⟨by first | rfl | rw [if_neg n0, if_neg n1, if_neg n2, if_neg n3, if_neg n4, if_neg n5, if_neg n6], rfl⟩
    | 5, _ =>
      refine r_tableIn (pc := 1) X 69 (by decide) (by decide) rfl (by decide) dX3_told_1 ?_
      refine r_aload_n (pc := 69) X rfl dX3_told_69 ?_
      refine r_iload_n (pc := 70) X rfl dX3_told_70 ?_
      refine ca_X3_47 (pc := 71) X (c_X3_beamWind hm hr) hm rfl rfl rfl dX3_told_71 (fun r71 M71 hp71 => ?_)
      obtain ⟨rfl, rfl⟩ := hp71
      exact K dX3_told_74 ⟨by first | rfl | rw [if_neg n0, if_neg n1, if_neg n2, if_neg n3, if_neg n4, if_neg n5, if_neg n6], rfl⟩
    | 6, _ =>
      refine r_tableIn (pc := 1) X 75 (by decide) (by decide) rfl (by decide) dX3_told_1 ?_
      refine r_aload_n (pc := 75) X rfl dX3_told_75 ?_
      refine r_iload_n (pc := 76) X rfl dX3_told_76 ?_
      refine ca_X3_51 (pc := 77) X (c_X3_litCells hm hi hw hds hr) hm rfl rfl rfl dX3_told_77 (fun r77 M77 hp77 => ?_)
      obtain ⟨rfl, rfl⟩ := hp77
      exact K dX3_told_80 ⟨by first | rfl | rw [if_neg n0, if_neg n1, if_neg n2, if_neg n3, if_neg n4, if_neg n5, if_neg n6], rfl⟩
    | w9 + 7, hw9 => exact absurd hw9 (by omega)
  · refine r_tableOut (pc := 1) X 81 hq (by decide) dX3_told_1 ?_
    have n0 : w ≠ 0 := hne 0 (by omega)
    have n1 : w ≠ 1 := hne 1 (by omega)
    have n2 : w ≠ 2 := hne 2 (by omega)
    have n3 : w ≠ 3 := hne 3 (by omega)
    have n4 : w ≠ 4 := hne 4 (by omega)
    have n5 : w ≠ 5 := hne 5 (by omega)
    have n6 : w ≠ 6 := hne 6 (by omega)
    refine r_bipush (pc := 81) (v := (-2)) X rfl dX3_told_81 ?_
    exact K dX3_told_83 ⟨by first | rfl | rw [if_neg n0, if_neg n1, if_neg n2, if_neg n3, if_neg n4, if_neg n5, if_neg n6], rfl⟩

theorem ltF_0 {B i : Nat} {s : Nat → Int32} {v : Int32} : (ltF B s i).set 3 (.int v) = ltF B (upd s (100 + 5 * i + 0) v) i := by simp [ltF, upd]
theorem ltF_1 {B i : Nat} {s : Nat → Int32} {v : Int32} : (ltF B s i).set 4 (.int v) = ltF B (upd s (100 + 5 * i + 1) v) i := by simp [ltF, upd]
theorem ltF_2 {B i : Nat} {s : Nat → Int32} {v : Int32} : (ltF B s i).set 5 (.int v) = ltF B (upd s (100 + 5 * i + 2) v) i := by simp [ltF, upd]
theorem ltF_3 {B i : Nat} {s : Nat → Int32} {v : Int32} : (ltF B s i).set 6 (.int v) = ltF B (upd s (100 + 5 * i + 3) v) i := by simp [ltF, upd]
theorem ltF_4 {B i : Nat} {s : Nat → Int32} {v : Int32} : (ltF B s i).set 7 (.int v) = ltF B (upd s (100 + 5 * i + 4) v) i := by simp [ltF, upd]
set_option maxHeartbeats 4000000 in
set_option maxRecDepth 100000 in
theorem c_X3_set {G : bkG} {Z : Nat → Prop} {M : bkM} {a B i : Nat} {s : Nat → Int32} (hm : M a = some (.inr (3, ltF B s i))) (w : Nat) (hw : w < 4) (v : Int32) : bkCv G Z Z yX3_set cX3_set 3 0 0 0 [.ref a, .int (nI w), .int v] M (fun M' => M' = bku M a (.inr (3, ltF B (upd s (100 + 5 * i + w) v) i))) := by
  refine bk_metv [some (.ref a), some (.int (nI w)), some (.int v)] rfl pf_X3_set rfl rfl (fun E X hn K => ?_)
  refine r_iload_n (pc := 0) X rfl dX3_set_0 ?_
  match w, hw with
  | 0, _ =>
    refine r_tableIn (pc := 1) X 28 (by decide) (by decide) rfl (by decide) dX3_set_1 ?_
    refine r_aload_n (pc := 28) X rfl dX3_set_28 ?_
    refine r_iload_n (pc := 29) X rfl dX3_set_29 ?_
    refine pt_X3_44 (pc := 30) X hm  rfl dX3_set_30 ?_
    refine r_goto (pc := 33) X 57 (by decide) dX3_set_33 ?_
    exact K dX3_set_57 (by first | rw [ltF_0] | rw [ltF_1] | rw [ltF_2] | rw [ltF_3])
  | 1, _ =>
    refine r_tableIn (pc := 1) X 36 (by decide) (by decide) rfl (by decide) dX3_set_1 ?_
    refine r_aload_n (pc := 36) X rfl dX3_set_36 ?_
    refine r_iload_n (pc := 37) X rfl dX3_set_37 ?_
    refine pt_X3_9 (pc := 38) X hm  rfl dX3_set_38 ?_
    refine r_goto (pc := 41) X 57 (by decide) dX3_set_41 ?_
    exact K dX3_set_57 (by first | rw [ltF_0] | rw [ltF_1] | rw [ltF_2] | rw [ltF_3])
  | 2, _ =>
    refine r_tableIn (pc := 1) X 44 (by decide) (by decide) rfl (by decide) dX3_set_1 ?_
    refine r_aload_n (pc := 44) X rfl dX3_set_44 ?_
    refine r_iload_n (pc := 45) X rfl dX3_set_45 ?_
    refine pt_X3_15 (pc := 46) X hm  rfl dX3_set_46 ?_
    refine r_goto (pc := 49) X 57 (by decide) dX3_set_49 ?_
    exact K dX3_set_57 (by first | rw [ltF_0] | rw [ltF_1] | rw [ltF_2] | rw [ltF_3])
  | 3, _ =>
    refine r_tableOut (pc := 1) X 52 (by decide) (by decide) dX3_set_1 ?_
    refine r_aload_n (pc := 52) X rfl dX3_set_52 ?_
    refine r_iload_n (pc := 53) X rfl dX3_set_53 ?_
    refine pt_X3_18 (pc := 54) X hm  rfl dX3_set_54 ?_
    exact K dX3_set_57 (by first | rw [ltF_0] | rw [ltF_1] | rw [ltF_2] | rw [ltF_3])
  | w + 4, hw => exact absurd hw (by omega)

set_option maxHeartbeats 4000000 in
set_option maxRecDepth 100000 in
theorem c_X3_turnDark {G : bkG} {Z : Nat → Prop} {M : bkM} {a B i : Nat} {s : Nat → Int32} (hm : M a = some (.inr (3, ltF B s i))) (w : Int32) : bkCv G Z Z yX3_turnDark cX3_turnDark 2 0 0 0 [.ref a, .int w] M (fun M' => M' = bku M a (.inr (3, ltF B (upd s (100 + 5 * i + 3) (s (100 + 5 * i + 3) ^^^ ((1 : Int32) <<< (w &&& 31)))) i))) := by
  refine bk_metv [some (.ref a), some (.int w)] rfl pf_X3_turnDark rfl rfl (fun E X hn K => ?_)
  refine r_aload_n (pc := 0) X rfl dX3_turnDark_0 ?_
  refine r_dup (pc := 1) X rfl dX3_turnDark_1 ?_
  refine gt_X3_18 (pc := 2) X hm rfl dX3_turnDark_2 ?_
  refine r_iconst (pc := 5) (v := 1) X rfl dX3_turnDark_5 ?_
  refine r_iload_n (pc := 6) X rfl dX3_turnDark_6 ?_
  refine r_ishl (pc := 7) X dX3_turnDark_7 ?_
  refine r_ixor (pc := 8) X dX3_turnDark_8 ?_
  refine pt_X3_18 (pc := 9) X hm  rfl dX3_turnDark_9 ?_
  exact K dX3_turnDark_12 (by rw [ltF_3])

set_option maxHeartbeats 4000000 in
set_option maxRecDepth 100000 in
theorem c_X3_layCard {G : bkG} {Z : Nat → Prop} {M : bkM} {a B i : Nat} {s : Nat → Int32} (hm : M a = some (.inr (3, ltF B s i))) : bkCv G Z Z yX3_layCard cX3_layCard 1 1 0 0 [.ref a] M (fun M' => M' = bku M a (.inr (3, ltF B (upd s (100 + 5 * i + 4) (cmin (s (100 + 5 * i + 4) + 3) 9)) i))) := by
  refine bk_metv [some (.ref a)] rfl pf_X3_layCard rfl rfl (fun E X hn K => ?_)
  refine r_aload_n (pc := 0) X rfl dX3_layCard_0 ?_
  refine r_aload_n (pc := 1) X rfl dX3_layCard_1 ?_
  refine gt_X3_21 (pc := 2) X hm rfl dX3_layCard_2 ?_
  refine r_iconst (pc := 5) (v := 3) X rfl dX3_layCard_5 ?_
  refine r_iadd (pc := 6) X dX3_layCard_6 ?_
  refine r_bipush (pc := 7) (v := 9) X rfl dX3_layCard_7 ?_
  refine ca_X3_54 (pc := 9) X (c_J9_min_7cf53 (s (100 + 5 * i + 4) + 3) 9) rfl rfl rfl dX3_layCard_9 (fun r9 M9 hp9 => ?_)
  obtain ⟨rfl, rfl⟩ := hp9
  refine pt_X3_21 (pc := 12) X hm  rfl dX3_layCard_12 ?_
  exact K dX3_layCard_15 (by rw [ltF_4])

theorem bku_self {M : bkM} {a : Nat} {e : va_E} (h : M a = some e) : bku M a e = M := by
  funext x
  unfold bku
  by_cases h1 : x = a
  · subst h1; rw [if_pos rfl]; exact h.symm
  · rw [if_neg h1]
set_option maxHeartbeats 4000000 in
set_option maxRecDepth 100000 in
theorem c_X3_thinFog {G : bkG} {Z : Nat → Prop} {M : bkM} {a B i : Nat} {s : Nat → Int32} (hm : M a = some (.inr (3, ltF B s i))) : bkCv G Z Z yX3_thinFog cX3_thinFog 1 0 0 0 [.ref a] M (fun M' => M' = bku M a (.inr (3, ltF B (upd s (100 + 5 * i + 4) (if s (100 + 5 * i + 4) ≤ 0 then s (100 + 5 * i + 4) else s (100 + 5 * i + 4) - 1)) i))) := by
  refine bk_metv [some (.ref a)] rfl pf_X3_thinFog rfl rfl (fun E X hn K => ?_)
  refine r_aload_n (pc := 0) X rfl dX3_thinFog_0 ?_
  refine gt_X3_21 (pc := 1) X hm rfl dX3_thinFog_1 ?_
  refine r_if_le (pc := 4) X 17 (by decide) dX3_thinFog_4 (fun q4 => ?_) (fun q4 => ?_)
  · skip
    exact K dX3_thinFog_17 (by first | rw [if_pos q4, upd_self, bku_self hm] | rw [ltF_4, if_neg q4])
  · skip
    refine r_aload_n (pc := 7) X rfl dX3_thinFog_7 ?_
    refine r_dup (pc := 8) X rfl dX3_thinFog_8 ?_
    refine gt_X3_21 (pc := 9) X hm rfl dX3_thinFog_9 ?_
    refine r_iconst (pc := 12) (v := 1) X rfl dX3_thinFog_12 ?_
    refine r_isub (pc := 13) X dX3_thinFog_13 ?_
    refine pt_X3_21 (pc := 14) X hm  rfl dX3_thinFog_14 ?_
    exact K dX3_thinFog_17 (by first | rw [if_pos q4, upd_self, bku_self hm] | rw [ltF_4, if_neg q4])

