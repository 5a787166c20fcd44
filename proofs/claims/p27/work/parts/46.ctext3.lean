set_option maxHeartbeats 4000000 in
set_option maxRecDepth 100000 in
theorem c_X7_readShip {G : bkG} {Z : Nat → Prop} {M : bkM} {T : Nat} {t : Nat → Int32} {pc : Int32} {pf : Nat → Nat → Int32} {len p i : Nat} (h60 : len ≤ 60) (hp : p ≤ len) (ht : tOK t) (hi : i < 20) (f : Nat → Int32) : bkCi G Z Z yX7_readShip cX7_readShip 2 (some .boolean) 3 0 0 [.ref T, .ref (T + 3 + i)] (tW G T t (nI len) pc (nI p) (pfu pf i f) M) (fun v M' => v = bi (!(jqx t len 115 (p, false)).2) ∧ ∃ f', M' = (tW G T t (nI len) pc (nI (jqx t len 115 (p, false)).1) (pfu pf i f') M) ∧ ((jqx t len 115 (p, false)).2 = false → f' 0 = f 0 ∧ f' 1 = jqa t len 115 (p, false) ∧ f' 2 = jqb t len 115 (p, false) 0 ∧ f' 3 = jqc t len 115 (p, false) 0)) := by
  refine bk_metz [some (.ref T), some (.ref (T + 3 + i))] rfl pf_X7_readShip rfl rfl (fun E X K => ?_)
  refine r_aload_n (pc := 0) X rfl dX7_readShip_0 ?_
  refine r_aload_n (pc := 1) X rfl dX7_readShip_1 ?_
  refine r_bipush (pc := 2) (v := 99) X rfl dX7_readShip_2 ?_
  refine ca_X7_68 (pc := 4) X (c_X7_readNumber h60 hp ht 99 (Or.inl rfl)) tW_o rfl rfl rfl dX7_readShip_4 (fun r4 M4 hp4 => ?_)
  obtain ⟨rfl, rfl⟩ := hp4
  refine pt_X7_62 (pc := 7) X (tW_qu hi)  rfl dX7_readShip_7 ?_
  refine bkV.eq ((congrArg (fun z => bku _ _ (.inr (4, z))) ptF_1).trans (tS_qu hi)) ?_
  refine r_aload_n (pc := 10) X rfl dX7_readShip_10 ?_
  refine gt_X7_62 (pc := 11) X (tW_qu hi) rfl dX7_readShip_11 ?_
  refine r_if_lt (pc := 14) X 26 (by decide) dX7_readShip_14 (fun q14 => ?_) (fun q14 => ?_)
  · skip
    have E := knm_neg.mp q14
    have EQ := jqs_1 (t := t) (len := len) (x := (p, false)) E
    refine r_iconst (pc := 26) (v := 0) X rfl dX7_readShip_26 ?_
    exact K dX7_readShip_27 (Or.inl rfl) ⟨by rw [EQ, E]; rfl, _, by rw [EQ], fun z => by rw [EQ, E] at z; cases z⟩
  · skip
    obtain ⟨a1, e1, k1⟩ := knm_ok q14
    have ha1 : a1 ≤ len := by have := jns_le (t := t) (m := 99) (x := (p, false)) hp; rw [e1] at this; exact this
    rw [e1]
    refine r_aload_n (pc := 17) X rfl dX7_readShip_17 ?_
    refine r_bipush (pc := 18) (v := 58) X rfl dX7_readShip_18 ?_
    refine ca_X7_36 (pc := 20) X (c_X7_readSign h60 ha1 ht 58 (by decide) (by decide)) tW_o rfl rfl rfl dX7_readShip_20 (fun r20 M20 hp20 => ?_)
    obtain ⟨rfl, rfl⟩ := hp20
    refine r_if_ne (pc := 23) X 28 (by decide) dX7_readShip_23 (fun q23 => ?_) (fun q23 => ?_)
    · skip
      obtain ⟨a2, e2⟩ := jsg_ex q23
      have ha2 : a2 ≤ len := by have := jsg_le (t := t) (c := 58) (x := (a1, false)) (by decide) ha1; rw [e2] at this; exact this
      rw [e2]
      refine r_aload_n (pc := 28) X rfl dX7_readShip_28 ?_
      refine r_aload_n (pc := 29) X rfl dX7_readShip_29 ?_
      refine ca_X7_48 (pc := 30) X (c_X7_readCell h60 ha2 ht) tW_o rfl rfl rfl dX7_readShip_30 (fun r30 M30 hp30 => ?_)
      obtain ⟨rfl, rfl⟩ := hp30
      refine pt_X7_52 (pc := 33) X (tW_qu hi)  rfl dX7_readShip_33 ?_
      refine bkV.eq ((congrArg (fun z => bku _ _ (.inr (4, z))) ptF_2).trans (tS_qu hi)) ?_
      refine r_aload_n (pc := 36) X rfl dX7_readShip_36 ?_
      refine gt_X7_52 (pc := 37) X (tW_qu hi) rfl dX7_readShip_37 ?_
      refine r_if_lt (pc := 40) X 52 (by decide) dX7_readShip_40 (fun q40 => ?_) (fun q40 => ?_)
      · skip
        have E := kcl_neg.mp q40
        have EQ := jqs_3 e1 e2 E
        refine r_iconst (pc := 52) (v := 0) X rfl dX7_readShip_52 ?_
        exact K dX7_readShip_53 (Or.inl rfl) ⟨by rw [EQ, E]; rfl, _, by rw [EQ], fun z => by rw [EQ, E] at z; cases z⟩
      · skip
        obtain ⟨a3, e3, k3⟩ := kcl_ok q40
        have ha3 : a3 ≤ len := by have := jcs_le (t := t) (x := (a2, false)) ha2; rw [e3] at this; exact this
        rw [e3]
        refine r_aload_n (pc := 43) X rfl dX7_readShip_43 ?_
        refine r_bipush (pc := 44) (v := 62) X rfl dX7_readShip_44 ?_
        refine ca_X7_36 (pc := 46) X (c_X7_readSign h60 ha3 ht 62 (by decide) (by decide)) tW_o rfl rfl rfl dX7_readShip_46 (fun r46 M46 hp46 => ?_)
        obtain ⟨rfl, rfl⟩ := hp46
        refine r_if_ne (pc := 49) X 54 (by decide) dX7_readShip_49 (fun q49 => ?_) (fun q49 => ?_)
        · skip
          obtain ⟨a4, e4⟩ := jsg_ex q49
          have ha4 : a4 ≤ len := by have := jsg_le (t := t) (c := 62) (x := (a3, false)) (by decide) ha3; rw [e4] at this; exact this
          rw [e4]
          refine r_aload_n (pc := 54) X rfl dX7_readShip_54 ?_
          refine r_aload_n (pc := 55) X rfl dX7_readShip_55 ?_
          refine ca_X7_48 (pc := 56) X (c_X7_readCell h60 ha4 ht) tW_o rfl rfl rfl dX7_readShip_56 (fun r56 M56 hp56 => ?_)
          obtain ⟨rfl, rfl⟩ := hp56
          refine pt_X7_72 (pc := 59) X (tW_qu hi)  rfl dX7_readShip_59 ?_
          refine bkV.eq ((congrArg (fun z => bku _ _ (.inr (4, z))) ptF_3).trans (tS_qu hi)) ?_
          refine r_aload_n (pc := 62) X rfl dX7_readShip_62 ?_
          refine gt_X7_72 (pc := 63) X (tW_qu hi) rfl dX7_readShip_63 ?_
          refine r_if_lt (pc := 66) X 73 (by decide) dX7_readShip_66 (fun q66 => ?_) (fun q66 => ?_)
          · skip
            have E := kcl_neg.mp q66
            have EQ := jqs_5 e1 e2 e3 e4
            refine r_iconst (pc := 73) (v := 0) X rfl dX7_readShip_73 ?_
            exact K dX7_readShip_74 (by first | exact Or.inl rfl | exact Or.inr rfl) (by first | exact ⟨by rw [EQ, E]; rfl, _, by rw [EQ], fun z => by rw [EQ, E] at z; cases z⟩ | exact ⟨by rw [EQ, e5]; rfl, _, by rw [EQ], fun _ => by rw [k1, k3, k5]; unfold jqa jqb jqc; simp [e1, e2, e3, e4, upd]⟩)
          · skip
            obtain ⟨a5, e5, k5⟩ := kcl_ok q66
            have EQ := jqs_5 e1 e2 e3 e4
            refine r_iconst (pc := 69) (v := 1) X rfl dX7_readShip_69 ?_
            refine r_goto (pc := 70) X 74 (by decide) dX7_readShip_70 ?_
            exact K dX7_readShip_74 (by first | exact Or.inl rfl | exact Or.inr rfl) (by first | exact ⟨by rw [EQ, E]; rfl, _, by rw [EQ], fun z => by rw [EQ, E] at z; cases z⟩ | exact ⟨by rw [EQ, e5]; rfl, _, by rw [EQ], fun _ => by rw [k1, k3, k5]; unfold jqa jqb jqc; simp [e1, e2, e3, e4, upd]⟩)
        · skip
          have E := jsg_no q49
          have EQ := jqs_4 e1 e2 e3 E
          refine r_iconst (pc := 52) (v := 0) X rfl dX7_readShip_52 ?_
          exact K dX7_readShip_53 (Or.inl rfl) ⟨by rw [EQ, E]; rfl, _, by rw [EQ], fun z => by rw [EQ, E] at z; cases z⟩
    · skip
      have E := jsg_no q23
      have EQ := jqs_2 e1 E
      refine r_iconst (pc := 26) (v := 0) X rfl dX7_readShip_26 ?_
      exact K dX7_readShip_27 (Or.inl rfl) ⟨by rw [EQ, E]; rfl, _, by rw [EQ], fun z => by rw [EQ, E] at z; cases z⟩

