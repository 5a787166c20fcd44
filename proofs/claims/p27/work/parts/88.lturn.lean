/-! the law: one turn of its loop -/
set_option maxHeartbeats 4000000 in
set_option maxRecDepth 100000 in
theorem lw_h {E : bkEnv} {G : bkG} {x : Nat} {M : bkM} {j : Nat} {A : jA} {S O : Nat → Nat → Int32} {od : Nat → Nat} {t : Nat → Int32} {len : Nat} {pc pl : Int32} {pf : Nat → Nat → Int32} {Sq Oq : Nat → Nat → Int32} {odq : Nat → Nat} {tq : Nat → Int32} {lenq : Nat} {pcq plq : Int32} {pfq : Nat → Nat → Int32} {a : Nat} {c6 c7 : Int32} (X : bkX E G RL cL_law 7 ret room_1) (hL : G.2.2.2.2.1 < 1000) (hj : j < 44) (hO : LJ S O od t len A) (hQ : LJ Sq Oq odq tq lenq A) (hJ : JJ (80 * (j + 1)) A) (ha : x + 370 ≤ a) (KB : ∀ (A : jA) (S O : Nat → Nat → Int32) (od : Nat → Nat) (t : Nat → Int32) (len : Nat) (pc pl : Int32) (pf : Nat → Nat → Int32) (Sq Oq : Nat → Nat → Int32) (odq : Nat → Nat) (tq : Nat → Int32) (lenq : Nat) (pcq plq : Int32) (pfq : Nat → Nat → Int32) (a : Nat), LJ S O od t len A → LJ Sq Oq odq tq lenq A → JJ (80 * (j + 1)) A → x + 370 ≤ a → ∀ c6 c7 : Int32, bkV E G (fun z => z = a) (372 + j) (4102 + 4 * j) (xW G x S O od (nI (jaN A)) (jaK A) t (nI len) pc pl pf (xW G (x + 185) Sq Oq odq (nI (jaN A)) (jaK A) tq (nI lenq) pcq plq pfq M)) 156 [some (.ref (G.2.2.2.1 3)), some (.ref x), some (.ref (x + 185)), some (.int 1), some (.int (nI j)), some (.int c6), some (.int c7)] []) : bkV E G (fun z => z = a) (371 + j) (4098 + 4 * j) (xW G x S O od (nI (jaN A)) (jaK A) t (nI len) pc pl pf (xW G (x + 185) Sq Oq odq (nI (jaN A)) (jaK A) tq (nI lenq) pcq plq pfq M)) 131 [some (.ref (G.2.2.2.1 3)), some (.ref x), some (.ref (x + 185)), some (.int 1), some (.int (nI j)), some (.int c6), some (.int c7)] [] := by
  obtain ⟨n0, h0, hw0, hI0, hh0⟩ := hJ.at
  have hQo : bkV E G (fun z => z = a) (371 + j) (4098 + 4 * j) (xW G x S O od (nI (jaN A)) (jaK A) t (nI len) pc pl pf (xW G (x + 185) Sq Oq odq (nI (jaN A)) (jaK A) tq (nI lenq) pcq plq pfq M)) 150 [some (.ref (G.2.2.2.1 3)), some (.ref x), some (.ref (x + 185)), some (.int 1), some (.int (nI j)), some (.int c6), some (.int c7)] [.ref x] := by
    refine bkV.eq hO.eq ?_
    refine ca_L_92 (pc := 150) X (c_L_hangs (S := pfu S 0 (jaS A)) (O := O) (hO.cok2 hw0) (by rw [pfu_at]; exact hI0) (by omega) (by omega) hO.np.1) (bk_rm rfl rfl (by show _ ≤ 600000; omega) (by show _ ≤ 7302249; omega)) rfl rfl dL_law_150 (fun r150 M150 hp150 => ?_)
    obtain ⟨rfl, s1, g1, rfl⟩ := hp150
    have hO := (hO.strict).trial (s1 := s1) (g1 := g1)
    refine r_if_eq (pc := 153) X 160 (by decide) dL_law_153 (fun q153 => absurd q153 (by decide)) (fun q153 => ?_)
    exact bkV.widen (by omega) (by omega) (KB A _ _ _ _ _ _ _ _ _ _ _ _ _ _ _ _ (a + 1) hO hQ hJ (by omega) _ _)
  have hQq : bkV E G (fun z => z = a) (371 + j) (4098 + 4 * j) (xW G x S O od (nI (jaN A)) (jaK A) t (nI len) pc pl pf (xW G (x + 185) Sq Oq odq (nI (jaN A)) (jaK A) tq (nI lenq) pcq plq pfq M)) 150 [some (.ref (G.2.2.2.1 3)), some (.ref x), some (.ref (x + 185)), some (.int 1), some (.int (nI j)), some (.int c6), some (.int c7)] [.ref (x + 185)] := by
    refine bkV.eq (xx_comm (Nat.le_refl _)).symm ?_
    refine bkV.eq hQ.eq ?_
    refine ca_L_92 (pc := 150) X (c_L_hangs (S := pfu Sq 0 (jaS A)) (O := Oq) (hQ.cok2 hw0) (by rw [pfu_at]; exact hI0) (by omega) (by omega) hQ.np.1) (bk_rm rfl rfl (by show _ ≤ 600000; omega) (by show _ ≤ 7302249; omega)) rfl rfl dL_law_150 (fun r150 M150 hp150 => ?_)
    obtain ⟨rfl, s2, g2, rfl⟩ := hp150
    have hQ := (hQ.strict).trial (s1 := s2) (g1 := g2)
    refine bkV.eq (xx_comm (Nat.le_refl _)) ?_
    refine r_if_eq (pc := 153) X 160 (by decide) dL_law_153 (fun q153 => absurd q153 (by decide)) (fun q153 => ?_)
    exact bkV.widen (by omega) (by omega) (KB A _ _ _ _ _ _ _ _ _ _ _ _ _ _ _ _ (a + 1) hO hQ hJ (by omega) _ _)
  refine r_iload (pc := 131) X rfl dL_law_131 ?_
  refine r_iconst (pc := 133) (v := 5) X rfl dL_law_133 ?_
  refine r_irem (pc := 134) X (by decide) dL_law_134 ?_
  refine bk_top (pk_rem (a := j) (d := 5) (by omega) (by omega) (by omega)) ?_
  refine r_if_gt (pc := 135) X 156 (by decide) dL_law_135 (fun q135 => ?_) (fun q135 => ?_)
  · skip
    exact bkV.widen (by omega) (by omega) (KB A _ _ _ _ _ _ _ _ _ _ _ _ _ _ _ _ a hO hQ hJ (by omega) _ _)
  · skip
    refine r_iload (pc := 138) X rfl dL_law_138 ?_
    refine r_iconst (pc := 140) (v := 2) X rfl dL_law_140 ?_
    refine r_irem (pc := 141) X (by decide) dL_law_141 ?_
    refine bk_top (pk_rem (a := j) (d := 2) (by omega) (by omega) (by omega)) ?_
    refine r_if_ne (pc := 142) X 149 (by decide) dL_law_142 (fun q142 => ?_) (fun q142 => ?_)
    · skip
      refine r_aload_n (pc := 149) X rfl dL_law_149 ?_
      first
      | (have hQ9 := hQo; exact hQ9)
      | (have hQ9 := hQq; exact hQ9)
    · skip
      refine r_aload_n (pc := 145) X rfl dL_law_145 ?_
      refine r_goto (pc := 146) X 150 (by decide) dL_law_146 ?_
      first
      | (have hQ9 := hQo; exact hQ9)
      | (have hQ9 := hQq; exact hQ9)

set_option maxHeartbeats 4000000 in
set_option maxRecDepth 100000 in
theorem lw_turn {E : bkEnv} {G : bkG} {x : Nat} {M : bkM} {j : Nat} {A : jA} {S O : Nat → Nat → Int32} {od : Nat → Nat} {t : Nat → Int32} {len : Nat} {pc pl : Int32} {pf : Nat → Nat → Int32} {Sq Oq : Nat → Nat → Int32} {odq : Nat → Nat} {tq : Nat → Int32} {lenq : Nat} {pcq plq : Int32} {pfq : Nat → Nat → Int32} {a : Nat}  (X : bkX E G RL cL_law 7 ret room_1) (hL : G.2.2.2.2.1 < 1000) (hj : j < 44) (hO : LJ S O od t len A) (hQ : LJ Sq Oq odq tq lenq A) (hJ : JJ (80 * j) A) (ha : x + 370 ≤ a) (KB : ∀ (A : jA) (S O : Nat → Nat → Int32) (od : Nat → Nat) (t : Nat → Int32) (len : Nat) (pc pl : Int32) (pf : Nat → Nat → Int32) (Sq Oq : Nat → Nat → Int32) (odq : Nat → Nat) (tq : Nat → Int32) (lenq : Nat) (pcq plq : Int32) (pfq : Nat → Nat → Int32) (a : Nat), LJ S O od t len A → LJ Sq Oq odq tq lenq A → JJ (80 * (j + 1)) A → x + 370 ≤ a → ∀ c6 c7 : Int32, bkV E G (fun z => z = a) (372 + j) (4102 + 4 * j) (xW G x S O od (nI (jaN A)) (jaK A) t (nI len) pc pl pf (xW G (x + 185) Sq Oq odq (nI (jaN A)) (jaK A) tq (nI lenq) pcq plq pfq M)) 156 [some (.ref (G.2.2.2.1 3)), some (.ref x), some (.ref (x + 185)), some (.int 1), some (.int (nI j)), some (.int c6), some (.int c7)] []) : bkV E G (fun z => z = a) (371 + j) (4098 + 4 * j) (xW G x S O od (nI (jaN A)) (jaK A) t (nI len) pc pl pf (xW G (x + 185) Sq Oq odq (nI (jaN A)) (jaK A) tq (nI lenq) pcq plq pfq M)) 77 [some (.ref (G.2.2.2.1 3)), some (.ref x), some (.ref (x + 185)), some (.int 1), some (.int (nI j)), none, none] [] := by
  refine r_aload_n (pc := 77) X rfl dL_law_77 ?_
  refine r_iload (pc := 78) X rfl dL_law_78 ?_
  refine ca_L_98 (pc := 80) X (c_L_cell j (by omega) hL) (bk_rm rfl rfl (by show _ ≤ 600000; omega) (by show _ ≤ 7302249; omega)) rfl rfl dL_law_80 (fun r80 M80 hp80 => ?_)
  obtain ⟨c, hc, rfl, rfl⟩ := hp80
  refine r_istore (pc := 83) X rfl rfl dL_law_83 ?_
  refine r_aload_n (pc := 85) X rfl dL_law_85 ?_
  refine r_iload (pc := 86) X rfl dL_law_86 ?_
  refine ca_L_102 (pc := 88) X (c_L_acts hO c hc) (bk_rm rfl rfl (by show _ ≤ 600000; omega) (by show _ ≤ 7302249; omega)) rfl rfl dL_law_88 (fun r88 M88 hp88 => ?_)
  obtain ⟨rfl, S1, O1, od1, t1, len1, pc1, pl1, pf1, rfl, hO1⟩ := hp88
  have hJ1 : JJ (80 * (j + 1)) (jacts A c).2 := (hJ.acts (by omega) c).mono (by omega)
  obtain ⟨n1, h1, hw1, hI1, hh1⟩ := hJ1.at
  refine r_istore (pc := 91) X rfl rfl dL_law_91 ?_
  have K112 : ∀ (Sq Oq : Nat → Nat → Int32) (odq : Nat → Nat) (tq : Nat → Int32) (lenq : Nat) (pcq plq : Int32) (pfq : Nat → Nat → Int32), LJ Sq Oq odq tq lenq A → bkV E G (fun z => z = a) (371 + j) (4098 + 4 * j) (xW G x S1 O1 od1 (nI (jaN (jacts A c).2)) (jaK (jacts A c).2) t1 (nI len1) pc1 pl1 pf1 (xW G (x + 185) Sq Oq odq (nI (jaN A)) (jaK A) tq (nI lenq) pcq plq pfq M)) 112 [some (.ref (G.2.2.2.1 3)), some (.ref x), some (.ref (x + 185)), some (.int 1), some (.int (nI j)), some (.int (nI c)), some (.int (jacts A c).1)] [] := by
    intro Sq Oq odq tq lenq pcq plq pfq hQ
    refine r_aload_n (pc := 112) X rfl dL_law_112 ?_
    refine r_iload (pc := 113) X rfl dL_law_113 ?_
    refine bkV.eq (xx_comm (Nat.le_refl _)).symm ?_
    refine ca_L_102 (pc := 115) X (c_L_acts hQ c hc) (bk_rm rfl rfl (by show _ ≤ 600000; omega) (by show _ ≤ 7302249; omega)) rfl rfl dL_law_115 (fun r115 M115 hp115 => ?_)
    obtain ⟨rfl, S3, O3, od3, t3, len3, pc3, pl3, pf3, rfl, hQ3⟩ := hp115
    refine bkV.eq (xx_comm (Nat.le_refl _)) ?_
    refine r_iload (pc := 118) X rfl dL_law_118 ?_
    refine r_icmp_ne (pc := 120) X 160 (by decide) dL_law_120 (fun q120 => ?_) (fun q120 => ?_)
    · skip
      exact absurd rfl q120
    · skip
      refine r_aload_n (pc := 123) X rfl dL_law_123 ?_
      refine r_aload_n (pc := 124) X rfl dL_law_124 ?_
      refine bkV.eq hO1.eq ?_
      refine bkV.eq (xx_comm (Nat.le_refl _)).symm ?_
      refine bkV.eq hQ3.eq ?_
      refine bkV.eq (xx_comm (Nat.le_refl _)) ?_
      refine ca_L_111 (pc := 125) X (c_L_same (s := jaS (jacts A c).2) (n := n1) (Nat.le_refl _) pfu_at pfu_at (hO1.cok3 hw1) (hQ3.cok3 hw1)) (bk_rm rfl rfl (by show _ ≤ 600000; omega) (by show _ ≤ 7302249; omega)) rfl rfl dL_law_125 (fun r125 M125 hp125 => ?_)
      obtain ⟨rfl, rfl⟩ := hp125
      refine r_if_eq (pc := 128) X 160 (by decide) dL_law_128 (fun q128 => ?_) (fun q128 => ?_)
      · skip
        exact absurd q128 (by decide)
      · skip
        exact lw_h X hL hj hO1.strict hQ3.strict hJ1 ha KB
  refine r_iload (pc := 93) X rfl dL_law_93 ?_
  refine r_iconst (pc := 95) (v := 3) X rfl dL_law_95 ?_
  refine r_irem (pc := 96) X (by decide) dL_law_96 ?_
  refine bk_top (pk_rem (a := j) (d := 3) (by omega) (by omega) (by omega)) ?_
  refine r_if_gt (pc := 97) X 112 (by decide) dL_law_97 (fun q97 => ?_) (fun q97 => ?_)
  · skip
    first | exact K112 _ _ _ _ _ _ _ _ hQ2 | exact K112 _ _ _ _ _ _ _ _ hQ
  · skip
    refine r_aload_n (pc := 100) X rfl dL_law_100 ?_
    refine r_iload (pc := 101) X rfl dL_law_101 ?_
    refine r_ldc (pc := 103) X co_L_106 dL_law_103 ?_
    refine r_irem (pc := 105) X (by decide) dL_law_105 ?_
    refine bk_top (pk_rem (a := c) (d := 100000) (by omega) (by omega) (by omega)) ?_
    refine bkV.eq (xx_comm (Nat.le_refl _)).symm ?_
    refine ca_L_107 (pc := 106) X (c_L_refuses hQ hJ (c % 100000) (Nat.mod_lt _ (by omega))) (bk_rm rfl rfl (by show _ ≤ 600000; omega) (by show _ ≤ 7302249; omega)) rfl rfl dL_law_106 (fun r106 M106 hp106 => ?_)
    obtain ⟨rfl, S2, O2, od2, t2, len2, pc2, pl2, pf2, rfl, hQ2⟩ := hp106
    refine bkV.eq (xx_comm (Nat.le_refl _)) ?_
    refine r_if_eq (pc := 109) X 160 (by decide) dL_law_109 (fun q109 => ?_) (fun q109 => ?_)
    · skip
      exact absurd (show (1 : Int32) = 0 from q109) (by decide)
    · skip
      first | exact K112 _ _ _ _ _ _ _ _ hQ2 | exact K112 _ _ _ _ _ _ _ _ hQ

