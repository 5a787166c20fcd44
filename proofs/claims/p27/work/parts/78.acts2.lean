theorem tx_all {E : bkEnv} {G : bkG} {Z : Nat → Prop} {x c y j z np : Nat} {M : bkM} {S O : Nat → Nat → Int32} {od : Nat → Nat} {kp pc pl : Int32} {pf : Nat → Nat → Int32} {x1 : (Nat → Int32) × Nat} (X : bkX E G RL cL_acts 6 (some .int) (bkR 8 0 0)) (hz2 : z < 2 ^ 31) (hl : x1.2 + 8 < 60) (K : bkV E G Z 0 0 (xW G x S O od (nI np) kp ((jzc z).foldl jty x1).1 (nI ((jzc z).foldl jty x1).2) pc pl pf M) 554 [some (.ref x), some (.int (nI c)), some (.int (nI y)), some (.int (nI ((jzc z).foldl jty x1).2)), some (.int (nI j)), some (.int (nI z))] []) : bkV E G Z 0 0 (xW G x S O od (nI np) kp x1.1 (nI x1.2) pc pl pf M) 269 [some (.ref x), some (.int (nI c)), some (.int (nI y)), some (.int (nI x1.2)), some (.int (nI j)), some (.int (nI z))] [] := by
  rcases (by omega : z % 4 = 0 ∨ z % 4 = 1 ∨ z % 4 = 2 ∨ z % 4 = 3) with q | q | q | q
  · exact tx_0 X q hz2 hl K
  · exact tx_1 X q hz2 hl K
  · exact tx_2 X q hz2 hl K
  · exact tx_3 X q hz2 hl K
theorem jag.reads {x x' : (Nat → Int32) × Nat} (h : jag x x') : jfault x.1 x.2 = jfault x'.1 x'.2 ∧ ∀ s, jdoAll x.1 x.2 s = jdoAll x'.1 x'.2 s := by
  obtain ⟨a, l⟩ := x
  obtain ⟨b, l'⟩ := x'
  obtain ⟨e, g⟩ := h
  have e' : l = l' := e
  subst e'
  exact ⟨tc_fault (tc_ag g), fun s => tc_all (tc_ag g) s⟩
theorem jaT_ag (t : Nat → Int32) (y : Nat) : jag (jtx y (1 + y % 4) (t, 0)) (jaT y) := jag.tx y (x := (t, 0)) (x' := jz0) ⟨rfl, fun p hp => absurd hp (Nat.not_lt_zero _)⟩ _
section AP
variable {G : bkG} {x : Nat} {M : bkM} {S O : Nat → Nat → Int32} {od : Nat → Nat} {t : Nat → Int32} {pc pl : Int32} {pf : Nat → Nat → Int32} {len : Nat} {go : Nat → Int32} {A : jA} {R : Int32 × jA}
theorem aPost.undo (h : LJ S O od t len A) (e : R = jaU A) : aPost G x M R (if jaN A = 0 then -5 else nI (jaN A - 1)) (if jaN A = 0 then (xW G x S O od (nI (jaN A)) (jaK A) t (nI len) pc pl pf M) else (xW G x (pfu S 0 (S (od (jaN A - 1)))) (pfu O 0 (jgm (O 0) (O (od (jaN A - 1))))) od (nI (jaN A - 1)) (jaK A) t (nI len) pc pl pf M)) := by
  subst e
  by_cases hn : jaN A = 0
  · have e2 : jaU A = (-5, A) := if_pos hn
    rw [if_pos hn, if_pos hn, e2]
    exact ⟨rfl, S, O, od, t, len, pc, pl, pf, rfl, h⟩
  · have h2 := h.undo hn
    have e2 : jaU A = (nI (jaN A - 1), (fun i => jaP A (183 * (jaN A - 1) + i), jaP A, jaQ A, jaN A - 1, jaK A)) := if_neg hn
    rw [if_neg hn, if_neg hn]
    rw [e2] at h2 ⊢
    exact ⟨rfl, _, _, od, t, len, pc, pl, pf, rfl, h2⟩
theorem aPost.keep (h : LJ S O od t len A) (hs : S 0 = jaS A) (e : R = jaE A) : aPost G x M R (S 0 181) (xW G x (pfu S 2 (S 0)) (pfu O 2 (jgm (O 2) (O 0))) od (nI (jaN A)) 1 t (nI len) pc pl pf M) := by
  subst e
  exact ⟨by rw [hs]; rfl, _, _, od, t, len, pc, pl, pf, rfl, h.keep hs⟩
theorem aPost.rest (h : LJ S O od t len A) (hs : S 0 = jaS A) (hg : xG (jRest (S 2) (jaK A)).2 go) (e : R = jap A (jRest (jaQ A) (jaK A))) : aPost G x M R (jRest (S 2) (jaK A)).1 (xA G x S O od (jaN A) (jaK A) t (nI len) pc pl pf M go (jRest (S 2) (jaK A)).2) := by
  subst e
  by_cases hz : jaK A = 0
  · have e1 : jRest (S 2) (jaK A) = (-5, none) := if_pos hz
    have e2 : jRest (jaQ A) (jaK A) = (-5, none) := if_pos hz
    rw [e1, e2]
    exact ⟨rfl, S, O, od, t, len, pc, pl, pf, rfl, h⟩
  · have e1 : jRest (S 2) (jaK A) = (S 2 181, some (S 2)) := if_neg hz
    have e2 : jRest (jaQ A) (jaK A) = (jaQ A 181, some (jaQ A)) := if_neg hz
    rw [e1] at hg ⊢
    rw [e2]
    obtain ⟨f, h⟩ := h
    have h6 := (h.2.2.2.2.2.2 hz).1
    exact ⟨(h6 181 (by omega)).symm, _, _, _, t, len, pc, pl, pf, rfl, _, h.act hs h6 (hg (S 2) rfl)⟩
theorem LJ.snap (h : LJ S O od t len A) : ¬ jaK A = 0 → ∃ m, cOK (S 2) m (O 2) := fun hz => by
  obtain ⟨f, h⟩ := h
  exact (h.2.2.2.2.2.2 hz).2
end AP
set_option maxHeartbeats 4000000 in
set_option maxRecDepth 100000 in
theorem c_L_acts {G : bkG} {Z : Nat → Prop} {M : bkM} {x : Nat} {S O : Nat → Nat → Int32} {od : Nat → Nat} {t : Nat → Int32} {pc pl : Int32} {pf : Nat → Nat → Int32} {len : Nat} {A : jA} (h : LJ S O od t len A) (c : Nat) (hc : c < 2 ^ 31) : bkCi G Z Z yL_acts cL_acts 6 (some .int) 8 0 0 [.ref x, .int (nI c)] (xW G x S O od (nI (jaN A)) (jaK A) t (nI len) pc pl pf M) (aPost G x M (jacts A c)) := by
  refine bk_meti [some (.ref x), some (.int (nI c)), none, none, none, none] rfl pf_L_acts rfl rfl (fun E X K => ?_)
  obtain ⟨n, hk0⟩ := h.cok
  obtain ⟨hnp, h0, h60, ht⟩ := h.np
  refine bkV.eq h.eq ?_
  have h := h.strict
  have hs : pfu S 0 (jaS A) 0 = jaS A := pfu_at
  generalize pfu S 0 (jaS A) = S at h hs ⊢
  have hm : jam A = n := hk0.1.tn
  have hk : cOK (S 0) n (O 0) := by rw [hs]; exact hk0
  refine r_iload_n (pc := 0) X rfl dL_acts_0 ?_
  refine r_bipush (pc := 1) (v := 32) X rfl dL_acts_1 ?_
  refine r_idiv (pc := 3) X (by decide) dL_acts_3 ?_
  refine bk_top (pk_div (a := c) (d := 32) (by omega) (by omega) (by omega)) ?_
  refine r_istore_n (pc := 4) X rfl rfl dL_acts_4 ?_
  refine r_iload_n (pc := 5) X rfl dL_acts_5 ?_
  refine r_bipush (pc := 6) (v := 32) X rfl dL_acts_6 ?_
  refine r_irem (pc := 8) X (by decide) dL_acts_8 ?_
  refine bk_top (pk_rem (a := c) (d := 32) (by omega) (by omega) (by omega)) ?_
  have J116 : c % 32 < 5 → bkV E G Z 0 0 (xW G x S O od (nI (jaN A)) (jaK A) t (nI len) pc pl pf M) 116 [some (.ref x), some (.int (nI c)), some (.int (nI (c / 32))), none, none, none] [] := by
    intro hc32
    have h32 : c % 32 < 5 := by omega
    refine r_aload_n (pc := 116) X rfl dL_acts_116 ?_
    refine r_iload_n (pc := 117) X rfl dL_acts_117 ?_
    refine r_bipush (pc := 118) (v := 100) X rfl dL_acts_118 ?_
    refine r_irem (pc := 120) X (by decide) dL_acts_120 ?_
    refine bk_top (pk_rem (a := c / 32) (d := 100) (by omega) (by omega) (by omega)) ?_
    refine ca_L_9 (pc := 121) X (c_X8_rock hnp h0 hk (nI (c / 32 % 100))) xW_o rfl rfl rfl dL_acts_121 (fun r121 M121 hp121 => ?_)
    obtain ⟨rfl, go, rfl, hgo⟩ := hp121
    exact K dL_acts_124 (aPost.of h hs (r := jRock (S 0) (nI (c / 32 % 100))) hgo (by rw [hs]; exact if_pos h32) rfl)
  have J125 : 5 ≤ c % 32 ∧ c % 32 < 8 → bkV E G Z 0 0 (xW G x S O od (nI (jaN A)) (jaK A) t (nI len) pc pl pf M) 125 [some (.ref x), some (.int (nI c)), some (.int (nI (c / 32))), none, none, none] [] := by
    intro hc32
    have h32 : c % 32 < 8 := by omega
    refine r_aload_n (pc := 125) X rfl dL_acts_125 ?_
    refine r_iload_n (pc := 126) X rfl dL_acts_126 ?_
    refine r_iconst (pc := 127) (v := 4) X rfl dL_acts_127 ?_
    refine r_irem (pc := 128) X (by decide) dL_acts_128 ?_
    refine bk_top (pk_rem (a := c / 32) (d := 4) (by omega) (by omega) (by omega)) ?_
    refine r_iload_n (pc := 129) X rfl dL_acts_129 ?_
    refine r_iconst (pc := 130) (v := 4) X rfl dL_acts_130 ?_
    refine r_idiv (pc := 131) X (by decide) dL_acts_131 ?_
    refine bk_top (pk_div (a := c / 32) (d := 4) (by omega) (by omega) (by omega)) ?_
    refine r_iconst (pc := 132) (v := 4) X rfl dL_acts_132 ?_
    refine r_irem (pc := 133) X (by decide) dL_acts_133 ?_
    refine bk_top (pk_rem (a := c / 32 / 4) (d := 4) (by omega) (by omega) (by omega)) ?_
    refine r_iconst (pc := 134) (v := 1) X rfl dL_acts_134 ?_
    refine r_iload_n (pc := 135) X rfl dL_acts_135 ?_
    refine r_bipush (pc := 136) (v := 16) X rfl dL_acts_136 ?_
    refine r_idiv (pc := 138) X (by decide) dL_acts_138 ?_
    refine bk_top (pk_div (a := c / 32) (d := 16) (by omega) (by omega) (by omega)) ?_
    refine r_iload_n (pc := 139) X rfl dL_acts_139 ?_
    refine r_iconst (pc := 140) (v := 4) X rfl dL_acts_140 ?_
    refine r_idiv (pc := 141) X (by decide) dL_acts_141 ?_
    refine bk_top (pk_div (a := c / 32) (d := 4) (by omega) (by omega) (by omega)) ?_
    refine r_iconst (pc := 142) (v := 4) X rfl dL_acts_142 ?_
    refine r_irem (pc := 143) X (by decide) dL_acts_143 ?_
    refine bk_top (pk_rem (a := c / 32 / 4) (d := 4) (by omega) (by omega) (by omega)) ?_
    refine r_iconst (pc := 144) (v := 3) X rfl dL_acts_144 ?_
    refine bkV.join 155 (stT := [.int (nI (if c / 32 / 4 % 4 = 3 then 255 else 3)), .int (nI (c / 32 / 16)), .int 1, .int (nI (c / 32 / 4 % 4)), .int (nI (c / 32 % 4)), .ref x]) ?_ (fun j155 => ?_)
    · skip
      refine r_irem (pc := 155) X (nI_ne0 (by split <;> omega) (by split <;> omega)) dL_acts_155 ?_
      refine bk_top (pk_rem (a := c / 32 / 16) (d := if c / 32 / 4 % 4 = 3 then 255 else 3) (by omega) (by split <;> omega) (by split <;> omega)) ?_
      refine r_iadd (pc := 156) X dL_acts_156 ?_
      refine bk_top (nI_add 1 (c / 32 / 16 % (if c / 32 / 4 % 4 = 3 then 255 else 3))) ?_
      refine ca_L_15 (pc := 157) X (c_X8_light hnp h0 hk _ _ _) xW_o rfl rfl rfl dL_acts_157 (fun r157 M157 hp157 => ?_)
      obtain ⟨rfl, go, rfl, hgo⟩ := hp157
      exact K dL_acts_160 (aPost.of h hs (r := jLight (S 0) _ _ _) hgo (by rw [hs]; exact (if_neg (by omega)).trans (if_pos h32)) rfl)
    refine r_icmpN_ne (pc := 145) X 154 (c / 32 / 4 % 4) (3) rfl rfl (by omega) (by omega) (by decide) dL_acts_145 (fun q145 => ?_) (fun q145 => ?_)
    · skip
      refine r_iconst (pc := 154) (v := 3) X rfl dL_acts_154 ?_
      first | exact bkV.st (by rw [if_pos q145]; rfl) j155 | exact bkV.st (by rw [if_neg q145]; rfl) j155
    · skip
      refine r_sipush (pc := 148) (v := 255) X rfl dL_acts_148 ?_
      refine r_goto (pc := 151) X 155 (by decide) dL_acts_151 ?_
      first | exact bkV.st (by rw [if_pos q145]; rfl) j155 | exact bkV.st (by rw [if_neg q145]; rfl) j155
  have J161 : 8 ≤ c % 32 ∧ c % 32 < 13 → bkV E G Z 0 0 (xW G x S O od (nI (jaN A)) (jaK A) t (nI len) pc pl pf M) 161 [some (.ref x), some (.int (nI c)), some (.int (nI (c / 32))), none, none, none] [] := by
    intro hc32
    have h32 : c % 32 < 13 := by omega
    refine r_aload_n (pc := 161) X rfl dL_acts_161 ?_
    refine r_iconst (pc := 162) (v := 1) X rfl dL_acts_162 ?_
    refine r_iload_n (pc := 163) X rfl dL_acts_163 ?_
    refine r_sipush (pc := 164) (v := 10000) X rfl dL_acts_164 ?_
    refine r_idiv (pc := 167) X (by decide) dL_acts_167 ?_
    refine bk_top (pk_div (a := c / 32) (d := 10000) (by omega) (by omega) (by omega)) ?_
    refine r_bipush (pc := 168) (v := 99) X rfl dL_acts_168 ?_
    refine r_irem (pc := 170) X (by decide) dL_acts_170 ?_
    refine bk_top (pk_rem (a := c / 32 / 10000) (d := 99) (by omega) (by omega) (by omega)) ?_
    refine r_iadd (pc := 171) X dL_acts_171 ?_
    refine bk_top (nI_add 1 (c / 32 / 10000 % 99)) ?_
    refine r_iload_n (pc := 172) X rfl dL_acts_172 ?_
    refine r_bipush (pc := 173) (v := 100) X rfl dL_acts_173 ?_
    refine r_irem (pc := 175) X (by decide) dL_acts_175 ?_
    refine bk_top (pk_rem (a := c / 32) (d := 100) (by omega) (by omega) (by omega)) ?_
    refine r_iload_n (pc := 176) X rfl dL_acts_176 ?_
    refine r_bipush (pc := 177) (v := 100) X rfl dL_acts_177 ?_
    refine r_idiv (pc := 179) X (by decide) dL_acts_179 ?_
    refine bk_top (pk_div (a := c / 32) (d := 100) (by omega) (by omega) (by omega)) ?_
    refine r_bipush (pc := 180) (v := 100) X rfl dL_acts_180 ?_
    refine r_irem (pc := 182) X (by decide) dL_acts_182 ?_
    refine bk_top (pk_rem (a := c / 32 / 100) (d := 100) (by omega) (by omega) (by omega)) ?_
    refine ca_L_19 (pc := 183) X (c_X8_ship hnp h0 hk _ _ _) xW_o rfl rfl rfl dL_acts_183 (fun r183 M183 hp183 => ?_)
    obtain ⟨rfl, go, rfl, hgo⟩ := hp183
    exact K dL_acts_186 (aPost.of h hs (r := jShip (S 0) n _ _ _) hgo (by rw [hs, ← hm]; exact (if_neg (by omega)).trans ((if_neg (by omega)).trans (if_pos h32))) rfl)
  have J187 : 13 ≤ c % 32 ∧ c % 32 < 15 → bkV E G Z 0 0 (xW G x S O od (nI (jaN A)) (jaK A) t (nI len) pc pl pf M) 187 [some (.ref x), some (.int (nI c)), some (.int (nI (c / 32))), none, none, none] [] := by
    intro hc32
    have h32 : c % 32 < 15 := by omega
    refine r_aload_n (pc := 187) X rfl dL_acts_187 ?_
    refine r_iload_n (pc := 188) X rfl dL_acts_188 ?_
    refine r_iconst (pc := 189) (v := 4) X rfl dL_acts_189 ?_
    refine r_irem (pc := 190) X (by decide) dL_acts_190 ?_
    refine bk_top (pk_rem (a := c / 32) (d := 4) (by omega) (by omega) (by omega)) ?_
    refine r_iload_n (pc := 191) X rfl dL_acts_191 ?_
    refine r_iconst (pc := 192) (v := 4) X rfl dL_acts_192 ?_
    refine r_idiv (pc := 193) X (by decide) dL_acts_193 ?_
    refine bk_top (pk_div (a := c / 32) (d := 4) (by omega) (by omega) (by omega)) ?_
    refine r_iconst (pc := 194) (v := 4) X rfl dL_acts_194 ?_
    refine r_irem (pc := 195) X (by decide) dL_acts_195 ?_
    refine bk_top (pk_rem (a := c / 32 / 4) (d := 4) (by omega) (by omega) (by omega)) ?_
    refine ca_L_22 (pc := 196) X (c_X8_card hnp h0 hk _ _) xW_o rfl rfl rfl dL_acts_196 (fun r196 M196 hp196 => ?_)
    obtain ⟨rfl, go, rfl, hgo⟩ := hp196
    exact K dL_acts_199 (aPost.of h hs (r := jCard (S 0) _ _) hgo (by rw [hs]; exact (if_neg (by omega)).trans ((if_neg (by omega)).trans ((if_neg (by omega)).trans (if_pos h32)))) rfl)
  have J200 : c % 32 = 15 → bkV E G Z 0 0 (xW G x S O od (nI (jaN A)) (jaK A) t (nI len) pc pl pf M) 200 [some (.ref x), some (.int (nI c)), some (.int (nI (c / 32))), none, none, none] [] := by
    intro hc32
    have h32 : c % 32 < 16 := by omega
    refine r_aload_n (pc := 200) X rfl dL_acts_200 ?_
    refine r_iload_n (pc := 201) X rfl dL_acts_201 ?_
    refine r_bipush (pc := 202) (v := 10) X rfl dL_acts_202 ?_
    refine r_irem (pc := 204) X (by decide) dL_acts_204 ?_
    refine bk_top (pk_rem (a := c / 32) (d := 10) (by omega) (by omega) (by omega)) ?_
    refine ca_L_26 (pc := 205) X (c_X8_wage hnp h0 hk _) xW_o rfl rfl rfl dL_acts_205 (fun r205 M205 hp205 => ?_)
    obtain ⟨rfl, go, rfl, hgo⟩ := hp205
    exact K dL_acts_208 (aPost.of h hs (r := jWage (S 0) _) hgo (by rw [hs]; exact (if_neg (by omega)).trans ((if_neg (by omega)).trans ((if_neg (by omega)).trans ((if_neg (by omega)).trans (if_pos h32))))) rfl)
  have J209 : 16 ≤ c % 32 ∧ c % 32 < 18 → bkV E G Z 0 0 (xW G x S O od (nI (jaN A)) (jaK A) t (nI len) pc pl pf M) 209 [some (.ref x), some (.int (nI c)), some (.int (nI (c / 32))), none, none, none] [] := by
    intro hc32
    have h32 : c % 32 < 18 := by omega
    refine r_aload_n (pc := 209) X rfl dL_acts_209 ?_
    refine ca_L_29 (pc := 210) X (c_X8_undo hnp h0) xW_o rfl rfl rfl dL_acts_210 (fun r210 M210 hp210 => ?_)
    obtain ⟨rfl, rfl⟩ := hp210
    exact K dL_acts_213 (aPost.undo h ((if_neg (by omega)).trans ((if_neg (by omega)).trans ((if_neg (by omega)).trans ((if_neg (by omega)).trans ((if_neg (by omega)).trans (if_pos h32)))))))
  have J214 : c % 32 = 18 → bkV E G Z 0 0 (xW G x S O od (nI (jaN A)) (jaK A) t (nI len) pc pl pf M) 214 [some (.ref x), some (.int (nI c)), some (.int (nI (c / 32))), none, none, none] [] := by
    intro hc32
    have h32 : c % 32 < 19 := by omega
    refine r_aload_n (pc := 214) X rfl dL_acts_214 ?_
    refine ca_L_33 (pc := 215) X (c_X8_keep) xW_o rfl rfl rfl dL_acts_215 (fun r215 M215 hp215 => ?_)
    obtain ⟨rfl, rfl⟩ := hp215
    exact K dL_acts_218 (aPost.keep h hs ((if_neg (by omega)).trans ((if_neg (by omega)).trans ((if_neg (by omega)).trans ((if_neg (by omega)).trans ((if_neg (by omega)).trans ((if_neg (by omega)).trans (if_pos h32))))))))
  have J219 : c % 32 = 19 → bkV E G Z 0 0 (xW G x S O od (nI (jaN A)) (jaK A) t (nI len) pc pl pf M) 219 [some (.ref x), some (.int (nI c)), some (.int (nI (c / 32))), none, none, none] [] := by
    intro hc32
    have h32 : c % 32 < 20 := by omega
    refine r_aload_n (pc := 219) X rfl dL_acts_219 ?_
    refine ca_L_36 (pc := 220) X (c_X8_restore hnp h0 h.snap) xW_o rfl rfl rfl dL_acts_220 (fun r220 M220 hp220 => ?_)
    obtain ⟨rfl, go, rfl, hgo⟩ := hp220
    exact K dL_acts_223 (aPost.rest h hs hgo ((if_neg (by omega)).trans ((if_neg (by omega)).trans ((if_neg (by omega)).trans ((if_neg (by omega)).trans ((if_neg (by omega)).trans ((if_neg (by omega)).trans ((if_neg (by omega)).trans (if_pos h32)))))))))
  have J224 : 20 ≤ c % 32 ∧ c % 32 < 23 → bkV E G Z 0 0 (xW G x S O od (nI (jaN A)) (jaK A) t (nI len) pc pl pf M) 224 [some (.ref x), some (.int (nI c)), some (.int (nI (c / 32))), none, none, none] [] := by
    intro hc32
    have h32 : c % 32 < 23 := by omega
    refine r_aload_n (pc := 224) X rfl dL_acts_224 ?_
    refine ca_L_39 (pc := 225) X (c_X8_clearText) xW_o rfl rfl rfl dL_acts_225 (fun r225 M225 hp225 => ?_)
    obtain ⟨rfl, rfl⟩ := hp225
    refine r_istore_n (pc := 228) X rfl rfl dL_acts_228 ?_
    refine r_iconst (pc := 229) (v := 0) X rfl dL_acts_229 ?_
    refine r_istore (pc := 230) X rfl rfl dL_acts_230 ?_
    have lp232 : ∀ (d j : Nat) (y3 y4 : Int32) (x1 : (Nat → Int32) × Nat), j ≤ 1 + c / 32 % 4 → 1 + c / 32 % 4 < j + d → x1 = jtx (c / 32) j (t, 0) → LJ S O od x1.1 x1.2 A → (j ≠ 0 → y3 = nI x1.2) → y4 = nI j → bkV E G Z 0 0 (xW G x S O od (nI (jaN A)) (jaK A) x1.1 (nI x1.2) pc pl pf M) 232 [some (.ref x), some (.int (nI c)), some (.int (nI (c / 32))), some (.int y3), some (.int y4), none] [] := by
      intro d
      induction d with
      | zero => intros; exfalso; omega
      | succ d ih =>
        intro j y3 y4 x1 hj hd hx1 hx3 hy3 ey4
        subst ey4
        have hxl : x1.2 ≤ 9 * j := by have h7 := (jtx_len (c / 32) (t, 0) j).1; rw [← hx1] at h7; have h8 : ((t, 0) : (Nat → Int32) × Nat).2 = 0 := rfl; omega
        have hz2 : c / 32 / 4 / 64 ^ j < 2 ^ 31 := Nat.lt_of_le_of_lt (Nat.div_le_self _ _) (by omega)
        have K554 : j < 1 + c / 32 % 4 → ∀ x2 : (Nat → Int32) × Nat, x2 = jtx (c / 32) (j + 1) (t, 0) → bkV E G Z 0 0 (xW G x S O od (nI (jaN A)) (jaK A) x2.1 (nI x2.2) pc pl pf M) 554 [some (.ref x), some (.int (nI c)), some (.int (nI (c / 32))), some (.int (nI x2.2)), some (.int (nI j)), some (.int (nI (c / 32 / 4 / 64 ^ j)))] [] := by
          intro hjn x2 hx2
          refine r_iinc (pc := 554) X rfl rfl rfl dL_acts_554 ?_
          refine r_goto (pc := 557) X 232 (by decide) dL_acts_557 ?_
          refine bkV.drop 5 (ih (j + 1) _ _ x2 (by omega) (by omega) hx2 ?_ (fun _ => rfl) (nI_1 j))
          rw [hx2]
          show LJ S O od ((jtp j (c / 32 / 4 / 64 ^ j)).foldl jty (jtx (c / 32) j (t, 0))).1 ((jtp j (c / 32 / 4 / 64 ^ j)).foldl jty (jtx (c / 32) j (t, 0))).2 A
          rw [← hx1]
          exact LJ.types _ x1 hx3 (by have := (jtp_len j (c / 32 / 4 / 64 ^ j)).1; omega) (fun v hv => Nat.lt_trans ((jtp_h j (c / 32 / 4 / 64 ^ j)).1 v hv) (by omega))
        refine r_iload (pc := 232) X rfl dL_acts_232 ?_
        refine r_iconst (pc := 234) (v := 1) X rfl dL_acts_234 ?_
        refine r_iload_n (pc := 235) X rfl dL_acts_235 ?_
        refine r_iconst (pc := 236) (v := 4) X rfl dL_acts_236 ?_
        refine r_irem (pc := 237) X (by decide) dL_acts_237 ?_
        refine bk_top (pk_rem (a := c / 32) (d := 4) (by omega) (by omega) (by omega)) ?_
        refine r_iadd (pc := 238) X dL_acts_238 ?_
        refine bk_top (nI_add 1 (c / 32 % 4)) ?_
        refine r_icmpN_ge (pc := 239) X 560 (j) (1 + c / 32 % 4) rfl rfl (by omega) (by omega) (by decide) dL_acts_239 (fun q239 => ?_) (fun q239 => ?_)
        · skip
          have hjN : j = 1 + c / 32 % 4 := by omega
          have hag := jaT_ag t (c / 32)
          rw [← hjN, ← hx1] at hag
          have hag := hag.reads
          have eX : jacts A c = jaX A (c / 32) := (if_neg (by omega)).trans ((if_neg (by omega)).trans ((if_neg (by omega)).trans ((if_neg (by omega)).trans ((if_neg (by omega)).trans ((if_neg (by omega)).trans ((if_neg (by omega)).trans ((if_neg (by omega)).trans (if_pos h32))))))))
          refine r_iload_n (pc := 560) X rfl dL_acts_560 ?_
          refine r_iconst (pc := 561) (v := 1) X rfl dL_acts_561 ?_
          obtain rfl : y3 = nI x1.2 := hy3 (by omega)
          refine r_icmpN_lt (pc := 562) X 574 (x1.2) (1) rfl rfl (by omega) (by omega) (by decide) dL_acts_562 (fun q562 => ?_) (fun q562 => ?_)
          · skip
            exact absurd q562 (by have h7 := (jtx_len (c / 32) (t, 0) j).2; rw [← hx1] at h7; have h8 : ((t, 0) : (Nat → Int32) × Nat).2 = 0 := rfl; omega)
          · skip
            refine r_aload_n (pc := 565) X rfl dL_acts_565 ?_
            refine ca_L_46 (pc := 566) X (c_X8_fault (by omega) hx3.np.2.2.2) xW_o rfl rfl rfl dL_acts_566 (fun r566 M566 hp566 => ?_)
            obtain ⟨rfl, pc2, pl2, pf2, rfl⟩ := hp566
            refine r_bipush (pc := 569) (v := (-5)) X rfl dL_acts_569 ?_
            refine r_icmp_eq (pc := 571) X 580 (by decide) dL_acts_571 (fun q571 => ?_) (fun q571 => ?_)
            · skip
              refine r_aload_n (pc := 580) X rfl dL_acts_580 ?_
              refine ca_L_49 (pc := 581) X (c_X8_doAll (by omega) hx3.np.2.2.2 hnp h0 hk) xW_o rfl rfl rfl dL_acts_581 (fun r581 M581 hp581 => ?_)
              obtain ⟨rfl, s1, g1, pc3, pl3, pf3, go, rfl, hgo⟩ := hp581
              exact K dL_acts_584 (by first | exact (aPost.of hx3.trial ((pfu_ne (by decide)).trans hs) (r := jdoAll x1.1 x1.2 (S 0)) hgo (eX.trans ((if_neg (fun z => z (by rw [← hag.1]; exact q571))).trans (by rw [hag.2, hs]))) rfl) | (have e9 : jaX A (c / 32) = (-999, A) := if_pos (fun z => q571 (by rw [hag.1]; exact z)); rw [eX, e9]; exact ⟨rfl, S, O, od, _, _, _, _, _, rfl, hx3⟩))
            · skip
              refine r_sipush (pc := 574) (v := (-999)) X rfl dL_acts_574 ?_
              refine r_goto (pc := 577) X 584 (by decide) dL_acts_577 ?_
              exact K dL_acts_584 (by first | exact (aPost.of hx3.trial ((pfu_ne (by decide)).trans hs) (r := jdoAll x1.1 x1.2 (S 0)) hgo (eX.trans ((if_neg (fun z => z (by rw [← hag.1]; exact q571))).trans (by rw [hag.2, hs]))) rfl) | (have e9 : jaX A (c / 32) = (-999, A) := if_pos (fun z => q571 (by rw [hag.1]; exact z)); rw [eX, e9]; exact ⟨rfl, S, O, od, _, _, _, _, _, rfl, hx3⟩))
        · skip
          have K554 := K554 q239
          refine r_iload_n (pc := 242) X rfl dL_acts_242 ?_
          refine r_iconst (pc := 243) (v := 4) X rfl dL_acts_243 ?_
          refine r_idiv (pc := 244) X (by decide) dL_acts_244 ?_
          refine bk_top (pk_div (a := c / 32) (d := 4) (by omega) (by omega) (by omega)) ?_
          refine r_bipush (pc := 245) (v := 6) X rfl dL_acts_245 ?_
          refine r_iload (pc := 247) X rfl dL_acts_247 ?_
          refine r_imul (pc := 249) X dL_acts_249 ?_
          refine r_ishr (pc := 250) X dL_acts_250 ?_
          refine bk_top (sh6 (by omega) j (by omega)) ?_
          refine r_istore (pc := 251) X rfl rfl dL_acts_251 ?_
          refine r_iload (pc := 253) X rfl dL_acts_253 ?_
          refine r_if_le (pc := 255) X 267 (by decide) dL_acts_255 (fun q255 => ?_) (fun q255 => ?_)
          · skip
            have hj0 : j = 0 := by
              rcases Nat.eq_zero_or_pos j with z | z
              · exact z
              · exact absurd q255 (nI_nle z (by omega))
            refine r_iconst (pc := 267) (v := 0) X rfl dL_acts_267 ?_
            refine r_istore_n (pc := 268) X rfl rfl dL_acts_268 ?_
            first
            | exact tx_all X hz2 (by show x1.2 + 1 + 8 < 60; omega) (K554 _ (by rw [hx1]; show _ = (jtp j (c / 32 / 4 / 64 ^ j)).foldl jty _; unfold jtp; rw [if_neg hj0]; rfl))
            | (subst hj0; subst hx1; exact tx_all (x1 := jtx (c / 32) 0 (t, 0)) X hz2 (by show 0 + 8 < 60; omega) (K554 _ rfl))
          · skip
            have hj0 : j ≠ 0 := fun z => q255 (by subst z; decide)
            refine r_aload_n (pc := 258) X rfl dL_acts_258 ?_
            refine r_bipush (pc := 259) (v := 59) X rfl dL_acts_259 ?_
            refine ca_L_42 (pc := 261) X (c_ty (X' := x1) (by omega) 59 (by omega)) xW_o rfl rfl rfl dL_acts_261 (fun r261 M261 hp261 => ?_)
            obtain ⟨rfl, rfl⟩ := hp261
            refine r_goto (pc := 264) X 268 (by decide) dL_acts_264 ?_
            refine r_istore_n (pc := 268) X rfl rfl dL_acts_268 ?_
            first
            | exact tx_all X hz2 (by show x1.2 + 1 + 8 < 60; omega) (K554 _ (by rw [hx1]; show _ = (jtp j (c / 32 / 4 / 64 ^ j)).foldl jty _; unfold jtp; rw [if_neg hj0]; rfl))
            | (subst hj0; subst hx1; exact tx_all (x1 := jtx (c / 32) 0 (t, 0)) X hz2 (by show 0 + 8 < 60; omega) (K554 _ rfl))
    exact lp232 (1 + c / 32 % 4 + 1) 0 _ _ (t, 0) (Nat.zero_le _) (by omega) rfl h.clear (fun z => absurd rfl z) rfl
  have J585 : 23 ≤ c % 32 → bkV E G Z 0 0 (xW G x S O od (nI (jaN A)) (jaK A) t (nI len) pc pl pf M) 585 [some (.ref x), some (.int (nI c)), some (.int (nI (c / 32))), none, none, none] [] := by
    intro hc32
    refine r_aload_n (pc := 585) X rfl dL_acts_585 ?_
    refine r_iconst (pc := 586) (v := 1) X rfl dL_acts_586 ?_
    refine r_iload_n (pc := 587) X rfl dL_acts_587 ?_
    refine r_iconst (pc := 588) (v := 4) X rfl dL_acts_588 ?_
    refine r_irem (pc := 589) X (by decide) dL_acts_589 ?_
    refine bk_top (pk_rem (a := c / 32) (d := 4) (by omega) (by omega) (by omega)) ?_
    refine r_iadd (pc := 590) X dL_acts_590 ?_
    refine bk_top (nI_add 1 (c / 32 % 4)) ?_
    refine ca_L_52 (pc := 591) X (c_X8_pass hnp h0 hk _) xW_o rfl rfl rfl dL_acts_591 (fun r591 M591 hp591 => ?_)
    obtain ⟨rfl, go, rfl, hgo⟩ := hp591
    exact K dL_acts_594 (aPost.of h hs (r := jPass (S 0) n _) hgo (by rw [hs, ← hm]; exact (if_neg (by omega)).trans ((if_neg (by omega)).trans ((if_neg (by omega)).trans ((if_neg (by omega)).trans ((if_neg (by omega)).trans ((if_neg (by omega)).trans ((if_neg (by omega)).trans ((if_neg (by omega)).trans (if_neg (by omega)))))))))) rfl)
  rcases tb_case 22 (by decide) (nI (c % 32)) with ⟨w9, hw9, e9⟩ | ⟨hq, hne⟩
  · have e8 : c % 32 = w9 := (nI_eq (by omega) (by omega)).mp e9
    refine bk_top e9 ?_
    match w9, hw9, e8 with
    | 0, _, e8 =>
      refine r_tableIn (pc := 9) X 116 (by decide) (by decide) rfl (by decide) dL_acts_9 ?_
      exact J116 (by omega)
    | 1, _, e8 =>
      refine r_tableIn (pc := 9) X 116 (by decide) (by decide) rfl (by decide) dL_acts_9 ?_
      exact J116 (by omega)
    | 2, _, e8 =>
      refine r_tableIn (pc := 9) X 116 (by decide) (by decide) rfl (by decide) dL_acts_9 ?_
      exact J116 (by omega)
    | 3, _, e8 =>
      refine r_tableIn (pc := 9) X 116 (by decide) (by decide) rfl (by decide) dL_acts_9 ?_
      exact J116 (by omega)
    | 4, _, e8 =>
      refine r_tableIn (pc := 9) X 116 (by decide) (by decide) rfl (by decide) dL_acts_9 ?_
      exact J116 (by omega)
    | 5, _, e8 =>
      refine r_tableIn (pc := 9) X 125 (by decide) (by decide) rfl (by decide) dL_acts_9 ?_
      exact J125 (by omega)
    | 6, _, e8 =>
      refine r_tableIn (pc := 9) X 125 (by decide) (by decide) rfl (by decide) dL_acts_9 ?_
      exact J125 (by omega)
    | 7, _, e8 =>
      refine r_tableIn (pc := 9) X 125 (by decide) (by decide) rfl (by decide) dL_acts_9 ?_
      exact J125 (by omega)
    | 8, _, e8 =>
      refine r_tableIn (pc := 9) X 161 (by decide) (by decide) rfl (by decide) dL_acts_9 ?_
      exact J161 (by omega)
    | 9, _, e8 =>
      refine r_tableIn (pc := 9) X 161 (by decide) (by decide) rfl (by decide) dL_acts_9 ?_
      exact J161 (by omega)
    | 10, _, e8 =>
      refine r_tableIn (pc := 9) X 161 (by decide) (by decide) rfl (by decide) dL_acts_9 ?_
      exact J161 (by omega)
    | 11, _, e8 =>
      refine r_tableIn (pc := 9) X 161 (by decide) (by decide) rfl (by decide) dL_acts_9 ?_
      exact J161 (by omega)
    | 12, _, e8 =>
      refine r_tableIn (pc := 9) X 161 (by decide) (by decide) rfl (by decide) dL_acts_9 ?_
      exact J161 (by omega)
    | 13, _, e8 =>
      refine r_tableIn (pc := 9) X 187 (by decide) (by decide) rfl (by decide) dL_acts_9 ?_
      exact J187 (by omega)
    | 14, _, e8 =>
      refine r_tableIn (pc := 9) X 187 (by decide) (by decide) rfl (by decide) dL_acts_9 ?_
      exact J187 (by omega)
    | 15, _, e8 =>
      refine r_tableIn (pc := 9) X 200 (by decide) (by decide) rfl (by decide) dL_acts_9 ?_
      exact J200 (by omega)
    | 16, _, e8 =>
      refine r_tableIn (pc := 9) X 209 (by decide) (by decide) rfl (by decide) dL_acts_9 ?_
      exact J209 (by omega)
    | 17, _, e8 =>
      refine r_tableIn (pc := 9) X 209 (by decide) (by decide) rfl (by decide) dL_acts_9 ?_
      exact J209 (by omega)
    | 18, _, e8 =>
      refine r_tableIn (pc := 9) X 214 (by decide) (by decide) rfl (by decide) dL_acts_9 ?_
      exact J214 (by omega)
    | 19, _, e8 =>
      refine r_tableIn (pc := 9) X 219 (by decide) (by decide) rfl (by decide) dL_acts_9 ?_
      exact J219 (by omega)
    | 20, _, e8 =>
      refine r_tableIn (pc := 9) X 224 (by decide) (by decide) rfl (by decide) dL_acts_9 ?_
      exact J224 (by omega)
    | 21, _, e8 =>
      refine r_tableIn (pc := 9) X 224 (by decide) (by decide) rfl (by decide) dL_acts_9 ?_
      exact J224 (by omega)
    | 22, _, e8 =>
      refine r_tableIn (pc := 9) X 224 (by decide) (by decide) rfl (by decide) dL_acts_9 ?_
      exact J224 (by omega)
    | w9 + 23, hw9, _ => exact absurd hw9 (by omega)
  · refine r_tableOut (pc := 9) X 585 hq (by decide) dL_acts_9 ?_
    refine J585 (Nat.not_lt.mp fun z => hne (c % 32) (by omega) rfl)

