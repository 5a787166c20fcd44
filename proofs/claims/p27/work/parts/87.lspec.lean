/-! the law: what its loops want -/
theorem LI_0 : LI (fun _ => jS0) (fun _ => jg0) (fun i => 3 + i) 0 0 jz 0 jS0 jz jz jz := by
  refine ⟨fun _ _ => rfl, ⟨0, ⟨by omega, jS0_z (by omega) (by omega), fun c hc => Or.inl (jS0_z (by omega) (by omega)), fun k hk => ⟨⟨0, by omega, jS0_z (by omega) (by omega)⟩, ⟨0, by omega, jS0_z (by omega) (by omega)⟩, ⟨0, by omega, jS0_z (by omega) (by omega)⟩⟩⟩, fun l hl => ?_, cgo_0⟩, ⟨by omega, fun i hi => ⟨show 3 ≤ 3 + i by omega, show 3 + i < 7 by omega, fun j hj e => Nat.add_left_cancel e⟩, rfl⟩, ⟨rfl, by omega, fun j _ => ⟨rfl, rfl⟩⟩, fun i hi => absurd hi (Nat.not_lt_zero _), rfl, fun z => absurd rfl z⟩
  match l, hl with
  | 0, _ => exact ⟨⟨0, by omega, rfl⟩, ⟨1, by omega, rfl⟩, ⟨5, by omega, rfl⟩, ⟨0, by omega, rfl⟩⟩
  | 1, _ => exact ⟨⟨1, by omega, rfl⟩, ⟨1, by omega, rfl⟩, ⟨5, by omega, rfl⟩, ⟨0, by omega, rfl⟩⟩
  | 2, _ => exact ⟨⟨2, by omega, rfl⟩, ⟨1, by omega, rfl⟩, ⟨5, by omega, rfl⟩, ⟨0, by omega, rfl⟩⟩
  | 3, _ => exact ⟨⟨3, by omega, rfl⟩, ⟨1, by omega, rfl⟩, ⟨5, by omega, rfl⟩, ⟨0, by omega, rfl⟩⟩
  | l + 4, h => exact absurd h (by omega)
def jA0 : jA := (jS0, jz, jz, 0, 0)
theorem LJ_0 : LJ (fun _ => jS0) (fun _ => jg0) (fun i => 3 + i) jz 0 jA0 := ⟨jz, LI_0⟩
theorem jwc_add {s0 s1 s2 : Nat → Int32} : ∀ n, n ≤ 8 → jmon s0 s1 → jmon s1 s2 → jwc s0 s1 n + jwc s1 s2 n = jwc s0 s2 n
  | 0, _, _, _ => rfl
  | n + 1, hn, h1, h2 => by
    have ih := jwc_add (s0 := s0) (s1 := s1) (s2 := s2) n (by omega) h1 h2
    have a1 := h1 n (by omega)
    have a2 := h2 n (by omega)
    unfold jwc at ih ⊢
    show jct _ n + (if (jst s1 2 n && !jst s0 2 n) = true then 1 else 0) + (jct _ n + (if (jst s2 2 n && !jst s1 2 n) = true then 1 else 0)) = jct _ n + (if (jst s2 2 n && !jst s0 2 n) = true then 1 else 0)
    have e : (if (jst s1 2 n && !jst s0 2 n) = true then 1 else 0) + (if (jst s2 2 n && !jst s1 2 n) = true then 1 else 0) = (if (jst s2 2 n && !jst s0 2 n) = true then 1 else 0) := by
      cases b0 : jst s0 2 n <;> cases b1 : jst s1 2 n <;> cases b2 : jst s2 2 n <;> first | rfl | (exfalso; rw [b0, b1] at a1; exact absurd (a1 rfl) (by decide)) | (exfalso; rw [b1, b2] at a2; exact absurd (a2 rfl) (by decide))
    omega
theorem jhrs_mon {s : Nat → Int32} {n : Nat} (t : Nat) : jmon s (jhrs s n t) := fun k hk h => by
  unfold jst at h ⊢
  have h2 : s (140 + 5 * k + 3) = 2 := of_decide_eq_true h
  rw [jhrs_keep hk (by rw [h2]; decide), h2]
  decide
theorem pass_ok {s : Nat → Int32} {n h j : Nat} (hw : jwf s n) (eh : s 181 = nI h) (hj1 : 1 ≤ j) (hj2 : j ≤ 20) (hh : h + j ≤ 9999) : jPass s n (nI j) = (nI (jwc s (jhrs s n j) n), some (jhrs s n j)) := by
  have e1 : jin (nI j) 1 20 = true := by
    unfold jin
    have u1 : (1 : Int32) ≤ nI j := (nI_leI (a := 1) (by omega) (by omega)).mpr hj1
    have u2 : nI j ≤ (20 : Int32) := (nI_leI (b := 20) (by omega) (by omega)).mpr hj2
    rw [decide_eq_true u1, decide_eq_true u2]
    rfl
  have e2 : jbp s (nI j) = 0 := by
    unfold jbp
    rw [e1, eh, nI_add, if_neg (by decide)]
    exact if_neg (Int32.not_lt.mpr ((nI_leI (a := h + j) (b := 9999) (by omega) (by omega)).mpr hh))
  unfold jPass
  rw [e2, if_pos (by decide), tn_nI (by omega), jwc_pc hw.1]
theorem JJ.pass {B : Nat} {A : jA} {n j : Nat} (h : JJ B A) (hB : B ≤ 50000) (hw : jwf (jaS A) n) (hj : j ≤ 20) {v : Int32} : JJ (B + 20) (jap A (v, some (jhrs (jaS A) n j))).2 := by
  refine h.ap (by omega) fun s' e => ?_
  have e' : s' = jhrs (jaS A) n j := (Option.some.inj e).symm
  subst e'
  obtain ⟨m, h0, hw2, hI, hh⟩ := h.1
  have hmn : m = n := hw2.tn.symm.trans hw.tn
  subst hmn
  exact sI.hrs hw hI hh hB hj
theorem LJ.cok2 {S O : Nat → Nat → Int32} {od : Nat → Nat} {t : Nat → Int32} {len n : Nat} {A : jA} (h : LJ S O od t len A) (hw : jwf (jaS A) n) : cOK (pfu S 0 (jaS A) 0) n (O 0) := by
  obtain ⟨m, hm⟩ := h.cok
  have e : m = n := hm.1.tn.symm.trans hw.tn
  subst e
  rw [pfu_at]
  exact hm
theorem JJ.at {B : Nat} {A : jA} (h : JJ B A) : ∃ n h0, jwf (jaS A) n ∧ jI (jaS A) n h0 ∧ h0 ≤ B := h.1
theorem LJ.cok3 {S O : Nat → Nat → Int32} {od : Nat → Nat} {t : Nat → Int32} {len n : Nat} {A : jA} (h : LJ S O od t len A) (hw : jwf (jaS A) n) : cOK (jaS A) n (O 0) := by
  have h2 := h.cok2 hw
  rw [pfu_at] at h2
  exact h2
