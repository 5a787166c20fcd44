theorem bk_good {w : Cond} (h : w ∈ bkTB) : w ∈ bkTB ∧ ((w.onTables && w.keeps) = true ∨ ∃ ty, w = .arrayClass ty) := ⟨h, good_of_word (List.mem_filter.mp h).2⟩
theorem bkN.same {u U : State} (h : u.vm = U.vm) (g : bkN u) : bkN U := by
  obtain ⟨⟨a0, a1, a2, a3, a4, a5, a6, a7, a8⟩, ⟨b0, b1, b2⟩, ⟨c1, c2, c3, c4, c5, c6⟩⟩ := g
  have al : u.vm.Alike U.vm := by rw [h]; exact Vm.Alike.refl _
  exact ⟨⟨a0.same rfl h, a1.same rfl h, a2.same rfl h, a3.same rfl h, a4.same rfl h, a5.same rfl h, a6.same rfl h, a7.same rfl h, a8.same rfl h⟩, ⟨b0.same rfl h, b1.same rfl h, b2.same rfl h⟩, ⟨c1.moved al, c2.moved al, c3.moved al, c4.moved al, c5.moved al, c6.moved al⟩⟩
theorem bk_blind {G : bkG} {Z : Nat → Prop} {M : bkM} {av : List Value} : FrameBlind (va_Pc av (bkH G Z M)) := by
  intro a U g mk h
  obtain ⟨e, hP, hZ, hK, hS, hN⟩ := h
  have al : U.vm.Alike (U.calling g mk a).vm := Vm.Alike.refl _
  exact ⟨e, hP, hZ, hK.moved al, ⟨hS.1.go al (fun _ _ _ => rfl), hS.2.1.go al (fun _ _ _ => rfl), hS.2.2.1.go al (fun _ _ _ => rfl), (hS.2.2.2.moved al).kept (fun _ _ _ => rfl)⟩, hN.same rfl⟩
section BKC
variable {E : bkEnv} {R : Room} {G : bkG} {Z : Nat → Prop} {k n : Nat} {M : bkM} {pc : Nat} {L : List (Option Value)} {st st0 : List Value} {own : String} {cc : ByteArray} {nL : Nat} {ret : Option FieldType}
theorem bkX.pre (X : bkX E G own cc nL ret R) {H : Heap} {locs : List Loc} (h1 : bkP G M H) (h2 : Z H.size) (h3 : va_S (bkA G) (eS E).heap H locs) {U : State} (hU : U.heap = H) (hW : (eS E).WarmedH U.vm) : bkH G Z M U :=
  ⟨by rw [hU]; exact h1, by rw [hU]; exact h2, X.2.2.2.2.2.1.go hW (fun a g1 g2 => by rw [hU]; exact h3.2.1 a g1 g2)⟩
variable {y : MethodName} {code : ByteArray} {nL' h' mc ms idx : Nat} {ret' : Option FieldType} {Z' : Nat → Prop} {b : Nat} {as : List Value}
def bk_dsc (y : MethodName) (j : Nat) : Prop := y.cls ≠ "java/lang/invoke/MethodHandle" ∧ y.cls ≠ "java/lang/invoke/VarHandle" ∧ (parseMethodDescriptor y.desc).map (fun d => d.parameters.length) = some j
def bk_fit (R : Room) (nL' h' k n mc ms : Nat) : Prop := (h' + 1 ≤ R.frames ∧ 8 + (nL' + 11) + 39 * h' ≤ R.locals) ∧ k + mc ≤ R.cells ∧ n + ms ≤ R.slots
theorem bk_gV (hl : Cond.methodLink own idx y ∈ bkTB) (hi : Cond.instanceMethod y ∈ bkTB) (hs : Cond.selects y.cls y y ∈ bkTB) (hini : Cond.initialized y.cls ∈ bkTB) (hcd : Cond.code y code nL' ret' ∈ bkTB) : GoodIn bkTB (wsV own idx y.cls y (.code y code nL' ret' :: bkTB)) := by
  intro w hw
  unfold wsV at hw
  rcases List.mem_append.mp hw with h | h
  · simp only [List.mem_cons, List.not_mem_nil, or_false] at h
    rcases h with rfl | rfl | rfl | rfl
    · exact bk_good hl
    · exact bk_good hi
    · exact bk_good hs
    · exact bk_good hini
  · rcases List.mem_cons.mp h with rfl | h
    · exact bk_good hcd
    · exact bk_good h
theorem bk_gS (hl : Cond.methodLink own idx y ∈ bkTB) (hi : Cond.static y ∈ bkTB) (hini : Cond.initialized y.cls ∈ bkTB) (hcd : Cond.code y code nL' ret' ∈ bkTB) : GoodIn bkTB (va_wsS own idx y (.code y code nL' ret' :: bkTB)) := by
  intro w hw
  unfold va_wsS at hw
  rcases List.mem_append.mp hw with h | h
  · simp only [List.mem_cons, List.not_mem_nil, or_false] at h
    rcases h with rfl | rfl | rfl
    · exact bk_good hl
    · exact bk_good hi
    · exact bk_good hini
  · rcases List.mem_cons.mp h with rfl | h
    · exact bk_good hcd
    · exact bk_good h
theorem bk_gC (hcd : Cond.code y code nL' ret' ∈ bkTB) : GoodIn bkTB (.code y code nL' ret' :: bkTB) := by
  intro w h
  rcases List.mem_cons.mp h with rfl | h
  · exact bk_good hcd
  · exact bk_good h

end BKC
/-! references that may be null -/
def rv : Option Nat → Value
  | none => .null
  | some a => .ref a
theorem rv_cat (o : Option Nat) : (rv o).category = 1 := by cases o <;> rfl
def bk_Qa (post : Option Nat → bkM → Prop) (B : bkM → State → Prop) (A : Nat → Prop) : Array Value → State → Outcome → State → Prop := fun _ st oc t => (∃ (r : Option Nat) (u : bkM), oc = .returned (some (rv r)) ∧ post r u ∧ B u t) ∧ va_F A st t
def bkCa (G : bkG) (Z Z' : Nat → Prop) (y : MethodName) (code : ByteArray) (nL : Nat) (ret : Option FieldType) (h mc ms : Nat) (av : List Value) (M : bkM) (post : Option Nat → bkM → Prop) : Prop :=
  ∀ l : Launch, Met l y (.code y code nL ret :: bkTB) (bkR h mc ms) (va_Pc av (bkH G Z M)) (bk_Qa post (bkH G Z') (bkA G)) mc ms (bkA G)
section BCA
variable {p : Program} {l : Launch} {e : Env} {R : Room} {s : State} {m : MethodId} {args : Array Value} {below : List Frame} {meth : Method} {c : Code} {H : Heap} {locs : List Loc} {cells slots : Nat} {Q : State → Prop}
variable {pc : Nat} {ls : Array Slot} {rest st0 : List Value} {a : Array Value} {A0 A1 : Nat → Prop} {H0 : Heap} {mc ms : Nat} {free : Addr → Prop}
theorem bk_calla {post : Option Nat → bkM → Prop} {B : bkM → State → Prop} (hr : va_Run p l e R s m args below meth c H locs cells slots mc ms (F0 m pc ls st0) rest (bk_Qa post B A1 a) free) (hS : va_S A0 H0 H locs) (hA : ∀ q, q < H.size → A1 q → A0 q) (hf : ∀ q, free q → A0 q)
    (kk : ∀ (r : Option Nat) (u : bkM) (t : State) (H1 : Heap) (locs1 : List Loc), t.heap = H1 → s.vm.Alike t.vm → post r u → B u t → H.size ≤ H1.size → (∀ q : Nat, q < H.size → ¬ A1 q → H1[q]? = H[q]?) → va_S A0 H0 H1 locs1 → W p l e R s m args below meth c H1 locs1 (cells + mc) (slots + ms) Q (F0 m (pc + 3) ls (rv r :: rest))) : W p l e R s m args below meth c H locs cells slots Q (F0 m pc ls st0) := by
  intro T hT X
  obtain ⟨v, st₀, t, T', L, h0, X', hL, e1, e2, ⟨⟨r, u, hv, hp, hb⟩, hz, hk⟩, st⟩ := hr T hT X
  cases hv
  rw [h0] at hz hk
  obtain ⟨t2, a1, b1⟩ := kk r u t T'.heap (locs ++ L) e1.symm (by rw [← e2]; exact X'.warmed.alike) hp hb (by rw [e1]; exact hz) (fun q h1 h2 => by rw [e1]; exact hk q h1 h2)
    ⟨Nat.le_trans hS.1 (by rw [e1]; exact hz), fun q h1 h2 => by rw [e1, hk q (Nat.lt_of_lt_of_le h1 hS.1) (fun z => h2 (hA q (Nat.lt_of_lt_of_le h1 hS.1) z))]; exact hS.2.1 q h1 h2, fun q hq => by
      rcases List.mem_append.mp hq with h | h
      · exact hS.2.2 q h
      · exact hf _ (hL q h)⟩ T' rfl X'
  exact ⟨t2, st t2 a1, b1⟩
end BCA
section BKC2
variable {E : bkEnv} {R : Room} {G : bkG} {Z : Nat → Prop} {k n : Nat} {M : bkM} {pc : Nat} {L : List (Option Value)} {st st0 : List Value} {own : String} {cc : ByteArray} {nL : Nat} {ret : Option FieldType}
theorem r_null (X : bkX E G own cc nL ret R) (d : decode cc pc = .ok (.aconst_null, 1)) (kk : bkV E G Z k n M (pc + 1) L (.null :: st)) : bkV E G Z k n M pc L st := fun H locs ls h1 h2 h3 h4 => lv_null X.1 X.2.1 d (kk H locs ls h1 h2 h3 h4)
theorem r_astore_nN (X : bkX E G own cc nL ret R) {i : Fin 4} (hi : Nat.blt i.val L.length = true) (hc : bkc L i.val = true) (d : decode cc pc = .ok (.astore_n i, 1)) (kk : bkV E G Z k n M (pc + 1) (bks L i.val .null) st) : bkV E G Z k n M pc L (.null :: st) := fun H locs ls h1 h2 h3 h4 => lv_astore_nN X.1 X.2.1 d rfl h4.has (Nat.blt_eq.mp hi) rfl (fun ls2 hl2 => kk H locs ls2 h1 h2 h3 (bkL.set (Nat.blt_eq.mp hi) hc hl2))
theorem r_aload_nV (X : bkX E G own cc nL ret R) {i : Fin 4} {o : Option Nat} (hl : bkl L i.val = some (rv o)) (d : decode cc pc = .ok (.aload_n i, 1)) (kk : bkV E G Z k n M (pc + 1) L (rv o :: st)) : bkV E G Z k n M pc L st := by
  cases o with
  | none => exact fun H locs ls h1 h2 h3 h4 => lv_aload_nN X.1 X.2.1 d rfl (h4.2.2 _ _ hl) (kk H locs ls h1 h2 h3 h4)
  | some a => exact fun H locs ls h1 h2 h3 h4 => lv_aload_n X.1 X.2.1 d rfl (h4.2.2 _ _ hl) (kk H locs ls h1 h2 h3 h4)
theorem r_ifnull (X : bkX E G own cc nL ret R) {o : Option Nat} {off : Int} (tgt : Nat) (ht : (pc : Int) + off = (tgt : Int)) (d : decode cc pc = .ok (.ifnull off, 3)) (kt : o = none → bkV E G Z k n M tgt L st) (kf : ∀ a, o = some a → bkV E G Z k n M (pc + 3) L st) : bkV E G Z k n M pc L (rv o :: st) := by
  cases o with
  | none => exact fun H locs ls h1 h2 h3 h4 => lv_ifnullN X.1 X.2.1 d ht (kt rfl H locs ls h1 h2 h3 h4)
  | some a => exact fun H locs ls h1 h2 h3 h4 => lv_ifnull X.1 X.2.1 d (kf a rfl H locs ls h1 h2 h3 h4)
theorem r_ifnonnull (X : bkX E G own cc nL ret R) {o : Option Nat} {off : Int} (tgt : Nat) (ht : (pc : Int) + off = (tgt : Int)) (d : decode cc pc = .ok (.ifnonnull off, 3)) (kt : ∀ a, o = some a → bkV E G Z k n M tgt L st) (kf : o = none → bkV E G Z k n M (pc + 3) L st) : bkV E G Z k n M pc L (rv o :: st) := by
  cases o with
  | none => exact fun H locs ls h1 h2 h3 h4 => lv_ifnonnullN X.1 X.2.1 d (kf rfl H locs ls h1 h2 h3 h4)
  | some a => exact fun H locs ls h1 h2 h3 h4 => lv_ifnonnull X.1 X.2.1 d ht (kt a rfl H locs ls h1 h2 h3 h4)
theorem r_aret {cn : String} {post : Option Nat → bkM → Prop} (X : bkX E G own cc nL (some (.object cn)) R) (hQ : eQ E = MQ (eB E) (bk_Qa post (bkH G Z) (bkA G)) (eA E) (eS E) k n (bkA G)) {o : Option Nat} (d : decode cc pc = .ok (.areturn, 1)) (hp : post o M) : bkV E G Z k n M pc L [rv o] := fun H locs ls h1 h2 h3 h4 => by
  unfold bkW
  rw [hQ]
  exact W.aret X.1 X.2.1 X.2.2.2.2.2.2.1 (Or.inl ⟨cn, rfl⟩) (by cases o; exact Or.inl rfl; exact Or.inr ⟨_, rfl⟩) (fun t ht hW => ⟨⟨o, M, rfl, hp, X.pre h1 h2 h3 ht hW⟩, h3.F ht⟩) h3.2.2 d X.2.2.2.2.2.2.2.1
theorem r_cret {post : Int32 → bkM → Prop} (X : bkX E G own cc nL (some .char) R) (hQ : eQ E = MQ (eB E) (va_Qi post (bkH G Z) (bkA G)) (eA E) (eS E) k n (bkA G)) {v : Int32} (d : decode cc pc = .ok (.ireturn, 1)) (hb : narrow .char (.int v) = .int v) (hp : post v M) : bkV E G Z k n M pc L [.int v] := fun H locs ls h1 h2 h3 h4 => by
  unfold bkW
  rw [hQ]
  exact W.zret X.1 X.2.1 X.2.2.2.2.2.2.1 hb (fun t ht hW => ⟨⟨v, M, rfl, hp, X.pre h1 h2 h3 ht hW⟩, h3.F ht⟩) h3.2.2 d X.2.2.2.2.2.2.2.1
end BKC2
section BKM2
variable {G : bkG} {Z Z' : Nat → Prop} {y : MethodName} {code : ByteArray} {nL h mc ms : Nat} {av : List Value} {M : bkM}
theorem bk_meta {cn : String} {post : Option Nat → bkM → Prop} (L : List (Option Value)) (hL : bkE av nL = L) (hy : plainFor y = true) (hc : av.all (fun v => v.category == 1) = true) (ha : Nat.ble av.length nL = true)
    (body : ∀ E : bkEnv, bkX E G y.cls code nL (some (.object cn)) (bkR h mc ms) → (∀ {M' : bkM} {o : Option Nat} {pc : Nat} {L' : List (Option Value)}, decode code pc = .ok (.areturn, 1) → post o M' → bkV E G Z' mc ms M' pc L' [rv o]) → bkV E G Z 0 0 M 0 L []) : bkCa G Z Z' y code nL (some (.object cn)) h mc ms av M post :=
  bk_met L hL hy hc ha fun E X hn hQ => body E X fun d hp => r_aret X hQ d hp
theorem bk_metc {post : Int32 → bkM → Prop} (L : List (Option Value)) (hL : bkE av nL = L) (hy : plainFor y = true) (hc : av.all (fun v => v.category == 1) = true) (ha : Nat.ble av.length nL = true)
    (body : ∀ E : bkEnv, bkX E G y.cls code nL (some .char) (bkR h mc ms) → (∀ {M' : bkM} {v : Int32} {pc : Nat} {L' : List (Option Value)}, decode code pc = .ok (.ireturn, 1) → narrow .char (.int v) = .int v → post v M' → bkV E G Z' mc ms M' pc L' [.int v]) → bkV E G Z 0 0 M 0 L []) : bkCi G Z Z' y code nL (some .char) h mc ms av M post :=
  bk_met L hL hy hc ha fun E X hn hQ => body E X fun d hb hp => r_cret X hQ d hb hp
end BKM2
section BKC3
variable {E : bkEnv} {R : Room} {G : bkG} {Z : Nat → Prop} {k n : Nat} {M : bkM} {pc : Nat} {L : List (Option Value)} {st st0 : List Value} {own : String} {cc : ByteArray} {nL : Nat} {ret : Option FieldType}
variable {y : MethodName} {code : ByteArray} {nL' h' mc ms idx : Nat} {ret' : Option FieldType} {Z' : Nat → Prop} {b : Nat} {as : List Value}

theorem r_callVi (X : bkX E G own cc nL ret R) {post : Int32 → bkM → Prop} (C : bkCi G Z Z' y code nL' ret' h' mc ms (.ref b :: as) M post) {ci : Nat} {fs : List Value} (hm : M b = some (.inr (ci, fs))) {q : vw_C} (hq : vwCl[ci]? = some q) (hqc : q.1 = y.cls) (hl : Cond.methodLink own idx y ∈ bkTB) (hi : Cond.instanceMethod y ∈ bkTB) (hs : Cond.selects y.cls y y ∈ bkTB) (hini : Cond.initialized y.cls ∈ bkTB) (hcd : Cond.code y code nL' ret' ∈ bkTB) (hd : bk_dsc y as.length) (hR : bk_fit R nL' h' k n mc ms) (hcat : (st.map fun v => v.category).sum ≤ 8) (hlen : L.length = nL) (hst : st0 = as.reverse ++ .ref b :: st) (d : decode cc pc = .ok (.invokevirtual idx, 3)) (kk : ∀ (r : Int32) (M' : bkM), post r M' → bkV E G Z' (k + mc) (n + ms) M' (pc + 3) L (.int r :: st)) : bkV E G Z k n M pc L st0 := by
  subst hst
  intro H locs ls h1 h2 h3 h4
  have hrun := va_runV (p := eP E) (l := eL E) (e := eE E) (R := eR E) (s := eS E) (m := eM E) (args := eA E) (below := eB E) (meth := eT E) (c := eC E) (H := H) (locs := locs) (cells := k) (slots := n) (As := as) (rest := st) (g := F0 (eM E) pc ls (as.reverse ++ .ref b :: st)) (ws := .code y code nL' ret' :: bkTB) (C := y.cls) ⟨X.1, X.2.1, X.2.2.1, X.2.2.2.1, X.2.2.2.2.1⟩ (C (eL E)) (cwV as.length X.2.2.2.2.1 (bk_gV hl hi hs hini hcd) rfl rfl rfl ⟨rfl, hd⟩ (by rw [X.rm]; exact hR.1)) ⟨bk_blind, by rw [← hqc]; exact va_recv (q0 := 0) X.2.2.2.2.2.1.1 (h1.one hm) hq rfl, fun U hU hW => ⟨rfl, X.pre h1 h2 h3 hU hW⟩⟩ rfl rfl (h4.1.trans hlen) rfl (lv_room hcat) d (by rw [X.rm]; exact hR.2)
  exact va_calli hrun h3 (fun q _ h => h) (fun q h => h) (fun r u t H1 locs1 ht hvm hw hB hz hk hS => kk r u hw H1 locs1 ls (by rw [← ht]; exact hB.1) (by rw [← ht]; exact hB.2.1) hS h4)
theorem r_callSi (X : bkX E G own cc nL ret R) {post : Int32 → bkM → Prop} (C : bkCi G Z Z' y code nL' ret' h' mc ms as M post) (hl : Cond.methodLink own idx y ∈ bkTB) (hi : Cond.static y ∈ bkTB) (hini : Cond.initialized y.cls ∈ bkTB) (hcd : Cond.code y code nL' ret' ∈ bkTB) (hd : bk_dsc y as.length) (hR : bk_fit R nL' h' k n mc ms) (hcat : (st.map fun v => v.category).sum ≤ 8) (hlen : L.length = nL) (hst : st0 = as.reverse ++ st) (d : decode cc pc = .ok (.invokestatic idx, 3)) (kk : ∀ (r : Int32) (M' : bkM), post r M' → bkV E G Z' (k + mc) (n + ms) M' (pc + 3) L (.int r :: st)) : bkV E G Z k n M pc L st0 := by
  subst hst
  intro H locs ls h1 h2 h3 h4
  have hrun := va_runS (p := eP E) (l := eL E) (e := eE E) (R := eR E) (s := eS E) (m := eM E) (args := eA E) (below := eB E) (meth := eT E) (c := eC E) (H := H) (locs := locs) (cells := k) (slots := n) (As := as) (rest := st) (g := F0 (eM E) pc ls (as.reverse ++ st)) (ws := .code y code nL' ret' :: bkTB) ⟨X.1, X.2.1, X.2.2.1, X.2.2.2.1, X.2.2.2.2.1⟩ (C (eL E)) (va_cwS as.length X.2.2.2.2.1 (bk_gS hl hi hini hcd) rfl rfl rfl hd (by rw [X.rm]; exact hR.1)) ⟨bk_blind, fun U hU hW => ⟨rfl, X.pre h1 h2 h3 hU hW⟩⟩ rfl rfl (h4.1.trans hlen) rfl (lv_room hcat) d (by rw [X.rm]; exact hR.2)
  exact va_calli hrun h3 (fun q _ h => h) (fun q h => h) (fun r u t H1 locs1 ht hvm hw hB hz hk hS => kk r u hw H1 locs1 ls (by rw [← ht]; exact hB.1) (by rw [← ht]; exact hB.2.1) hS h4)
theorem r_callSNi (X : bkX E G own cc nL ret R) {host : String} {post : Int32 → bkM → Prop} (C : bkCi G Z Z' y code nL' ret' h' mc ms as M post) (hl : va_Nw (.methodLinkNest own idx y host) (eS E)) (hi : Cond.static y ∈ bkTB) (hini : Cond.initialized y.cls ∈ bkTB) (hcd : Cond.code y code nL' ret' ∈ bkTB) (hd : bk_dsc y as.length) (hR : bk_fit R nL' h' k n mc ms) (hcat : (st.map fun v => v.category).sum ≤ 8) (hlen : L.length = nL) (hst : st0 = as.reverse ++ st) (d : decode cc pc = .ok (.invokestatic idx, 3)) (kk : ∀ (r : Int32) (M' : bkM), post r M' → bkV E G Z' (k + mc) (n + ms) M' (pc + 3) L (.int r :: st)) : bkV E G Z k n M pc L st0 := by
  subst hst
  intro H locs ls h1 h2 h3 h4
  have hrun := va_runSN (p := eP E) (l := eL E) (e := eE E) (R := eR E) (s := eS E) (m := eM E) (args := eA E) (below := eB E) (meth := eT E) (c := eC E) (H := H) (locs := locs) (cells := k) (slots := n) (As := as) (rest := st) (g := F0 (eM E) pc ls (as.reverse ++ st)) (ws := .code y code nL' ret' :: bkTB) ⟨X.1, X.2.1, X.2.2.1, X.2.2.2.1, X.2.2.2.2.1⟩ (C (eL E)) ⟨va_cnB as.length X.2.2.2.2.1 (bk_gC hcd) rfl rfl rfl hl (X.2.2.2.2.1 _ hini) hd (by rw [X.rm]; exact hR.1), X.2.2.2.2.1 _ hi, trivial⟩ ⟨bk_blind, fun U hU hW => ⟨rfl, X.pre h1 h2 h3 hU hW⟩⟩ rfl rfl (h4.1.trans hlen) rfl (lv_room hcat) d (by rw [X.rm]; exact hR.2)
  exact va_calli hrun h3 (fun q _ h => h) (fun q h => h) (fun r u t H1 locs1 ht hvm hw hB hz hk hS => kk r u hw H1 locs1 ls (by rw [← ht]; exact hB.1) (by rw [← ht]; exact hB.2.1) hS h4)
theorem r_callVv (X : bkX E G own cc nL ret R) {post : bkM → Prop} (C : bkCv G Z Z' y code nL' h' mc ms (.ref b :: as) M post) {ci : Nat} {fs : List Value} (hm : M b = some (.inr (ci, fs))) {q : vw_C} (hq : vwCl[ci]? = some q) (hqc : q.1 = y.cls) (hl : Cond.methodLink own idx y ∈ bkTB) (hi : Cond.instanceMethod y ∈ bkTB) (hs : Cond.selects y.cls y y ∈ bkTB) (hini : Cond.initialized y.cls ∈ bkTB) (hcd : Cond.code y code nL' none ∈ bkTB) (hd : bk_dsc y as.length) (hR : bk_fit R nL' h' k n mc ms) (hcat : (st.map fun v => v.category).sum ≤ 8) (hlen : L.length = nL) (hst : st0 = as.reverse ++ .ref b :: st) (d : decode cc pc = .ok (.invokevirtual idx, 3)) (kk : ∀ (M' : bkM), post M' → bkV E G Z' (k + mc) (n + ms) M' (pc + 3) L st) : bkV E G Z k n M pc L st0 := by
  subst hst
  intro H locs ls h1 h2 h3 h4
  have hrun := va_runV (p := eP E) (l := eL E) (e := eE E) (R := eR E) (s := eS E) (m := eM E) (args := eA E) (below := eB E) (meth := eT E) (c := eC E) (H := H) (locs := locs) (cells := k) (slots := n) (As := as) (rest := st) (g := F0 (eM E) pc ls (as.reverse ++ .ref b :: st)) (ws := .code y code nL' none :: bkTB) (C := y.cls) ⟨X.1, X.2.1, X.2.2.1, X.2.2.2.1, X.2.2.2.2.1⟩ (C (eL E)) (cwV as.length X.2.2.2.2.1 (bk_gV hl hi hs hini hcd) rfl rfl rfl ⟨rfl, hd⟩ (by rw [X.rm]; exact hR.1)) ⟨bk_blind, by rw [← hqc]; exact va_recv (q0 := 0) X.2.2.2.2.2.1.1 (h1.one hm) hq rfl, fun U hU hW => ⟨rfl, X.pre h1 h2 h3 hU hW⟩⟩ rfl rfl (h4.1.trans hlen) rfl (lv_room hcat) d (by rw [X.rm]; exact hR.2)
  exact va_callv hrun h3 (fun q _ h => h) (fun q h => h) (fun u t H1 locs1 ht hvm hw hB hz hk hS => kk u hw H1 locs1 ls (by rw [← ht]; exact hB.1) (by rw [← ht]; exact hB.2.1) hS h4)
theorem r_callSv (X : bkX E G own cc nL ret R) {post : bkM → Prop} (C : bkCv G Z Z' y code nL' h' mc ms as M post) (hl : Cond.methodLink own idx y ∈ bkTB) (hi : Cond.static y ∈ bkTB) (hini : Cond.initialized y.cls ∈ bkTB) (hcd : Cond.code y code nL' none ∈ bkTB) (hd : bk_dsc y as.length) (hR : bk_fit R nL' h' k n mc ms) (hcat : (st.map fun v => v.category).sum ≤ 8) (hlen : L.length = nL) (hst : st0 = as.reverse ++ st) (d : decode cc pc = .ok (.invokestatic idx, 3)) (kk : ∀ (M' : bkM), post M' → bkV E G Z' (k + mc) (n + ms) M' (pc + 3) L st) : bkV E G Z k n M pc L st0 := by
  subst hst
  intro H locs ls h1 h2 h3 h4
  have hrun := va_runS (p := eP E) (l := eL E) (e := eE E) (R := eR E) (s := eS E) (m := eM E) (args := eA E) (below := eB E) (meth := eT E) (c := eC E) (H := H) (locs := locs) (cells := k) (slots := n) (As := as) (rest := st) (g := F0 (eM E) pc ls (as.reverse ++ st)) (ws := .code y code nL' none :: bkTB) ⟨X.1, X.2.1, X.2.2.1, X.2.2.2.1, X.2.2.2.2.1⟩ (C (eL E)) (va_cwS as.length X.2.2.2.2.1 (bk_gS hl hi hini hcd) rfl rfl rfl hd (by rw [X.rm]; exact hR.1)) ⟨bk_blind, fun U hU hW => ⟨rfl, X.pre h1 h2 h3 hU hW⟩⟩ rfl rfl (h4.1.trans hlen) rfl (lv_room hcat) d (by rw [X.rm]; exact hR.2)
  exact va_callv hrun h3 (fun q _ h => h) (fun q h => h) (fun u t H1 locs1 ht hvm hw hB hz hk hS => kk u hw H1 locs1 ls (by rw [← ht]; exact hB.1) (by rw [← ht]; exact hB.2.1) hS h4)
theorem r_callI (X : bkX E G own cc nL ret R) {post : bkM → Prop} (C : bkCv G Z Z' y code nL' h' mc ms (.ref b :: as) M post) (hnm : y.name = "<init>") (hl : Cond.methodLink own idx y ∈ bkTB) (hi : Cond.instanceMethod y ∈ bkTB) (hini : Cond.initialized y.cls ∈ bkTB) (hcd : Cond.code y code nL' none ∈ bkTB) (hd : bk_dsc y as.length) (hR : bk_fit R nL' h' k n mc ms) (hcat : (st.map fun v => v.category).sum ≤ 8) (hlen : L.length = nL) (hst : st0 = as.reverse ++ .ref b :: st) (d : decode cc pc = .ok (.invokespecial idx, 3)) (kk : ∀ (M' : bkM), post M' → bkV E G Z' (k + mc) (n + ms) M' (pc + 3) L st) : bkV E G Z k n M pc L st0 := by
  subst hst
  intro H locs ls h1 h2 h3 h4
  have hrun := va_runI (p := eP E) (l := eL E) (e := eE E) (R := eR E) (s := eS E) (m := eM E) (args := eA E) (below := eB E) (meth := eT E) (c := eC E) (H := H) (locs := locs) (cells := k) (slots := n) (As := as) (rest := st) (g := F0 (eM E) pc ls (as.reverse ++ .ref b :: st)) (ws := .code y code nL' none :: bkTB) ⟨X.1, X.2.1, X.2.2.1, X.2.2.2.1, X.2.2.2.2.1⟩ (C (eL E)) (cwI as.length X.2.2.2.2.1 (bk_gC hcd) rfl rfl rfl (X.2.2.2.2.1 _ hini) (X.2.2.2.2.1 _ hl) (X.2.2.2.2.1 _ hi) hnm hd (by rw [X.rm]; exact hR.1)) ⟨bk_blind, fun U hU hW => ⟨rfl, X.pre h1 h2 h3 hU hW⟩⟩ rfl rfl (h4.1.trans hlen) rfl (lv_room hcat) d (by rw [X.rm]; exact hR.2)
  exact va_callv hrun h3 (fun q _ h => h) (fun q h => h) (fun u t H1 locs1 ht hvm hw hB hz hk hS => kk u hw H1 locs1 ls (by rw [← ht]; exact hB.1) (by rw [← ht]; exact hB.2.1) hS h4)
theorem r_callIN (X : bkX E G own cc nL ret R) {host : String} {post : bkM → Prop} (C : bkCv G Z Z' y code nL' h' mc ms (.ref b :: as) M post) (hnm : y.name = "<init>") (hl : va_Nw (.methodLinkNest own idx y host) (eS E)) (hi : Cond.instanceMethod y ∈ bkTB) (hini : Cond.initialized y.cls ∈ bkTB) (hcd : Cond.code y code nL' none ∈ bkTB) (hd : bk_dsc y as.length) (hR : bk_fit R nL' h' k n mc ms) (hcat : (st.map fun v => v.category).sum ≤ 8) (hlen : L.length = nL) (hst : st0 = as.reverse ++ .ref b :: st) (d : decode cc pc = .ok (.invokespecial idx, 3)) (kk : ∀ (M' : bkM), post M' → bkV E G Z' (k + mc) (n + ms) M' (pc + 3) L st) : bkV E G Z k n M pc L st0 := by
  subst hst
  intro H locs ls h1 h2 h3 h4
  have hrun := va_runIN (p := eP E) (l := eL E) (e := eE E) (R := eR E) (s := eS E) (m := eM E) (args := eA E) (below := eB E) (meth := eT E) (c := eC E) (H := H) (locs := locs) (cells := k) (slots := n) (As := as) (rest := st) (g := F0 (eM E) pc ls (as.reverse ++ .ref b :: st)) (ws := .code y code nL' none :: bkTB) ⟨X.1, X.2.1, X.2.2.1, X.2.2.2.1, X.2.2.2.2.1⟩ (C (eL E)) ⟨va_cnB as.length X.2.2.2.2.1 (bk_gC hcd) rfl rfl rfl hl (X.2.2.2.2.1 _ hini) hd (by rw [X.rm]; exact hR.1), hnm, X.2.2.2.2.1 _ hi⟩ ⟨bk_blind, fun U hU hW => ⟨rfl, X.pre h1 h2 h3 hU hW⟩⟩ rfl rfl (h4.1.trans hlen) rfl (lv_room hcat) d (by rw [X.rm]; exact hR.2)
  exact va_callv hrun h3 (fun q _ h => h) (fun q h => h) (fun u t H1 locs1 ht hvm hw hB hz hk hS => kk u hw H1 locs1 ls (by rw [← ht]; exact hB.1) (by rw [← ht]; exact hB.2.1) hS h4)
theorem r_callVf (X : bkX E G own cc nL ret R) {post : UInt32 → bkM → Prop} (C : bkCf G Z Z' y code nL' h' mc ms (.ref b :: as) M post) {ci : Nat} {fs : List Value} (hm : M b = some (.inr (ci, fs))) {q : vw_C} (hq : vwCl[ci]? = some q) (hqc : q.1 = y.cls) (hl : Cond.methodLink own idx y ∈ bkTB) (hi : Cond.instanceMethod y ∈ bkTB) (hs : Cond.selects y.cls y y ∈ bkTB) (hini : Cond.initialized y.cls ∈ bkTB) (hcd : Cond.code y code nL' (some .float) ∈ bkTB) (hd : bk_dsc y as.length) (hR : bk_fit R nL' h' k n mc ms) (hcat : (st.map fun v => v.category).sum ≤ 8) (hlen : L.length = nL) (hst : st0 = as.reverse ++ .ref b :: st) (d : decode cc pc = .ok (.invokevirtual idx, 3)) (kk : ∀ (r : UInt32) (M' : bkM), post r M' → bkV E G Z' (k + mc) (n + ms) M' (pc + 3) L (.float r :: st)) : bkV E G Z k n M pc L st0 := by
  subst hst
  intro H locs ls h1 h2 h3 h4
  have hrun := va_runV (p := eP E) (l := eL E) (e := eE E) (R := eR E) (s := eS E) (m := eM E) (args := eA E) (below := eB E) (meth := eT E) (c := eC E) (H := H) (locs := locs) (cells := k) (slots := n) (As := as) (rest := st) (g := F0 (eM E) pc ls (as.reverse ++ .ref b :: st)) (ws := .code y code nL' (some .float) :: bkTB) (C := y.cls) ⟨X.1, X.2.1, X.2.2.1, X.2.2.2.1, X.2.2.2.2.1⟩ (C (eL E)) (cwV as.length X.2.2.2.2.1 (bk_gV hl hi hs hini hcd) rfl rfl rfl ⟨rfl, hd⟩ (by rw [X.rm]; exact hR.1)) ⟨bk_blind, by rw [← hqc]; exact va_recv (q0 := 0) X.2.2.2.2.2.1.1 (h1.one hm) hq rfl, fun U hU hW => ⟨rfl, X.pre h1 h2 h3 hU hW⟩⟩ rfl rfl (h4.1.trans hlen) rfl (lv_room hcat) d (by rw [X.rm]; exact hR.2)
  exact va_callf hrun h3 (fun q _ h => h) (fun q h => h) (fun r u t H1 locs1 ht hvm hw hB hz hk hS => kk r u hw H1 locs1 ls (by rw [← ht]; exact hB.1) (by rw [← ht]; exact hB.2.1) hS h4)
theorem r_callVa (X : bkX E G own cc nL ret R) {post : Option Nat → bkM → Prop} (C : bkCa G Z Z' y code nL' ret' h' mc ms (.ref b :: as) M post) {ci : Nat} {fs : List Value} (hm : M b = some (.inr (ci, fs))) {q : vw_C} (hq : vwCl[ci]? = some q) (hqc : q.1 = y.cls) (hl : Cond.methodLink own idx y ∈ bkTB) (hi : Cond.instanceMethod y ∈ bkTB) (hs : Cond.selects y.cls y y ∈ bkTB) (hini : Cond.initialized y.cls ∈ bkTB) (hcd : Cond.code y code nL' ret' ∈ bkTB) (hd : bk_dsc y as.length) (hR : bk_fit R nL' h' k n mc ms) (hcat : (st.map fun v => v.category).sum ≤ 8) (hlen : L.length = nL) (hst : st0 = as.reverse ++ .ref b :: st) (d : decode cc pc = .ok (.invokevirtual idx, 3)) (kk : ∀ (r : Option Nat) (M' : bkM), post r M' → bkV E G Z' (k + mc) (n + ms) M' (pc + 3) L (rv r :: st)) : bkV E G Z k n M pc L st0 := by
  subst hst
  intro H locs ls h1 h2 h3 h4
  have hrun := va_runV (p := eP E) (l := eL E) (e := eE E) (R := eR E) (s := eS E) (m := eM E) (args := eA E) (below := eB E) (meth := eT E) (c := eC E) (H := H) (locs := locs) (cells := k) (slots := n) (As := as) (rest := st) (g := F0 (eM E) pc ls (as.reverse ++ .ref b :: st)) (ws := .code y code nL' ret' :: bkTB) (C := y.cls) ⟨X.1, X.2.1, X.2.2.1, X.2.2.2.1, X.2.2.2.2.1⟩ (C (eL E)) (cwV as.length X.2.2.2.2.1 (bk_gV hl hi hs hini hcd) rfl rfl rfl ⟨rfl, hd⟩ (by rw [X.rm]; exact hR.1)) ⟨bk_blind, by rw [← hqc]; exact va_recv (q0 := 0) X.2.2.2.2.2.1.1 (h1.one hm) hq rfl, fun U hU hW => ⟨rfl, X.pre h1 h2 h3 hU hW⟩⟩ rfl rfl (h4.1.trans hlen) rfl (lv_room hcat) d (by rw [X.rm]; exact hR.2)
  exact bk_calla hrun h3 (fun q _ h => h) (fun q h => h) (fun r u t H1 locs1 ht hvm hw hB hz hk hS => kk r u hw H1 locs1 ls (by rw [← ht]; exact hB.1) (by rw [← ht]; exact hB.2.1) hS h4)
end BKC3
section BKC4
variable {E : bkEnv} {R : Room} {G : bkG} {Z : Nat → Prop} {k n : Nat} {M : bkM} {pc : Nat} {L : List (Option Value)} {st st0 : List Value} {own : String} {cc : ByteArray} {nL : Nat} {ret : Option FieldType}

/-! ends -/
theorem r_iret {post : Int32 → bkM → Prop} (X : bkX E G own cc nL (some .int) R) (hQ : eQ E = MQ (eB E) (va_Qi post (bkH G Z) (bkA G)) (eA E) (eS E) k n (bkA G)) {v : Int32} (d : decode cc pc = .ok (.ireturn, 1)) (hp : post v M) : bkV E G Z k n M pc L [.int v] := fun H locs ls h1 h2 h3 h4 => by
  unfold bkW
  rw [hQ]
  exact W.iret X.1 X.2.1 X.2.2.2.2.2.2.1 (fun t ht hW => ⟨⟨v, M, rfl, hp, X.pre h1 h2 h3 ht hW⟩, h3.F ht⟩) h3.2.2 d X.2.2.2.2.2.2.2.1
theorem r_zret {post : Int32 → bkM → Prop} (X : bkX E G own cc nL (some .boolean) R) (hQ : eQ E = MQ (eB E) (va_Qi post (bkH G Z) (bkA G)) (eA E) (eS E) k n (bkA G)) {v : Int32} (d : decode cc pc = .ok (.ireturn, 1)) (hb : v = 0 ∨ v = 1) (hp : post v M) : bkV E G Z k n M pc L [.int v] := fun H locs ls h1 h2 h3 h4 => by
  unfold bkW
  rw [hQ]
  exact W.zret X.1 X.2.1 X.2.2.2.2.2.2.1 (by rcases hb with rfl | rfl <;> rfl) (fun t ht hW => ⟨⟨v, M, rfl, hp, X.pre h1 h2 h3 ht hW⟩, h3.F ht⟩) h3.2.2 d X.2.2.2.2.2.2.2.1
theorem r_vret {post : bkM → Prop} (X : bkX E G own cc nL none R) (hQ : eQ E = MQ (eB E) (va_Qv post (bkH G Z) (bkA G)) (eA E) (eS E) k n (bkA G)) (d : decode cc pc = .ok (.return_, 1)) (hp : post M) : bkV E G Z k n M pc L [] := fun H locs ls h1 h2 h3 h4 => by
  unfold bkW
  rw [hQ]
  exact W.vret X.1 X.2.1 X.2.2.2.2.2.2.1 (fun t ht hW => ⟨⟨M, rfl, hp, X.pre h1 h2 h3 ht hW⟩, h3.F ht⟩) h3.2.2 d X.2.2.2.2.2.2.2.1
theorem r_fret {post : UInt32 → bkM → Prop} (X : bkX E G own cc nL (some .float) R) (hQ : eQ E = MQ (eB E) (va_Qf post (bkH G Z) (bkA G)) (eA E) (eS E) k n (bkA G)) {v : UInt32} (d : decode cc pc = .ok (.freturn, 1)) (hp : post v M) : bkV E G Z k n M pc L [.float v] := fun H locs ls h1 h2 h3 h4 => by
  unfold bkW
  rw [hQ]
  exact W.fret X.1 X.2.1 X.2.2.2.2.2.2.1 (fun t ht hW => ⟨⟨v, M, rfl, hp, X.pre h1 h2 h3 ht hW⟩, h3.F ht⟩) h3.2.2 d X.2.2.2.2.2.2.2.1
end BKC4
section BKM
variable {G : bkG} {Z Z' : Nat → Prop} {y : MethodName} {code : ByteArray} {nL h mc ms : Nat} {av : List Value} {M : bkM}
theorem bk_meti {post : Int32 → bkM → Prop} (L : List (Option Value)) (hL : bkE av nL = L) (hy : plainFor y = true) (hc : av.all (fun v => v.category == 1) = true) (ha : Nat.ble av.length nL = true)
    (body : ∀ E : bkEnv, bkX E G y.cls code nL (some .int) (bkR h mc ms) → (∀ {M' : bkM} {v : Int32} {pc : Nat} {L' : List (Option Value)}, decode code pc = .ok (.ireturn, 1) → post v M' → bkV E G Z' mc ms M' pc L' [.int v]) → bkV E G Z 0 0 M 0 L []) : bkCi G Z Z' y code nL (some .int) h mc ms av M post :=
  bk_met L hL hy hc ha fun E X hn hQ => body E X fun d hp => r_iret X hQ d hp
theorem bk_metz {post : Int32 → bkM → Prop} (L : List (Option Value)) (hL : bkE av nL = L) (hy : plainFor y = true) (hc : av.all (fun v => v.category == 1) = true) (ha : Nat.ble av.length nL = true)
    (body : ∀ E : bkEnv, bkX E G y.cls code nL (some .boolean) (bkR h mc ms) → (∀ {M' : bkM} {v : Int32} {pc : Nat} {L' : List (Option Value)}, decode code pc = .ok (.ireturn, 1) → v = 0 ∨ v = 1 → post v M' → bkV E G Z' mc ms M' pc L' [.int v]) → bkV E G Z 0 0 M 0 L []) : bkCi G Z Z' y code nL (some .boolean) h mc ms av M post :=
  bk_met L hL hy hc ha fun E X hn hQ => body E X fun d hb hp => r_zret X hQ d hb hp
theorem bk_metv {post : bkM → Prop} (L : List (Option Value)) (hL : bkE av nL = L) (hy : plainFor y = true) (hc : av.all (fun v => v.category == 1) = true) (ha : Nat.ble av.length nL = true)
    (body : ∀ E : bkEnv, bkX E G y.cls code nL none (bkR h mc ms) → (eT E).name = y.name → (∀ {M' : bkM} {pc : Nat} {L' : List (Option Value)}, decode code pc = .ok (.return_, 1) → post M' → bkV E G Z' mc ms M' pc L' []) → bkV E G Z 0 0 M 0 L []) : bkCv G Z Z' y code nL h mc ms av M post :=
  bk_met L hL hy hc ha fun E X hn hQ => body E X hn fun d hp => r_vret X hQ d hp
theorem bk_metf {post : UInt32 → bkM → Prop} (L : List (Option Value)) (hL : bkE av nL = L) (hy : plainFor y = true) (hc : av.all (fun v => v.category == 1) = true) (ha : Nat.ble av.length nL = true)
    (body : ∀ E : bkEnv, bkX E G y.cls code nL (some .float) (bkR h mc ms) → (∀ {M' : bkM} {v : UInt32} {pc : Nat} {L' : List (Option Value)}, decode code pc = .ok (.freturn, 1) → post v M' → bkV E G Z' mc ms M' pc L' [.float v]) → bkV E G Z 0 0 M 0 L []) : bkCf G Z Z' y code nL h mc ms av M post :=
  bk_met L hL hy hc ha fun E X hn hQ => body E X fun d hp => r_fret X hQ d hp
end BKM
section BKD
variable {E : bkEnv} {R : Room} {G : bkG} {Z : Nat → Prop} {k n : Nat} {M : bkM} {pc idx : Nat} {L : List (Option Value)} {st st0 : List Value} {own : String} {cc : ByteArray} {nL : Nat} {ret : Option FieldType}


/-! static arrays, making, copying -/
theorem bkX.sta {i : Nat} (X : bkX E G own cc nL ret R) {nm : String} {f : Nat → Int32} (h : bkS G (eS E) (eS E).heap → bkS1 G nm i f (eS E) (eS E).heap) : bkS1 G nm i f (eS E) (eS E).heap := h X.2.2.2.2.2.1.2.1
theorem r_gets (X : bkX E G own cc nL ret R) {i : Nat} {nm : String} {f : Nat → Int32} (h : bkS G (eS E) (eS E).heap → bkS1 G nm i f (eS E) (eS E).heap) (hl : Cond.fieldLink own idx RX8 nm "[I" ∈ bkTB) (d : decode cc pc = .ok (.getstatic idx, 3)) (kk : bkV E G Z k n M (pc + 3) L (.ref (G.2.2.2.1 i) :: st)) : bkV E G Z k n M pc L st := fun H locs ls h1 h2 h3 h4 =>
  va_gets X.1 X.2.1 (X.sta h).1 h3 X.2.2.2.1 (X.2.2.2.2.1 _ hl) (fun _ h9 => h9) d (kk H locs ls h1 h2 h3 h4)
theorem r_getsN (X : bkX E G own cc nL ret R) {i : Nat} {nm host : String} {f : Nat → Int32} (h : bkS G (eS E) (eS E).heap → bkS1 G nm i f (eS E) (eS E).heap) (hl : va_Nw (.fieldLinkNest own idx RX8 nm "[I" host) (eS E)) (d : decode cc pc = .ok (.getstatic idx, 3)) (kk : bkV E G Z k n M (pc + 3) L (.ref (G.2.2.2.1 i) :: st)) : bkV E G Z k n M pc L st := fun H locs ls h1 h2 h3 h4 =>
  va_getsN X.1 X.2.1 (X.sta h).1 h3 X.2.2.2.1 (hl.use rfl) (fun _ h9 => h9) d (kk H locs ls h1 h2 h3 h4)
theorem r_ialdS (X : bkX E G own cc nL ret R) {t : Nat} {nm : String} {f : Nat → Int32} (h : bkS G (eS E) (eS E).heap → bkS1 G nm t f (eS E) (eS E).heap) {i : Int32} (j : Nat) (hi : i = nI j) (hj : j < 4) (d : decode cc pc = .ok (.iaload, 1)) (kk : bkV E G Z k n M (pc + 1) L (.int (f j) :: st)) : bkV E G Z k n M pc L (.int i :: .ref (G.2.2.2.1 t) :: st) := fun H locs ls h1 h2 h3 h4 =>
  va_ti X.1 X.2.1 (X.sta h).2 h3 (by rw [hi]; exact vp_in_nI hj (by decide)) (by rw [hi, nI_clamp (Nat.lt_trans hj (by decide))]) d (kk H locs ls h1 h2 h3 h4)
theorem r_alenS (X : bkX E G own cc nL ret R) {t : Nat} {nm : String} {f : Nat → Int32} (h : bkS G (eS E) (eS E).heap → bkS1 G nm t f (eS E) (eS E).heap) (d : decode cc pc = .ok (.arraylength, 1)) (kk : bkV E G Z k n M (pc + 1) L (.int 4 :: st)) : bkV E G Z k n M pc L (.ref (G.2.2.2.1 t) :: st) := fun H locs ls h1 h2 h3 h4 =>
  va_tlen X.1 X.2.1 (X.sta h).2 h3 rfl d (kk H locs ls h1 h2 h3 h4)
theorem r_objInit (X : bkX E G own cc nL ret R) {a : Nat} (hl : Cond.methodLink own idx objectInit ∈ bkTB) (hi : Cond.instanceMethod objectInit ∈ bkTB) (hc : Cond.code objectInit ⟨#[0xb1]⟩ 1 none ∈ bkTB) (hlen : L.length = nL) (hR : 1 ≤ R.frames ∧ 0 + (st.map fun v => v.category).sum + 12 ≤ R.locals) (d : decode cc pc = .ok (.invokespecial idx, 3)) (kk : bkV E G Z k n M (pc + 3) L st) : bkV E G Z k n M pc L (.ref a :: st) := fun H locs ls h1 h2 h3 h4 =>
  W.objInit X.1 X.2.1 X.2.2.2.1 (X.2.2.2.2.1 _ hl) (X.2.2.2.2.1 _ hi) (X.2.2.2.2.1 _ hc) rfl ((h4.1.trans hlen).trans X.2.2.1.symm) rfl d (by rw [X.rm]; exact hR.1) (by rw [X.rm]; exact hR.2) (kk H locs ls h1 h2 h3 h4)
theorem r_new (X : bkX E G own cc nL ret R) {a : Nat} {ci : Nat} {C : String} {T : u_T} {N : Nat} (hc : vwCl[ci]? = some (C, T, N)) (hin : ∀ w ∈ u_ws C T N, w ∈ bkTB) (ty0 : Nat → FieldType) (hty : ∀ k, k < N → parseFieldDescriptor (T k).2.2.1 = some (ty0 k)) (fs : List Value) (hfs : ∀ j, j < N → defaultValue (ty0 j) = vp_V fs j) (hcl : Cond.classLink own idx C ∈ bkTB) (hinst : Cond.instantiable C N ∈ bkTB) (hini : Cond.initialized C ∈ bkTB) (hR : k + 1 ≤ R.cells ∧ n + N ≤ R.slots) (d : decode cc pc = .ok (.new idx, 3)) (kk : bkV E G (fun z => z = a + 1) (k + 1) (n + N) (bku M a (.inr (ci, fs))) (pc + 3) L (.ref a :: st)) : bkV E G (fun z => z = a) k n M pc L st := by
  intro H locs ls h1 h2 h3 h4
  have hts := X.2.2.2.2.1
  have hKn := X.2.2.2.2.2.1.1.1 ci _ hc
  refine W.newcK X.1 X.2.1 X.2.2.2.1 (hts _ hcl) (hts _ hinst) (hts _ hini) rfl d (by rw [X.rm]; exact hR.1) (by rw [X.rm]; exact hR.2) hKn.2.1 h2 fun H1 kC hkC e1 z1 o1 => ?_
  exact kk H1 locs ls (h1.add h2 ⟨_, hc, (u_born ty0 hts hin hKn hkC e1 hty).to hfs⟩ z1 o1) z1 (bkS_grow h3 h2 z1 o1) h4
theorem r_newI (X : bkX E G own cc nL ret R) {a : Nat} {i : Int32} (N : Nat) (hi : i = nI N) (hN : N ≤ 4096) (hw : Cond.arrayClass .int ∈ bkTB) (hR : k + 1 ≤ R.cells ∧ n + N ≤ R.slots) (d : decode cc pc = .ok (.newarray .int, 2)) (kk : bkV E G (fun z => z = a + 1) (k + 1) (n + N) (bku M a (aI G N (fun _ => 0))) (pc + 2) L (.ref a :: st)) : bkV E G (fun z => z = a) k n M pc L (.int i :: st) := by
  subst hi
  intro H locs ls h1 h2 h3 h4
  refine va_newaK X.1 X.2.1 (atype := .int) (X.2.2.2.2.1 _ hw) rfl d rfl (nI_pos (by omega)) (nI_clamp (by omega)) (by show N * 4 ≤ 536870912; omega) (by rw [X.rm]; exact hR.1) (by rw [X.rm]; exact hR.2) h2 fun H1 cA e1 z1 o1 _ hf => ?_
  have hA : (eS E).vm.findClass ("[" ++ FieldType.int.toString) = some (G.2.1 0) := (X.2.2.2.2.2.1.1.2 0 _ rfl).2
  have e : cA = G.2.1 0 := Option.some.inj (hf.symm.trans hA)
  subst e
  exact kk H1 locs ls (h1.add h2 e1 z1 o1) z1 (bkS_grow h3 h2 z1 o1) h4
theorem r_newC (X : bkX E G own cc nL ret R) {a : Nat} {i : Int32} (N : Nat) (hi : i = nI N) (hN : N ≤ 4096) (hw : Cond.arrayClass .char ∈ bkTB) (hR : k + 1 ≤ R.cells ∧ n + N ≤ R.slots) (d : decode cc pc = .ok (.newarray .char, 2)) (kk : bkV E G (fun z => z = a + 1) (k + 1) (n + N) (bku M a (aC G N (fun _ => 0))) (pc + 2) L (.ref a :: st)) : bkV E G (fun z => z = a) k n M pc L (.int i :: st) := by
  subst hi
  intro H locs ls h1 h2 h3 h4
  refine va_newaK X.1 X.2.1 (atype := .char) (X.2.2.2.2.1 _ hw) rfl d rfl (nI_pos (by omega)) (nI_clamp (by omega)) (by show N * 2 ≤ 536870912; omega) (by rw [X.rm]; exact hR.1) (by rw [X.rm]; exact hR.2) h2 fun H1 cA e1 z1 o1 _ hf => ?_
  have hA : (eS E).vm.findClass ("[" ++ FieldType.char.toString) = some (G.2.1 1) := (X.2.2.2.2.2.1.1.2 1 _ rfl).2
  have e : cA = G.2.1 1 := Option.some.inj (hf.symm.trans hA)
  subst e
  exact kk H1 locs ls (h1.add h2 e1 z1 o1) z1 (bkS_grow h3 h2 z1 o1) h4
theorem r_newQ (X : bkX E G own cc nL ret R) {a : Nat} {i : Int32} {t : Nat} {C : String} (N : Nat) (hi : i = nI N) (hN : N ≤ 4096) (hcl : Cond.classLink own idx C ∈ bkTB) (hao : va_AO C (eS E)) (ht : (bkT G)[t]? = some (G.2.1 t, .object C)) (hR : k + 1 ≤ R.cells ∧ n + N ≤ R.slots) (d : decode cc pc = .ok (.anewarray idx, 3)) (kk : bkV E G (fun z => z = a + 1) (k + 1) (n + N) (bku M a (aQ G t N (fun _ => none))) (pc + 3) L (.ref a :: st)) : bkV E G (fun z => z = a) k n M pc L (.int i :: st) := by
  subst hi
  intro H locs ls h1 h2 h3 h4
  have hcl1 : (nI N).toNatClampNeg = N := nI_clamp (by omega)
  refine W.anew X.1 X.2.1 X.2.2.2.1 (X.2.2.2.2.1 _ hcl) hao.use rfl d rfl (nI_pos (by omega)) (by rw [hcl1]; omega) (by rw [X.rm]; exact hR.1) (by rw [hcl1, X.rm]; exact hR.2) fun cA kA comp f1 f2 f3 f4 => ?_
  obtain ⟨_, _, -, -, -, f5⟩ := (X.2.2.2.2.2.1.1.2 t _ ht).2
  have e : cA = G.2.1 t := Option.some.inj (f1.symm.trans f5)
  subst e
  rw [hcl1]
  have h2' : H.size = a := h2
  have z1 : (H.push ({ cls := G.2.1 t, slots := Array.replicate N .null, vm := .none } : Cell)).size = a + 1 := by rw [Array.size_push, h2']
  have e1 : (H.push ({ cls := G.2.1 t, slots := Array.replicate N .null, vm := .none } : Cell))[a]? = some (arrV (G.2.1 t) N (fun _ => .null)) := by rw [← h2', Array.getElem?_push_size, ← arrV_new]
  have o1 : ∀ q : Nat, q < a → (H.push ({ cls := G.2.1 t, slots := Array.replicate N .null, vm := .none } : Cell))[q]? = H[q]? := fun q hq => by rw [Array.getElem?_push, if_neg (by omega)]
  rw [h2']
  exact kk _ locs ls (h1.add h2 e1 z1 o1) z1 (bkS_grow h3 h2 z1 o1) h4
theorem r_copyI (X : bkX E G own cc nL ret R) {a b N0 N1 : Nat} {f g : Nat → Int32} (hma : M a = some (aI G N0 f)) (hmb : M b = some (aI G N1 g)) {i : Int32} (N : Nat) (hi : i = nI N) (hN0 : N ≤ N0) (hN1 : N ≤ N1) (hN : N < 2 ^ 31) (hl : Cond.methodLink own idx arraycopyName ∈ bkTB) (hnat : Cond.native arraycopyName ∈ bkTB) (hstc : Cond.static arraycopyName ∈ bkTB) (hini : Cond.initialized "java/lang/System" ∈ bkTB) (hlen : L.length = nL) (hR : 1 ≤ R.frames ∧ (st.map fun v => v.category).sum + (nativeFrameWords "java/lang/System" "arraycopy" 5 + 11) ≤ R.locals) (d : decode cc pc = .ok (.invokestatic idx, 3)) (kk : bkV E G Z k n (bku M b (aI G N1 (fun j => if j < N then f j else g j))) (pc + 3) L st) : bkV E G Z k n M pc L (.int i :: .int 0 :: .ref b :: .int 0 :: .ref a :: st) := by
  subst hi
  intro H locs ls h1 h2 h3 h4
  intro T hT XS
  have hcN : (nI N).toNatClampNeg = N := nI_clamp hN
  have hpN : ¬ nI N < 0 := nI_pos hN
  have hc0 : H[a]? = some (vp_cell (G.2.1 0) (N0, .inl f)) := (h1.1 a _ hma).1
  have hc1 : H[b]? = some (vp_cell (G.2.1 0) (N1, .inl g)) := (h1.1 b _ hmb).1
  obtain ⟨-, k0, hk0, cm0, hkk0⟩ := (X.ty (t := 0) rfl).1 N0 (fun j => .int (f j))
  obtain ⟨-, k1, hk1, cm1, hkk1⟩ := (X.ty (t := 0) rfl).1 N1 (fun j => .int (g j))
  have hnI : (nI N).toInt = (N : Int) := nI_toInt hN
  obtain ⟨vm', X', step⟩ := XS.arraycopy X.1 X.2.2.2.1 (X.2.2.2.2.1 _ hl) (X.2.2.2.2.1 _ hnat) (X.2.2.2.2.1 _ hstc) (X.2.2.2.2.1 _ hini) (src := a) (dst := b) (cs := vp_cell (G.2.1 0) (N0, .inl f)) (cd := vp_cell (G.2.1 0) (N1, .inl g)) (srcPos := 0) (destPos := 0) (n := nI N) (by rw [hT]; exact hc0) (by rw [hT]; exact hc1)
    (fun _ h => by cases h) (fun _ h => by cases h) (fun h => by cases h) (fun h => by cases h) hk0 hk1 hkk0 hkk1 rfl (by decide) (by decide) hpN
    (by rw [hnI]; show ¬ (0 : Int) + _ > ((arrV (G.2.1 0) N0 (fun j => .int (f j))).slots.size : Int); rw [arrV_size]; omega)
    (by rw [hnI]; show ¬ (0 : Int) + _ > ((arrV (G.2.1 0) N1 (fun j => .int (g j))).slots.size : Int); rw [arrV_size]; omega)
    (fun vm₁ _ i hi => by
      have hi' : i < N := by rw [hcN] at hi; exact hi
      have e : (vp_cell (G.2.1 0) (N0, .inl f)).slots.getD ((0 : Int32).toNatClampNeg + i) .null = .int (f ((0 : Int32).toNatClampNeg + i)) := by
        show (arrV (G.2.1 0) N0 (fun j => .int (f j))).slots.getD _ _ = _
        rw [Array.getD_eq_getD_getElem?, arrV_read _ _ (by rw [show (0 : Int32).toNatClampNeg = 0 from rfl]; omega)]
        rfl
      refine ⟨?_, ?_⟩
      · rw [e]; rfl
      · rw [e]
        exact trivial)
    (g := F0 (eM E) pc ls (.int (nI N) :: .int 0 :: .ref b :: .int 0 :: .ref a :: st)) rfl ((h4.1.trans hlen).trans X.2.2.1.symm) (rest := st) rfl (by rw [X.2.1]; exact d) (by rw [X.rm]; exact hR.1) (by rw [X.rm]; show 2 * 0 + _ + _ ≤ _; have := hR.2; omega)
  have e1 : copied (vp_cell (G.2.1 0) (N0, .inl f)) (vp_cell (G.2.1 0) (N1, .inl g)) 0 0 (nI N) = vp_cell (G.2.1 0) (N1, .inl (va_cpy f g (0 : Int32).toNatClampNeg (0 : Int32).toNatClampNeg (nI N).toNatClampNeg)) := va_copied (fun z => .int z) (G.2.1 0) (G.2.1 0) f g (by rw [hcN]; show 0 + N ≤ N0; omega)
  rw [e1] at X' step
  have e2 : va_cpy f g (0 : Int32).toNatClampNeg (0 : Int32).toNatClampNeg (nI N).toNatClampNeg = (fun j => if j < N then f j else g j) := by
    rw [hcN]
    funext j
    show (if 0 ≤ j ∧ j < 0 + N then f (0 + (j - 0)) else g j) = _
    by_cases hj : j < N
    · rw [if_pos ⟨Nat.zero_le _, by omega⟩, if_pos hj, Nat.sub_zero, Nat.zero_add]
    · rw [if_neg (fun q => hj (by omega)), if_neg hj]
  rw [e2] at X' step
  have hl1 : b < H.size := h1.lt hmb
  have hheap : ((T.setVm vm').setCell b (vp_cell (G.2.1 0) (N1, .inl (fun j => if j < N then f j else g j)))).heap = H.setIfInBounds b (vp_cell (G.2.1 0) (N1, .inl (fun j => if j < N then f j else g j))) := by rw [← hT]; rfl
  have oq : ∀ q : Nat, q ≠ b → (H.setIfInBounds b (vp_cell (G.2.1 0) (N1, .inl (fun j => if j < N then f j else g j))))[q]? = H[q]? := fun q hq => by simp [Array.getElem?_setIfInBounds, Ne.symm hq]
  have z1 : (H.setIfInBounds b (vp_cell (G.2.1 0) (N1, .inl (fun j => if j < N then f j else g j)))).size = H.size := by simp
  obtain ⟨t, a1, b1⟩ := kk _ _ ls (h1.put hmb (show (H.setIfInBounds b _)[b]? = some _ by simp [Array.getElem?_setIfInBounds, hl1]) z1 oq) (by rw [z1]; exact h2) ⟨by rw [z1]; exact h3.1, fun q g1 g2 => by
      rw [oq q (fun e => g2 (by rw [e]; exact h1.inA hmb))]
      exact h3.2.1 q g1 g2, fun q hq => by
      rcases List.mem_append.mp hq with h | h
      · exact h3.2.2 q h
      · obtain ⟨z, -, hz⟩ := List.mem_map.mp h
        rw [← hz]
        exact h1.inA hmb⟩ h4 _ hheap X'
  exact ⟨t, step t a1, b1⟩
/-- a local is forgotten -/
def bkn : List (Option Value) → Nat → List (Option Value)
  | [], _ => []
  | _ :: l, 0 => none :: l
  | a :: l, n + 1 => a :: bkn l n
theorem bkn_len : ∀ (L : List (Option Value)) (i : Nat), (bkn L i).length = L.length
  | [], _ => rfl
  | _ :: _, 0 => rfl
  | _ :: l, i + 1 => by show (bkn l i).length + 1 = l.length + 1; rw [bkn_len l i]
theorem bkn_get : ∀ (L : List (Option Value)) (i j : Nat) (v : Value), bkl (bkn L i) j = some v → bkl L j = some v
  | [], _, _, _, h => by cases h
  | _ :: _, 0, 0, _, h => by cases h
  | _ :: _, 0, _ + 1, _, h => h
  | _ :: _, _ + 1, 0, _, h => h
  | _ :: l, i + 1, j + 1, v, h => bkn_get l i j v h
theorem bkV.drop (i : Nat) (kk : bkV E G Z k n M pc (bkn L i) st) : bkV E G Z k n M pc L st := fun H locs ls h1 h2 h3 h4 => kk H locs ls h1 h2 h3 ⟨h4.1.trans (bkn_len L i).symm, h4.2.1, fun j v hj => h4.2.2 j v (bkn_get L i j v hj)⟩
/-- new int[N][K]: the outer row at a, the inner ones behind it -/
def bkI (M : bkM) (a N : Nat) (eo ei : va_E) : bkM := fun x => if x = a then some eo else if a < x ∧ x ≤ a + N then some ei else M x
theorem r_newII (X : bkX E G own cc nL ret R) {a : Nat} {i1 i2 : Int32} (N K : Nat) (hi1 : i1 = nI N) (hi2 : i2 = nI K) (hN : N ≤ 4096) (hK : K ≤ 4096) (hcl : Cond.classLink own idx "[[I" ∈ bkTB) (hao : bkAO .int (eS E)) (hw : Cond.arrayClass .int ∈ bkTB) (hR : k + (1 + N) ≤ R.cells ∧ n + (N + N * K) ≤ R.slots) (d : decode cc pc = .ok (.multianewarray idx 2, 4)) (kk : bkV E G (fun z => z = a + 1 + N) (k + 1 + N) (n + N + N * K) (bkI M a N (aQ G 2 N (fun i => if i < N then some (a + 1 + i) else none)) (aI G K (fun _ => 0))) (pc + 4) L (.ref a :: st)) : bkV E G (fun z => z = a) k n M pc L (.int i2 :: .int i1 :: st) := by
  subst hi1
  subst hi2
  intro H locs ls h1 h2 h3 h4 T hT Xs
  have hcN : (nI N).toNatClampNeg = N := nI_clamp (by omega)
  have hcK : (nI K).toNatClampNeg = K := nI_clamp (by omega)
  have h2' : H.size = a := h2
  obtain ⟨vm₁, cA, comp, -, fA, fC, hO, -, X', step⟩ := Xs.multianewarray2F X.1 X.2.2.2.1 (ty := .int) (X.2.2.2.2.1 _ hcl) hao.use (X.2.2.2.2.1 _ hw) (g := F0 (eM E) pc ls (.int (nI K) :: .int (nI N) :: st)) rfl (by rw [X.2.1]; exact d) rfl (nI_pos (by omega)) (nI_pos (by omega)) (by rw [hcN]; omega) (by rw [hcK]; show K * 4 ≤ _; omega) (by rw [hcK]; omega) rfl rfl (by rw [hcN, X.rm]; exact hR.1) (by rw [hcN, hcK, X.rm]; exact hR.2)
  have hA0 : (eS E).vm.findClass ("[" ++ FieldType.int.toString) = some (G.2.1 0) := (X.2.2.2.2.2.1.1.2 0 _ rfl).2
  have hA2 : (eS E).vm.findClass ("[" ++ (FieldType.array .int).toString) = some (G.2.1 2) := (X.2.2.2.2.2.1.1.2 2 _ rfl).2
  have ec : some (G.2.1 0) = some comp := hA0.symm.trans fC
  cases ec
  have ea : some (G.2.1 2) = some cA := hA2.symm.trans fA
  cases ea
  rw [hcN, hcK] at X' step
  generalize hF : Jvm.Free.Multi.fill (T.setVm vm₁) (G.2.1 2) (G.2.1 0) N K (defaultValue .int) N = F at X' step
  have hTh : (T.setVm vm₁).heap = H := hT
  obtain ⟨f1, f2, -, -⟩ := Jvm.Free.Multi.fill_facts (T.setVm vm₁) (G.2.1 2) (G.2.1 0) N K (defaultValue .int) N
  rw [hF, hTh] at f1 f2
  have hold : ∀ x : Nat, x < H.size → F.heap[x]? = H[x]? := fun x hx => by
    have := Jvm.Free.Multi.fill_old (T.setVm vm₁) (G.2.1 2) (G.2.1 0) N K (defaultValue .int) (a := x) (by rw [hTh]; exact hx) N
    rw [hF, hTh] at this
    exact this
  have hrow : ∀ j : Nat, j < N → F.heap[H.size + 1 + j]? = some (vp_cell (G.2.1 0) (K, .inl (fun _ => 0))) := fun j hj => by
    have := Jvm.Free.Multi.fill_inner (T.setVm vm₁) (G.2.1 2) (G.2.1 0) N K (defaultValue .int) N j hj
    rw [hF, hTh] at this
    rw [this]
    refine congrArg some ?_
    rw [vp_cell_i, ← arrV_new]
    rfl
  have hout : Jvm.Free.Multi.outerC (G.2.1 2) N H.size N = vp_cell (G.2.1 2) (N, .inr (.inr (.inr (.inr (fun i => if i < N then some (H.size + 1 + i) else none))))) := by
    rw [vp_cell_q]
    exact vr_outer (G.2.1 2) N H.size N
  rw [hout] at f2
  rw [h2'] at f1 f2 hrow
  have hZ1 : F.heap.size = a + 1 + N := by rw [f1]
  have hTs : T.heap.size = a := by rw [hT]; exact h2'
  obtain ⟨t, a1, b1⟩ := kk F.heap locs ls ⟨fun x ev hx => by
      unfold bkI at hx
      by_cases e0 : x = a
      · subst e0
        rw [if_pos rfl] at hx
        cases hx
        exact ⟨f2, by rw [← h2']; exact h1.2⟩
      · rw [if_neg e0] at hx
        by_cases e1 : a < x ∧ x ≤ a + N
        · rw [if_pos e1] at hx
          cases hx
          have := hrow (x - (a + 1)) (by omega)
          rw [show a + 1 + (x - (a + 1)) = x by omega] at this
          exact ⟨this, Nat.le_trans (by rw [← h2']; exact h1.2) (Nat.le_of_lt e1.1)⟩
        · rw [if_neg e1] at hx
          exact ⟨(h1.1 x ev hx).1.kept (hold x (h1.lt hx)), (h1.1 x ev hx).2⟩, by rw [hZ1]; have := h1.2; omega⟩ hZ1 ⟨by rw [hZ1]; have := h3.1; omega, fun q g1 g2 => (hold q (Nat.lt_of_lt_of_le g1 h3.1)).trans (h3.2.1 q g1 g2), h3.2.2⟩ h4 F rfl (by
      have e : k + 1 + N = k + (1 + N) := by omega
      have e2 : n + N + N * K = n + (N + N * K) := by omega
      first | exact X' | (rw [e, e2]; exact X'))
  refine ⟨t, step t ?_, b1⟩
  rw [hTs]
  exact a1
theorem bkX.nw (X : bkX E G own cc nL ret R) : bkN (eS E) := X.2.2.2.2.2.1.2.2
theorem bk_cat {st : List Value} (h : Nat.ble ((st.map fun v => v.category).sum) 8 = true) : (st.map fun v => v.category).sum ≤ 8 := Nat.le_of_ble_eq_true h
theorem bk_room {nL' h' mc ms : Nat} (h : (Nat.ble (h' + 1) R.frames && Nat.ble (8 + (nL' + 11) + 39 * h') R.locals && Nat.ble (k + mc) R.cells && Nat.ble (n + ms) R.slots) = true) : bk_fit R nL' h' k n mc ms := by
  simp only [Bool.and_eq_true] at h
  exact ⟨⟨Nat.le_of_ble_eq_true h.1.1.1, Nat.le_of_ble_eq_true h.1.1.2⟩, Nat.le_of_ble_eq_true h.1.2, Nat.le_of_ble_eq_true h.2⟩
end BKD

