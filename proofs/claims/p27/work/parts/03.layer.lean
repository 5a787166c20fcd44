/-! ===== worlds as maps from addresses to cells; a judgement without heaps; rows over it ===== -/
abbrev bkM : Type := Nat → Option va_E
def bku (M : bkM) (a : Nat) (e : va_E) : bkM := fun x => if x = a then some e else M x
theorem bku_at {M : bkM} {a : Nat} {e : va_E} : bku M a e a = some e := if_pos rfl
theorem bku_ne {M : bkM} {a b : Nat} {e : va_E} (h : b ≠ a) : bku M a e b = M b := if_neg h
theorem bku_of {M : bkM} {a b : Nat} {e : va_E} {r : Option va_E} (h : b ≠ a) (g : M b = r) : bku M a e b = r := (bku_ne h).trans g
/-- tables of classes, classes of arrays, first address of ours, addresses of the static arrays -/
abbrev bkG : Type := va_G × (Nat → ClassId) × Nat × (Nat → Nat) × (Nat × (Nat → Int32))
def bkA (G : bkG) : Nat → Prop := fun q => G.2.2.1 ≤ q
def bkT (G : bkG) : List (ClassId × FieldType) := [(G.2.1 0, .int), (G.2.1 1, .char), (G.2.1 2, .array .int), (G.2.1 3, .object RX3), (G.2.1 4, .object RX2), (G.2.1 5, .object RX5), (G.2.1 6, .object RX6), (G.2.1 7, .object RX4)]
def bkLC : Nat → Int32 := fun j => if j = 0 then 22 else if j = 1 then 27 else if j = 2 then 72 else 77
def bkMS : Nat → Int32 := fun j => if j = 0 then 7 else if j = 1 then 3 else if j = 2 then 9 else 255
def bkLS : Nat → Int32 := fun j => if j = 0 then 0 else if j = 1 then 1 else if j = 2 then 1 else 0
def bkS1 (G : bkG) (n : String) (i : Nat) (f : Nat → Int32) (U : State) (H : Heap) : Prop := va_Z RX8 n "[I" (.ref (G.2.2.2.1 i)) (bkA G) U H ∧ va_T .int (G.2.2.2.1 i) 4 (fun j => .int (f j)) (bkA G) U H
def bkS (G : bkG) (U : State) (H : Heap) : Prop := bkS1 G "LIGHT_CELLS" 0 bkLC U H ∧ bkS1 G "MOST_SETTING" 1 bkMS U H ∧ bkS1 G "LEAST_SETTING" 2 bkLS U H ∧ va_T .int (G.2.2.2.1 3) G.2.2.2.2.1 (fun j => .int (G.2.2.2.2.2 j)) (bkA G) U H
/-- a class of arrays of arrays -/
def bkAO (t : FieldType) (U : State) : Prop := (Cond.arrayOver (.array t)).before #[] U = true
theorem bkAO.use {t : FieldType} {A : Array Value} {U : State} (h : bkAO t U) : (Cond.arrayOver (.array t)).before A U = true := h
theorem bkAO.moved {t : FieldType} {u U : State} (hvm : u.vm.Alike U.vm) (h : bkAO t u) : bkAO t U := by
  obtain ⟨comp, c, k, h1, h2, h3, h4, h5⟩ := arrayOverA_spec h
  obtain ⟨k', hk', he⟩ := hvm.2.2 _ _ h3
  have e1 : U.vm.bare = u.vm.bare := by first | exact hvm.bare_eq | exact hvm.bare_eq.symm
  have hi : (U.vm.classes.findIdx? fun (x : Class) => match x.kind with | .array component _ => component == comp | _ => false) = some c := ((va_idx_bare U.vm comp).symm.trans (by rw [e1]; exact va_idx_bare u.vm comp)).trans h2
  have hkind : k'.kind = .array comp (.array t) := by rw [he]; exact h4
  have f1 : U.vm.findClass (FieldType.array t).toString = some comp := by rw [hvm.findClass]; exact h1
  have f2 : U.vm.findClass ("[" ++ (FieldType.array t).toString) = some c := by rw [hvm.findClass]; exact h5
  unfold bkAO Cond.before Cond.holds
  simp only [Cond.value]
  rw [f1, Option.bind_some]
  refine (congrArg (fun o : Option Nat => (o.bind (fun c => (U.vm.classes[c]?).map fun (k : Class) => match k.kind with | .array _ ty => decide (ty = FieldType.array t) && decide (U.vm.findClass ("[" ++ (FieldType.array t).toString) = some c) | _ => false) == some true)) hi).trans ?_
  simp [hk', hkind, f2]
/-- the nest's words, the classes of arrays of objects -/
def bkN (U : State) : Prop := (va_Nw (.methodLinkNest RX0 26 yX8_distanceBetween RX8) U ∧ va_Nw (.methodLinkNest RX6 50 yX2_init RX8) U ∧ va_Nw (.methodLinkNest RX6 51 yX5_init RX8) U ∧ va_Nw (.methodLinkNest RX7 31 yX4_init RX8) U ∧ va_Nw (.methodLinkNest RX6 68 yX8_isCell RX8) U ∧ va_Nw (.methodLinkNest RX6 87 yX8_isShip RX8) U ∧ va_Nw (.methodLinkNest RX6 164 yX8_isLight RX8) U ∧ va_Nw (.methodLinkNest RX3 60 yX8_isCell RX8) U ∧ va_Nw (.methodLinkNest RX5 31 yX8_distanceBetween RX8) U)
  ∧ (va_Nw (.fieldLinkNest RX0 23 RX8 "LIGHT_CELLS" "[I" RX8) U ∧ va_Nw (.fieldLinkNest RX3 24 RX8 "LIGHT_CELLS" "[I" RX8) U ∧ va_Nw (.fieldLinkNest RX6 78 RX8 "LIGHT_CELLS" "[I" RX8) U)
  ∧ (va_AO RX2 U ∧ va_AO RX3 U ∧ va_AO RX4 U ∧ va_AO RX5 U ∧ va_AO RX6 U ∧ bkAO .int U)
def bkK (G : bkG) (U : State) (H : Heap) : Prop := va_K G.1 vwCl (bkT G) U ∧ bkS G U H ∧ bkN U
def bkP (G : bkG) (M : bkM) (H : Heap) : Prop := (∀ a e, M a = some e → va_at G.1 vwCl (a, e) H ∧ G.2.2.1 ≤ a) ∧ G.2.2.1 ≤ H.size
def bkH (G : bkG) (Z : Nat → Prop) (M : bkM) (U : State) : Prop := bkP G M U.heap ∧ Z U.heap.size ∧ bkK G U U.heap
theorem bkN.warm {s U : State} (hW : s.WarmedH U.vm) (h : bkN s) : bkN U := by
  obtain ⟨⟨a0, a1, a2, a3, a4, a5, a6, a7, a8⟩, ⟨b0, b1, b2⟩, ⟨c1, c2, c3, c4, c5, c6⟩⟩ := h
  exact ⟨⟨a0.warmM hW, a1.warmM hW, a2.warmM hW, a3.warmM hW, a4.warmM hW, a5.warmM hW, a6.warmM hW, a7.warmM hW, a8.warmM hW⟩, ⟨b0.warmF hW, b1.warmF hW, b2.warmF hW⟩, ⟨c1.moved hW.alike, c2.moved hW.alike, c3.moved hW.alike, c4.moved hW.alike, c5.moved hW.alike, c6.moved hW.alike⟩⟩
theorem bkS1.go {G : bkG} {n : String} {i : Nat} {f : Nat → Int32} {s U : State} {H H1 : Heap} (hvm : s.vm.Alike U.vm) (hq : ∀ a : Nat, a < H.size → ¬ bkA G a → H1[a]? = H[a]?) (h : bkS1 G n i f s H) : bkS1 G n i f U H1 := ⟨(h.1.moved hvm).kept hq, (h.2.moved hvm).kept hq⟩
theorem bkK.go {G : bkG} {s U : State} {H H1 : Heap} (hW : s.WarmedH U.vm) (hq : ∀ a : Nat, a < H.size → ¬ bkA G a → H1[a]? = H[a]?) (h : bkK G s H) : bkK G U H1 :=
  ⟨h.1.moved hW.alike, ⟨h.2.1.1.go hW.alike hq, h.2.1.2.1.go hW.alike hq, h.2.1.2.2.1.go hW.alike hq, (h.2.1.2.2.2.moved hW.alike).kept hq⟩, h.2.2.warm hW⟩
/-- the locals: what is known of each -/
def bkl : List (Option Value) → Nat → Option Value
  | [], _ => none
  | a :: _, 0 => a
  | _ :: l, n + 1 => bkl l n
def bks : List (Option Value) → Nat → Value → List (Option Value)
  | [], _, _ => []
  | _ :: l, 0, v => some v :: l
  | a :: l, n + 1, v => a :: bks l n v
def bkc (L : List (Option Value)) : Nat → Bool
  | 0 => true
  | n + 1 => match bkl L n with | none => true | some v => v.category == 1
def bkw : Nat → List (Option Value) → List (Nat × Value)
  | _, [] => []
  | k, none :: l => bkw (k + 1) l
  | k, some v :: l => (k, v) :: bkw (k + 1) l
theorem bks_len : ∀ (L : List (Option Value)) (i : Nat) (v : Value), (bks L i v).length = L.length
  | [], _, _ => rfl
  | _ :: _, 0, _ => rfl
  | _ :: l, i + 1, v => by show (bks l i v).length + 1 = l.length + 1; rw [bks_len l i v]
theorem bkl_same : ∀ (L : List (Option Value)) (i : Nat) (v : Value), i < L.length → bkl (bks L i v) i = some v
  | [], _, _, h => absurd h (Nat.not_lt_zero _)
  | _ :: _, 0, _, _ => rfl
  | _ :: l, i + 1, v, h => bkl_same l i v (Nat.lt_of_succ_lt_succ h)
theorem bkl_ne : ∀ (L : List (Option Value)) (i j : Nat) (v : Value), j ≠ i → bkl (bks L i v) j = bkl L j
  | [], _, _, _, _ => rfl
  | _ :: _, 0, 0, _, h => absurd rfl h
  | _ :: _, 0, _ + 1, _, _ => rfl
  | _ :: _, _ + 1, 0, _, _ => rfl
  | _ :: l, i + 1, j + 1, v, h => bkl_ne l i j v (fun e => h (by rw [e]))
theorem bkl_lt : ∀ (L : List (Option Value)) (i : Nat) (v : Value), bkl L i = some v → i < L.length
  | [], _, _, h => by cases h
  | _ :: _, 0, _, _ => Nat.zero_lt_succ _
  | _ :: l, i + 1, v, h => Nat.succ_lt_succ (bkl_lt l i v h)
theorem bkw_in : ∀ (L : List (Option Value)) (k i : Nat) (v : Value), bkl L i = some v → (k + i, v) ∈ bkw k L
  | [], _, _, _, h => by cases h
  | none :: _, _, 0, _, h => by cases h
  | some a :: l, k, 0, v, h => by
    cases h
    exact List.mem_cons_self
  | none :: l, k, i + 1, v, h => by
    have := bkw_in l (k + 1) i v h
    rw [show k + (i + 1) = k + 1 + i by omega]
    exact this
  | some a :: l, k, i + 1, v, h => by
    have := bkw_in l (k + 1) i v h
    rw [show k + (i + 1) = k + 1 + i by omega]
    exact List.mem_cons_of_mem _ this
theorem bkw_of : ∀ (L : List (Option Value)) (k : Nat) (q : Nat × Value), q ∈ bkw k L → k ≤ q.1 ∧ bkl L (q.1 - k) = some q.2
  | [], _, _, h => by cases h
  | none :: l, k, q, h => by
    obtain ⟨h1, h2⟩ := bkw_of l (k + 1) q h
    refine ⟨by omega, ?_⟩
    rw [show q.1 - k = (q.1 - (k + 1)) + 1 by omega]
    exact h2
  | some a :: l, k, q, h => by
    rcases List.mem_cons.mp h with rfl | h
    · exact ⟨Nat.le_refl _, by rw [Nat.sub_self]; rfl⟩
    · obtain ⟨h1, h2⟩ := bkw_of l (k + 1) q h
      refine ⟨by omega, ?_⟩
      rw [show q.1 - k = (q.1 - (k + 1)) + 1 by omega]
      exact h2
def bkL (ls : Array Slot) (L : List (Option Value)) : Prop := ls.size = L.length ∧ lv_wf ls ∧ ∀ i v, bkl L i = some v → ls[i]? = some (.val v)
theorem bkL.has {ls : Array Slot} {L : List (Option Value)} (h : bkL ls L) : lv_has ls L.length (bkw 0 L) :=
  ⟨h.1, h.2.1, fun q hq => h.2.2 q.1 q.2 (by have := (bkw_of L 0 q hq).2; rw [Nat.sub_zero] at this; exact this)⟩
theorem bkL.of {ls : Array Slot} {L : List (Option Value)} (h : lv_has ls L.length (bkw 0 L)) : bkL ls L :=
  ⟨h.1, h.2.1, fun i v hv => by have := bkw_in L 0 i v hv; rw [Nat.zero_add] at this; exact h.2.2 (i, v) this⟩
theorem bkL.set {ls : Array Slot} {L : List (Option Value)} {i : Nat} {v : Value} (hi : i < L.length) (hc : bkc L i = true) (h : lv_has ls L.length ((i, v) :: (bkw 0 L).filter (fun q => !(q.1 == i) && !(q.1 + 1 == i && q.2.category == 2)))) : bkL ls (bks L i v) := by
  refine ⟨by rw [bks_len]; exact h.1, h.2.1, fun j u hj => ?_⟩
  by_cases e : j = i
  · subst e
    rw [bkl_same L j v hi] at hj
    cases hj
    exact h.2.2 (j, v) List.mem_cons_self
  · rw [bkl_ne L i j v e] at hj
    have hm := bkw_in L 0 j u hj
    rw [Nat.zero_add] at hm
    refine h.2.2 (j, u) (List.mem_cons_of_mem _ (List.mem_filter.mpr ⟨hm, ?_⟩))
    have h1 : (j == i) = false := by simpa using e
    by_cases e2 : j + 1 = i
    · subst e2
      have hc' : (u.category == 1) = true := by
        have : bkc L (j + 1) = (match bkl L j with | none => true | some v => v.category == 1) := rfl
        rw [this, hj] at hc
        exact hc
      have hu : u.category = 1 := by simpa using hc'
      simp [h1, hu]
    · have h2 : (j + 1 == i) = false := by simpa using e2
      simp [h1, h2]
/-- where a method stands: what doesn't change while it runs -/
abbrev bkEnv : Type := Program × Launch × Env × Room × State × MethodId × Array Value × List Frame × Method × Code × (State → Prop)
abbrev eP (E : bkEnv) : Program := E.1
abbrev eL (E : bkEnv) : Launch := E.2.1
abbrev eE (E : bkEnv) : Env := E.2.2.1
abbrev eR (E : bkEnv) : Room := E.2.2.2.1
abbrev eS (E : bkEnv) : State := E.2.2.2.2.1
abbrev eM (E : bkEnv) : MethodId := E.2.2.2.2.2.1
abbrev eA (E : bkEnv) : Array Value := E.2.2.2.2.2.2.1
abbrev eB (E : bkEnv) : List Frame := E.2.2.2.2.2.2.2.1
abbrev eT (E : bkEnv) : Method := E.2.2.2.2.2.2.2.2.1
abbrev eC (E : bkEnv) : Code := E.2.2.2.2.2.2.2.2.2.1
abbrev eQ (E : bkEnv) : State → Prop := E.2.2.2.2.2.2.2.2.2.2
abbrev bkW (E : bkEnv) (H : Heap) (locs : List Loc) (k n : Nat) (g : JFrame) : Prop := W (eP E) (eL E) (eE E) (eR E) (eS E) (eM E) (eA E) (eB E) (eT E) (eC E) H locs k n (eQ E) g
def bkX (E : bkEnv) (G : bkG) (own : String) (cc : ByteArray) (nL : Nat) (ret : Option FieldType) (R : Room) : Prop :=
  (eP E).tables.exec = Jvm.exec ∧ (eC E).code = cc ∧ (eC E).maxLocals = nL ∧ (eS E).vm.findClass own = some (eM E).cls ∧ (∀ w ∈ bkTB, w.before (eA E) (eS E) = true) ∧ bkK G (eS E) (eS E).heap ∧ (eT E).sig.returnType = ret ∧ (eT E).locks = false ∧ eR E = R
theorem bkX.rm {E : bkEnv} {G : bkG} {own : String} {cc : ByteArray} {nL : Nat} {ret : Option FieldType} {R : Room} (X : bkX E G own cc nL ret R) : eR E = R := X.2.2.2.2.2.2.2.2
def bkV (E : bkEnv) (G : bkG) (Z : Nat → Prop) (k n : Nat) (M : bkM) (pc : Nat) (L : List (Option Value)) (st : List Value) : Prop :=
  ∀ (H : Heap) (locs : List Loc) (ls : Array Slot), bkP G M H → Z H.size → va_S (bkA G) (eS E).heap H locs → bkL ls L → bkW E H locs k n (F0 (eM E) pc ls st)
def bkR (h mc ms : Nat) : Room := { frames := h, cells := mc, slots := ms, locals := 39 * h }
/-- contracts: an int (or boolean), nothing, a float -/
def bkCi (G : bkG) (Z Z' : Nat → Prop) (y : MethodName) (code : ByteArray) (nL : Nat) (ret : Option FieldType) (h mc ms : Nat) (av : List Value) (M : bkM) (post : Int32 → bkM → Prop) : Prop :=
  ∀ l : Launch, Met l y (.code y code nL ret :: bkTB) (bkR h mc ms) (va_Pc av (bkH G Z M)) (va_Qi post (bkH G Z') (bkA G)) mc ms (bkA G)
def bkCv (G : bkG) (Z Z' : Nat → Prop) (y : MethodName) (code : ByteArray) (nL : Nat) (h mc ms : Nat) (av : List Value) (M : bkM) (post : bkM → Prop) : Prop :=
  ∀ l : Launch, Met l y (.code y code nL none :: bkTB) (bkR h mc ms) (va_Pc av (bkH G Z M)) (va_Qv post (bkH G Z') (bkA G)) mc ms (bkA G)
def bkCf (G : bkG) (Z Z' : Nat → Prop) (y : MethodName) (code : ByteArray) (nL : Nat) (h mc ms : Nat) (av : List Value) (M : bkM) (post : UInt32 → bkM → Prop) : Prop :=
  ∀ l : Launch, Met l y (.code y code nL (some .float) :: bkTB) (bkR h mc ms) (va_Pc av (bkH G Z M)) (va_Qf post (bkH G Z') (bkA G)) mc ms (bkA G)
def bkE (av : List Value) (nL : Nat) : List (Option Value) := av.map some ++ List.replicate (nL - av.length) none
theorem bkE_len {av : List Value} {nL : Nat} (h : av.length ≤ nL) : (bkE av nL).length = nL := by
  unfold bkE
  rw [List.length_append, List.length_map, List.length_replicate]
  omega
theorem bkl_none : ∀ (k i : Nat), bkl (List.replicate k none) i = none
  | 0, _ => rfl
  | _ + 1, 0 => rfl
  | k + 1, i + 1 => bkl_none k i
theorem bkl_app : ∀ (av : List Value) (k i : Nat) (v : Value), bkl (av.map some ++ List.replicate k none) i = some v → av[i]? = some v
  | [], k, i, v, h => by
    rw [List.map_nil, List.nil_append, bkl_none] at h
    cases h
  | a :: l, k, 0, v, h => by
    cases h
    rfl
  | a :: l, k, i + 1, v, h => by
    rw [List.getElem?_cons_succ]
    exact bkl_app l k i v h
theorem bk_sl : ∀ (av : List Value), (∀ v ∈ av, v.category = 1) → lg_sl av = av.map Slot.val
  | [], _ => rfl
  | a :: l, h => by
    have h1 := h a List.mem_cons_self
    have ih := bk_sl l (fun v hv => h v (List.mem_cons_of_mem _ hv))
    simp [lg_sl, h1] at ih ⊢
    first | exact ih | simpa using ih | skip
theorem bk_entry {av : List Value} {nL : Nat} (h1 : ∀ v ∈ av, v.category = 1) (h2 : av.length ≤ nL) : bkL ((lg_sl av ++ List.replicate (nL - (lg_sl av).length) Slot.unset).toArray) (bkE av nL) := by
  have hs : lg_sl av = av.map Slot.val := bk_sl av h1
  have hl : (lg_sl av).length = av.length := by rw [hs, List.length_map]
  have hE := lv_entry av (n := nL) (by rw [hl]; exact h2)
  refine ⟨by rw [bkE_len h2]; exact hE.1, hE.2.1, fun i v hv => ?_⟩
  have hv2 := bkl_app av _ i v hv
  have hlt := (List.getElem?_eq_some_iff.mp hv2).1
  rw [hs, List.getElem?_toArray, List.getElem?_append_left (by rw [List.length_map]; exact hlt), List.getElem?_map, hv2]
  rfl


section BKE
variable {G : bkG} {Z Z' : Nat → Prop} {y : MethodName} {code : ByteArray} {nL h mc ms : Nat} {ret : Option FieldType} {av : List Value} {M : bkM}
theorem bk_met {Qc : Array Value → State → Outcome → State → Prop} (L : List (Option Value)) (hL : bkE av nL = L) (hy : plainFor y = true) (hc : av.all (fun v => v.category == 1) = true) (ha : Nat.ble av.length nL = true)
    (body : ∀ E : bkEnv, bkX E G y.cls code nL ret (bkR h mc ms) → (eT E).name = y.name → eQ E = MQ (eB E) Qc (eA E) (eS E) mc ms (bkA G) → bkV E G Z 0 0 M 0 L []) :
    ∀ l : Launch, Met l y (.code y code nL ret :: bkTB) (bkR h mc ms) (va_Pc av (bkH G Z M)) Qc mc ms (bkA G) := by
  intro l
  refine MetFree.of_bodySF (code := code) (maxLocals := nL) (ret := ret) hy ?_ ?_
  · intro args s m h9 hn
    obtain ⟨meth, c, g1, g2, g3, g4, g5, g6, -, -⟩ := Cond.code_spec hn (atoms_spec (ws := .code y code nL ret :: bkTB) h9 _ List.mem_cons_self)
    exact ⟨meth, c, g1, g2, g3, g4, g5, g6⟩
  intro p e s m args below meth c s₁ B hml hv _
  obtain ⟨rfl, hP, hZ, hK⟩ := hv
  have hh0 : s₁.heap = s.heap := by rw [B.state]; rfl
  have hts := atoms_spec (ws := .code y code nL ret :: bkTB) B.pre
  have hown : s.vm.findClass y.cls = some m.cls := findClass_of_methodNamed B.named
  have hnm : meth.name = y.name := (name_of_methodNamed B.named B.method).1
  have X : bkX (p, l, e, bkR h mc ms, s, m, av.toArray, below, meth, c, MQ below Qc av.toArray s mc ms (bkA G)) G y.cls code nL ret (bkR h mc ms) := ⟨B.exec, B.bytes, hml, hown, fun w hw => hts w (List.mem_cons_of_mem _ hw), hK, B.returns, B.notSynchronized, rfl⟩
  have hl := bk_entry (av := av) (nL := nL) (fun v hv => by simpa using List.all_eq_true.mp hc v hv) (Nat.le_of_ble_eq_true ha)
  rw [hL] at hl
  have hw := body _ X hnm rfl s.heap [] _ hP hZ va_S.rf hl
  unfold bkW at hw
  rw [← lg_entry_eq] at hw
  obtain ⟨t, a1, o, b1, b2, b3⟩ := hw s₁ hh0 (Stand.of_body B)
  exact ⟨t, o, a1, b1, b2, ⟨b3.1, b3.2⟩⟩
end BKE
section BKR
variable {E : bkEnv} {R : Room} {G : bkG} {Z : Nat → Prop} {k n : Nat} {M : bkM} {pc : Nat} {L : List (Option Value)} {st : List Value} {own : String} {cc : ByteArray} {nL : Nat} {ret : Option FieldType}

theorem r_iconst (X : bkX E G own cc nL ret R) {i : Int} {v : Int32} (hv : Int32.ofInt i = v) (d : decode cc pc = .ok (.iconst i, 1)) (kk : bkV E G Z k n M (pc + 1) L (.int v :: st)) : bkV E G Z k n M pc L st := fun H locs ls h1 h2 h3 h4 => lv_iconst X.1 X.2.1 d hv (kk H locs ls h1 h2 h3 h4)
theorem r_bipush (X : bkX E G own cc nL ret R) {i : Int} {v : Int32} (hv : (Int8.ofInt i).toInt32 = v) (d : decode cc pc = .ok (.bipush i, 2)) (kk : bkV E G Z k n M (pc + 2) L (.int v :: st)) : bkV E G Z k n M pc L st := fun H locs ls h1 h2 h3 h4 => lv_bipush X.1 X.2.1 d hv (kk H locs ls h1 h2 h3 h4)
theorem r_sipush (X : bkX E G own cc nL ret R) {i : Int} {v : Int32} (hv : (Int16.ofInt i).toInt32 = v) (d : decode cc pc = .ok (.sipush i, 3)) (kk : bkV E G Z k n M (pc + 3) L (.int v :: st)) : bkV E G Z k n M pc L st := fun H locs ls h1 h2 h3 h4 => lv_sipush X.1 X.2.1 d hv (kk H locs ls h1 h2 h3 h4)
theorem r_ldcw (X : bkX E G own cc nL ret R) {i : Nat} {v : Int32} (hw : Cond.constant own i v ∈ bkTB) (d : decode cc pc = .ok (.ldc_w i, 3)) (kk : bkV E G Z k n M (pc + 3) L (.int v :: st)) : bkV E G Z k n M pc L st := fun H locs ls h1 h2 h3 h4 => lv_ldcw X.1 X.2.1 X.2.2.2.1 (X.2.2.2.2.1 _ hw) d (kk H locs ls h1 h2 h3 h4)
theorem r_ldcf (X : bkX E G own cc nL ret R) {i : Nat} {v : UInt32} (hw : Cond.constantFloat own i v ∈ bkTB) (d : decode cc pc = .ok (.ldc i, 2)) (kk : bkV E G Z k n M (pc + 2) L (.float v :: st)) : bkV E G Z k n M pc L st := fun H locs ls h1 h2 h3 h4 => lv_ldcf X.1 X.2.1 X.2.2.2.1 (X.2.2.2.2.1 _ hw) d (kk H locs ls h1 h2 h3 h4)
theorem r_iload (X : bkX E G own cc nL ret R) {i : Nat} {x : Int32} (hl : bkl L i = some (.int x)) (d : decode cc pc = .ok (.iload i, 2)) (kk : bkV E G Z k n M (pc + 2) L (.int x :: st)) : bkV E G Z k n M pc L st := fun H locs ls h1 h2 h3 h4 => lv_iload X.1 X.2.1 d (h4.2.2 _ _ hl) (kk H locs ls h1 h2 h3 h4)
theorem r_iload_n (X : bkX E G own cc nL ret R) {i : Fin 4} {x : Int32} (hl : bkl L i.val = some (.int x)) (d : decode cc pc = .ok (.iload_n i, 1)) (kk : bkV E G Z k n M (pc + 1) L (.int x :: st)) : bkV E G Z k n M pc L st := fun H locs ls h1 h2 h3 h4 => lv_iload_n X.1 X.2.1 d rfl (h4.2.2 _ _ hl) (kk H locs ls h1 h2 h3 h4)
theorem r_aload (X : bkX E G own cc nL ret R) {i : Nat} {x : Nat} (hl : bkl L i = some (.ref x)) (d : decode cc pc = .ok (.aload i, 2)) (kk : bkV E G Z k n M (pc + 2) L (.ref x :: st)) : bkV E G Z k n M pc L st := fun H locs ls h1 h2 h3 h4 => lv_aload X.1 X.2.1 d (h4.2.2 _ _ hl) (kk H locs ls h1 h2 h3 h4)
theorem r_aload_n (X : bkX E G own cc nL ret R) {i : Fin 4} {x : Nat} (hl : bkl L i.val = some (.ref x)) (d : decode cc pc = .ok (.aload_n i, 1)) (kk : bkV E G Z k n M (pc + 1) L (.ref x :: st)) : bkV E G Z k n M pc L st := fun H locs ls h1 h2 h3 h4 => lv_aload_n X.1 X.2.1 d rfl (h4.2.2 _ _ hl) (kk H locs ls h1 h2 h3 h4)
theorem r_istore (X : bkX E G own cc nL ret R) {i : Nat} {x : Int32} (hi : Nat.blt i L.length = true) (hc : bkc L i = true) (d : decode cc pc = .ok (.istore i, 2)) (kk : bkV E G Z k n M (pc + 2) (bks L i (.int x)) st) : bkV E G Z k n M pc L (.int x :: st) := fun H locs ls h1 h2 h3 h4 => lv_istore X.1 X.2.1 d h4.has (Nat.blt_eq.mp hi) rfl (fun ls2 hl2 => kk H locs ls2 h1 h2 h3 (bkL.set (Nat.blt_eq.mp hi) hc hl2))
theorem r_istore_n (X : bkX E G own cc nL ret R) {i : Fin 4} {x : Int32} (hi : Nat.blt i.val L.length = true) (hc : bkc L i.val = true) (d : decode cc pc = .ok (.istore_n i, 1)) (kk : bkV E G Z k n M (pc + 1) (bks L i.val (.int x)) st) : bkV E G Z k n M pc L (.int x :: st) := fun H locs ls h1 h2 h3 h4 => lv_istore_n X.1 X.2.1 d rfl h4.has (Nat.blt_eq.mp hi) rfl (fun ls2 hl2 => kk H locs ls2 h1 h2 h3 (bkL.set (Nat.blt_eq.mp hi) hc hl2))
theorem r_astore (X : bkX E G own cc nL ret R) {i : Nat} {x : Nat} (hi : Nat.blt i L.length = true) (hc : bkc L i = true) (d : decode cc pc = .ok (.astore i, 2)) (kk : bkV E G Z k n M (pc + 2) (bks L i (.ref x)) st) : bkV E G Z k n M pc L (.ref x :: st) := fun H locs ls h1 h2 h3 h4 => lv_astore X.1 X.2.1 d h4.has (Nat.blt_eq.mp hi) rfl (fun ls2 hl2 => kk H locs ls2 h1 h2 h3 (bkL.set (Nat.blt_eq.mp hi) hc hl2))
theorem r_astore_n (X : bkX E G own cc nL ret R) {i : Fin 4} {x : Nat} (hi : Nat.blt i.val L.length = true) (hc : bkc L i.val = true) (d : decode cc pc = .ok (.astore_n i, 1)) (kk : bkV E G Z k n M (pc + 1) (bks L i.val (.ref x)) st) : bkV E G Z k n M pc L (.ref x :: st) := fun H locs ls h1 h2 h3 h4 => lv_astore_n X.1 X.2.1 d rfl h4.has (Nat.blt_eq.mp hi) rfl (fun ls2 hl2 => kk H locs ls2 h1 h2 h3 (bkL.set (Nat.blt_eq.mp hi) hc hl2))
theorem r_iinc (X : bkX E G own cc nL ret R) {i : Nat} {a : Int} {x v : Int32} (hl : bkl L i = some (.int x)) (hv : x + Int32.ofInt a = v) (hc : bkc L i = true) (d : decode cc pc = .ok (.iinc i a, 3)) (kk : bkV E G Z k n M (pc + 3) (bks L i (.int v)) st) : bkV E G Z k n M pc L st := fun H locs ls h1 h2 h3 h4 => by
  have hi := bkl_lt L i _ hl
  have hm := bkw_in L 0 i _ hl
  rw [Nat.zero_add] at hm
  obtain ⟨j, hj⟩ := List.getElem?_of_mem hm
  exact lv_iinc X.1 X.2.1 d h4.has hj hv hi rfl (fun ls2 hl2 => kk H locs ls2 h1 h2 h3 (bkL.set hi hc hl2))
theorem r_iadd (X : bkX E G own cc nL ret R) {x y : Int32} (d : decode cc pc = .ok (.iadd, 1)) (kk : bkV E G Z k n M (pc + 1) L (.int (x + y) :: st)) : bkV E G Z k n M pc L (.int y :: .int x :: st) := fun H locs ls h1 h2 h3 h4 => lv_iadd X.1 X.2.1 d (kk H locs ls h1 h2 h3 h4)
theorem r_isub (X : bkX E G own cc nL ret R) {x y : Int32} (d : decode cc pc = .ok (.isub, 1)) (kk : bkV E G Z k n M (pc + 1) L (.int (x - y) :: st)) : bkV E G Z k n M pc L (.int y :: .int x :: st) := fun H locs ls h1 h2 h3 h4 => lv_isub X.1 X.2.1 d (kk H locs ls h1 h2 h3 h4)
theorem r_imul (X : bkX E G own cc nL ret R) {x y : Int32} (d : decode cc pc = .ok (.imul, 1)) (kk : bkV E G Z k n M (pc + 1) L (.int (x * y) :: st)) : bkV E G Z k n M pc L (.int y :: .int x :: st) := fun H locs ls h1 h2 h3 h4 => lv_imul X.1 X.2.1 d (kk H locs ls h1 h2 h3 h4)
theorem r_iand (X : bkX E G own cc nL ret R) {x y : Int32} (d : decode cc pc = .ok (.iand, 1)) (kk : bkV E G Z k n M (pc + 1) L (.int (x &&& y) :: st)) : bkV E G Z k n M pc L (.int y :: .int x :: st) := fun H locs ls h1 h2 h3 h4 => lv_iand X.1 X.2.1 d (kk H locs ls h1 h2 h3 h4)
theorem r_ior (X : bkX E G own cc nL ret R) {x y : Int32} (d : decode cc pc = .ok (.ior, 1)) (kk : bkV E G Z k n M (pc + 1) L (.int (x ||| y) :: st)) : bkV E G Z k n M pc L (.int y :: .int x :: st) := fun H locs ls h1 h2 h3 h4 => lv_ior X.1 X.2.1 d (kk H locs ls h1 h2 h3 h4)
theorem r_ixor (X : bkX E G own cc nL ret R) {x y : Int32} (d : decode cc pc = .ok (.ixor, 1)) (kk : bkV E G Z k n M (pc + 1) L (.int (x ^^^ y) :: st)) : bkV E G Z k n M pc L (.int y :: .int x :: st) := fun H locs ls h1 h2 h3 h4 => lv_ixor X.1 X.2.1 d (kk H locs ls h1 h2 h3 h4)
theorem r_ishl (X : bkX E G own cc nL ret R) {x y : Int32} (d : decode cc pc = .ok (.ishl, 1)) (kk : bkV E G Z k n M (pc + 1) L (.int (x <<< (y &&& 31)) :: st)) : bkV E G Z k n M pc L (.int y :: .int x :: st) := fun H locs ls h1 h2 h3 h4 => lv_ishl X.1 X.2.1 d (kk H locs ls h1 h2 h3 h4)
theorem r_ishr (X : bkX E G own cc nL ret R) {x y : Int32} (d : decode cc pc = .ok (.ishr, 1)) (kk : bkV E G Z k n M (pc + 1) L (.int (x >>> (y &&& 31)) :: st)) : bkV E G Z k n M pc L (.int y :: .int x :: st) := fun H locs ls h1 h2 h3 h4 => lv_ishr X.1 X.2.1 d (kk H locs ls h1 h2 h3 h4)
theorem r_iushr (X : bkX E G own cc nL ret R) {x y : Int32} (d : decode cc pc = .ok (.iushr, 1)) (kk : bkV E G Z k n M (pc + 1) L (.int ((x.toUInt32 >>> (y.toUInt32 &&& Int32.toUInt32 31)).toInt32) :: st)) : bkV E G Z k n M pc L (.int y :: .int x :: st) := fun H locs ls h1 h2 h3 h4 => lv_iushr X.1 X.2.1 d rfl (kk H locs ls h1 h2 h3 h4)
theorem r_idiv (X : bkX E G own cc nL ret R) {x y : Int32} (hy : ¬ y = 0) (d : decode cc pc = .ok (.idiv, 1)) (kk : bkV E G Z k n M (pc + 1) L (.int (x / y) :: st)) : bkV E G Z k n M pc L (.int y :: .int x :: st) := fun H locs ls h1 h2 h3 h4 => lv_idiv X.1 X.2.1 d hy (kk H locs ls h1 h2 h3 h4)
theorem r_irem (X : bkX E G own cc nL ret R) {x y : Int32} (hy : ¬ y = 0) (d : decode cc pc = .ok (.irem, 1)) (kk : bkV E G Z k n M (pc + 1) L (.int (x - x / y * y) :: st)) : bkV E G Z k n M pc L (.int y :: .int x :: st) := fun H locs ls h1 h2 h3 h4 => lv_irem X.1 X.2.1 d hy (kk H locs ls h1 h2 h3 h4)
theorem r_ineg (X : bkX E G own cc nL ret R) {x : Int32} (d : decode cc pc = .ok (.ineg, 1)) (kk : bkV E G Z k n M (pc + 1) L (.int (-x) :: st)) : bkV E G Z k n M pc L (.int x :: st) := fun H locs ls h1 h2 h3 h4 => lv_ineg X.1 X.2.1 d (kk H locs ls h1 h2 h3 h4)
theorem r_i2c (X : bkX E G own cc nL ret R) {x : Int32} (d : decode cc pc = .ok (.i2c, 1)) (kk : bkV E G Z k n M (pc + 1) L (.int ((x.toUInt32 % 65536).toInt32) :: st)) : bkV E G Z k n M pc L (.int x :: st) := fun H locs ls h1 h2 h3 h4 => lv_i2c X.1 X.2.1 d rfl (kk H locs ls h1 h2 h3 h4)
theorem r_i2f (X : bkX E G own cc nL ret R) {x : Int32} (d : decode cc pc = .ok (.i2f, 1)) (kk : bkV E G Z k n M (pc + 1) L (.float (FP.i2f x) :: st)) : bkV E G Z k n M pc L (.int x :: st) := fun H locs ls h1 h2 h3 h4 => lv_i2f X.1 X.2.1 d (kk H locs ls h1 h2 h3 h4)
theorem r_fdiv (X : bkX E G own cc nL ret R) {x y : UInt32} (hn : vf_n32 (FP.fdiv x y)) (d : decode cc pc = .ok (.fdiv, 1)) (kk : bkV E G Z k n M (pc + 1) L (.float (FP.fdiv x y) :: st)) : bkV E G Z k n M pc L (.float y :: .float x :: st) := fun H locs ls h1 h2 h3 h4 => lv_fdiv X.1 X.2.1 d hn (kk H locs ls h1 h2 h3 h4)
theorem r_dup (X : bkX E G own cc nL ret R) {v : Value} (hv : v.category = 1) (d : decode cc pc = .ok (.dup, 1)) (kk : bkV E G Z k n M (pc + 1) L (v :: v :: st)) : bkV E G Z k n M pc L (v :: st) := fun H locs ls h1 h2 h3 h4 => lv_dup X.1 X.2.1 d hv (kk H locs ls h1 h2 h3 h4)
theorem r_pop (X : bkX E G own cc nL ret R) {v : Value} (hv : v.category = 1) (d : decode cc pc = .ok (.pop, 1)) (kk : bkV E G Z k n M (pc + 1) L st) : bkV E G Z k n M pc L (v :: st) := fun H locs ls h1 h2 h3 h4 => lv_pop X.1 X.2.1 d hv (kk H locs ls h1 h2 h3 h4)
theorem r_dup2 (X : bkX E G own cc nL ret R) {v u : Value} (hv : v.category = 1) (hu : u.category = 1) (d : decode cc pc = .ok (.dup2, 1)) (kk : bkV E G Z k n M (pc + 1) L (v :: u :: v :: u :: st)) : bkV E G Z k n M pc L (v :: u :: st) := fun H locs ls h1 h2 h3 h4 => lv_dup2_11 X.1 X.2.1 d hv hu (kk H locs ls h1 h2 h3 h4)
theorem r_dup_x1 (X : bkX E G own cc nL ret R) {v u : Value} (hv : v.category = 1) (hu : u.category = 1) (d : decode cc pc = .ok (.dup_x1, 1)) (kk : bkV E G Z k n M (pc + 1) L (v :: u :: v :: st)) : bkV E G Z k n M pc L (v :: u :: st) := fun H locs ls h1 h2 h3 h4 => lv_dup_x1 X.1 X.2.1 d hv hu (kk H locs ls h1 h2 h3 h4)
theorem r_if_eq (X : bkX E G own cc nL ret R) {x : Int32} {off : Int} (tgt : Nat) (ht : (pc : Int) + off = (tgt : Int)) (d : decode cc pc = .ok (.ifCond .eq off, 3)) (kt : x = 0 → bkV E G Z k n M tgt L st) (kf : ¬ x = 0 → bkV E G Z k n M (pc + 3) L st) : bkV E G Z k n M pc L (.int x :: st) := fun H locs ls h1 h2 h3 h4 => lv_if_eq X.1 X.2.1 d ht (fun q => kt q H locs ls h1 h2 h3 h4) (fun q => kf q H locs ls h1 h2 h3 h4)
theorem r_icmp_eq (X : bkX E G own cc nL ret R) {x y : Int32} {off : Int} (tgt : Nat) (ht : (pc : Int) + off = (tgt : Int)) (d : decode cc pc = .ok (.if_icmp .eq off, 3)) (kt : x = y → bkV E G Z k n M tgt L st) (kf : ¬ x = y → bkV E G Z k n M (pc + 3) L st) : bkV E G Z k n M pc L (.int y :: .int x :: st) := fun H locs ls h1 h2 h3 h4 => lv_icmp_eq X.1 X.2.1 d ht (fun q => kt q H locs ls h1 h2 h3 h4) (fun q => kf q H locs ls h1 h2 h3 h4)
theorem r_icmpN_eq (X : bkX E G own cc nL ret R) {x y : Int32} {off : Int} (tgt a b : Nat) (hx : x = nI a) (hy : y = nI b) (ha : a < 2 ^ 31) (hb : b < 2 ^ 31) (ht : (pc : Int) + off = (tgt : Int)) (d : decode cc pc = .ok (.if_icmp .eq off, 3)) (kt : a = b → bkV E G Z k n M tgt L st) (kf : a ≠ b → bkV E G Z k n M (pc + 3) L st) : bkV E G Z k n M pc L (.int y :: .int x :: st) := by
  subst hx
  subst hy
  exact r_icmp_eq X tgt ht d (fun q => kt ((nI_eq ha hb).mp q)) (fun q => kf (fun z => q ((nI_eq ha hb).mpr z)))
theorem r_if_ne (X : bkX E G own cc nL ret R) {x : Int32} {off : Int} (tgt : Nat) (ht : (pc : Int) + off = (tgt : Int)) (d : decode cc pc = .ok (.ifCond .ne off, 3)) (kt : ¬ x = 0 → bkV E G Z k n M tgt L st) (kf : x = 0 → bkV E G Z k n M (pc + 3) L st) : bkV E G Z k n M pc L (.int x :: st) := fun H locs ls h1 h2 h3 h4 => lv_if_ne X.1 X.2.1 d ht (fun q => kt q H locs ls h1 h2 h3 h4) (fun q => kf q H locs ls h1 h2 h3 h4)
theorem r_icmp_ne (X : bkX E G own cc nL ret R) {x y : Int32} {off : Int} (tgt : Nat) (ht : (pc : Int) + off = (tgt : Int)) (d : decode cc pc = .ok (.if_icmp .ne off, 3)) (kt : ¬ x = y → bkV E G Z k n M tgt L st) (kf : x = y → bkV E G Z k n M (pc + 3) L st) : bkV E G Z k n M pc L (.int y :: .int x :: st) := fun H locs ls h1 h2 h3 h4 => lv_icmp_ne X.1 X.2.1 d ht (fun q => kt q H locs ls h1 h2 h3 h4) (fun q => kf q H locs ls h1 h2 h3 h4)
theorem r_icmpN_ne (X : bkX E G own cc nL ret R) {x y : Int32} {off : Int} (tgt a b : Nat) (hx : x = nI a) (hy : y = nI b) (ha : a < 2 ^ 31) (hb : b < 2 ^ 31) (ht : (pc : Int) + off = (tgt : Int)) (d : decode cc pc = .ok (.if_icmp .ne off, 3)) (kt : a ≠ b → bkV E G Z k n M tgt L st) (kf : a = b → bkV E G Z k n M (pc + 3) L st) : bkV E G Z k n M pc L (.int y :: .int x :: st) := by
  subst hx
  subst hy
  exact r_icmp_ne X tgt ht d (fun q => kt (fun z => q ((nI_eq ha hb).mpr z))) (fun q => kf ((nI_eq ha hb).mp q))
theorem r_if_lt (X : bkX E G own cc nL ret R) {x : Int32} {off : Int} (tgt : Nat) (ht : (pc : Int) + off = (tgt : Int)) (d : decode cc pc = .ok (.ifCond .lt off, 3)) (kt : x < 0 → bkV E G Z k n M tgt L st) (kf : ¬ x < 0 → bkV E G Z k n M (pc + 3) L st) : bkV E G Z k n M pc L (.int x :: st) := fun H locs ls h1 h2 h3 h4 => lv_if_lt X.1 X.2.1 d ht (fun q => kt q H locs ls h1 h2 h3 h4) (fun q => kf q H locs ls h1 h2 h3 h4)
theorem r_icmp_lt (X : bkX E G own cc nL ret R) {x y : Int32} {off : Int} (tgt : Nat) (ht : (pc : Int) + off = (tgt : Int)) (d : decode cc pc = .ok (.if_icmp .lt off, 3)) (kt : x < y → bkV E G Z k n M tgt L st) (kf : ¬ x < y → bkV E G Z k n M (pc + 3) L st) : bkV E G Z k n M pc L (.int y :: .int x :: st) := fun H locs ls h1 h2 h3 h4 => lv_icmp_lt X.1 X.2.1 d ht (fun q => kt q H locs ls h1 h2 h3 h4) (fun q => kf q H locs ls h1 h2 h3 h4)
theorem r_icmpN_lt (X : bkX E G own cc nL ret R) {x y : Int32} {off : Int} (tgt a b : Nat) (hx : x = nI a) (hy : y = nI b) (ha : a < 2 ^ 31) (hb : b < 2 ^ 31) (ht : (pc : Int) + off = (tgt : Int)) (d : decode cc pc = .ok (.if_icmp .lt off, 3)) (kt : a < b → bkV E G Z k n M tgt L st) (kf : b ≤ a → bkV E G Z k n M (pc + 3) L st) : bkV E G Z k n M pc L (.int y :: .int x :: st) := by
  subst hx
  subst hy
  exact r_icmp_lt X tgt ht d (fun q => kt ((nI_ltI ha hb).mp q)) (fun q => kf (Nat.not_lt.mp fun z => q ((nI_ltI ha hb).mpr z)))
theorem r_if_ge (X : bkX E G own cc nL ret R) {x : Int32} {off : Int} (tgt : Nat) (ht : (pc : Int) + off = (tgt : Int)) (d : decode cc pc = .ok (.ifCond .ge off, 3)) (kt : 0 ≤ x → bkV E G Z k n M tgt L st) (kf : ¬ 0 ≤ x → bkV E G Z k n M (pc + 3) L st) : bkV E G Z k n M pc L (.int x :: st) := fun H locs ls h1 h2 h3 h4 => lv_if_ge X.1 X.2.1 d ht (fun q => kt q H locs ls h1 h2 h3 h4) (fun q => kf q H locs ls h1 h2 h3 h4)
theorem r_icmp_ge (X : bkX E G own cc nL ret R) {x y : Int32} {off : Int} (tgt : Nat) (ht : (pc : Int) + off = (tgt : Int)) (d : decode cc pc = .ok (.if_icmp .ge off, 3)) (kt : y ≤ x → bkV E G Z k n M tgt L st) (kf : ¬ y ≤ x → bkV E G Z k n M (pc + 3) L st) : bkV E G Z k n M pc L (.int y :: .int x :: st) := fun H locs ls h1 h2 h3 h4 => lv_icmp_ge X.1 X.2.1 d ht (fun q => kt q H locs ls h1 h2 h3 h4) (fun q => kf q H locs ls h1 h2 h3 h4)
theorem r_icmpN_ge (X : bkX E G own cc nL ret R) {x y : Int32} {off : Int} (tgt a b : Nat) (hx : x = nI a) (hy : y = nI b) (ha : a < 2 ^ 31) (hb : b < 2 ^ 31) (ht : (pc : Int) + off = (tgt : Int)) (d : decode cc pc = .ok (.if_icmp .ge off, 3)) (kt : b ≤ a → bkV E G Z k n M tgt L st) (kf : a < b → bkV E G Z k n M (pc + 3) L st) : bkV E G Z k n M pc L (.int y :: .int x :: st) := by
  subst hx
  subst hy
  exact r_icmp_ge X tgt ht d (fun q => kt ((nI_leI hb ha).mp q)) (fun q => kf (Nat.not_le.mp fun z => q ((nI_leI hb ha).mpr z)))
theorem r_if_gt (X : bkX E G own cc nL ret R) {x : Int32} {off : Int} (tgt : Nat) (ht : (pc : Int) + off = (tgt : Int)) (d : decode cc pc = .ok (.ifCond .gt off, 3)) (kt : 0 < x → bkV E G Z k n M tgt L st) (kf : ¬ 0 < x → bkV E G Z k n M (pc + 3) L st) : bkV E G Z k n M pc L (.int x :: st) := fun H locs ls h1 h2 h3 h4 => lv_if_gt X.1 X.2.1 d ht (fun q => kt q H locs ls h1 h2 h3 h4) (fun q => kf q H locs ls h1 h2 h3 h4)
theorem r_icmp_gt (X : bkX E G own cc nL ret R) {x y : Int32} {off : Int} (tgt : Nat) (ht : (pc : Int) + off = (tgt : Int)) (d : decode cc pc = .ok (.if_icmp .gt off, 3)) (kt : y < x → bkV E G Z k n M tgt L st) (kf : ¬ y < x → bkV E G Z k n M (pc + 3) L st) : bkV E G Z k n M pc L (.int y :: .int x :: st) := fun H locs ls h1 h2 h3 h4 => lv_icmp_gt X.1 X.2.1 d ht (fun q => kt q H locs ls h1 h2 h3 h4) (fun q => kf q H locs ls h1 h2 h3 h4)
theorem r_icmpN_gt (X : bkX E G own cc nL ret R) {x y : Int32} {off : Int} (tgt a b : Nat) (hx : x = nI a) (hy : y = nI b) (ha : a < 2 ^ 31) (hb : b < 2 ^ 31) (ht : (pc : Int) + off = (tgt : Int)) (d : decode cc pc = .ok (.if_icmp .gt off, 3)) (kt : b < a → bkV E G Z k n M tgt L st) (kf : a ≤ b → bkV E G Z k n M (pc + 3) L st) : bkV E G Z k n M pc L (.int y :: .int x :: st) := by
  subst hx
  subst hy
  exact r_icmp_gt X tgt ht d (fun q => kt ((nI_ltI hb ha).mp q)) (fun q => kf (Nat.not_lt.mp fun z => q ((nI_ltI hb ha).mpr z)))
theorem r_if_le (X : bkX E G own cc nL ret R) {x : Int32} {off : Int} (tgt : Nat) (ht : (pc : Int) + off = (tgt : Int)) (d : decode cc pc = .ok (.ifCond .le off, 3)) (kt : x ≤ 0 → bkV E G Z k n M tgt L st) (kf : ¬ x ≤ 0 → bkV E G Z k n M (pc + 3) L st) : bkV E G Z k n M pc L (.int x :: st) := fun H locs ls h1 h2 h3 h4 => lv_if_le X.1 X.2.1 d ht (fun q => kt q H locs ls h1 h2 h3 h4) (fun q => kf q H locs ls h1 h2 h3 h4)
theorem r_icmp_le (X : bkX E G own cc nL ret R) {x y : Int32} {off : Int} (tgt : Nat) (ht : (pc : Int) + off = (tgt : Int)) (d : decode cc pc = .ok (.if_icmp .le off, 3)) (kt : x ≤ y → bkV E G Z k n M tgt L st) (kf : ¬ x ≤ y → bkV E G Z k n M (pc + 3) L st) : bkV E G Z k n M pc L (.int y :: .int x :: st) := fun H locs ls h1 h2 h3 h4 => lv_icmp_le X.1 X.2.1 d ht (fun q => kt q H locs ls h1 h2 h3 h4) (fun q => kf q H locs ls h1 h2 h3 h4)
theorem r_icmpN_le (X : bkX E G own cc nL ret R) {x y : Int32} {off : Int} (tgt a b : Nat) (hx : x = nI a) (hy : y = nI b) (ha : a < 2 ^ 31) (hb : b < 2 ^ 31) (ht : (pc : Int) + off = (tgt : Int)) (d : decode cc pc = .ok (.if_icmp .le off, 3)) (kt : a ≤ b → bkV E G Z k n M tgt L st) (kf : b < a → bkV E G Z k n M (pc + 3) L st) : bkV E G Z k n M pc L (.int y :: .int x :: st) := by
  subst hx
  subst hy
  exact r_icmp_le X tgt ht d (fun q => kt ((nI_leI ha hb).mp q)) (fun q => kf (Nat.not_le.mp fun z => q ((nI_leI ha hb).mpr z)))
theorem r_goto (X : bkX E G own cc nL ret R) {off : Int} (tgt : Nat) (ht : (pc : Int) + off = (tgt : Int)) (d : decode cc pc = .ok (.goto off, 3)) (kk : bkV E G Z k n M tgt L st) : bkV E G Z k n M pc L st := fun H locs ls h1 h2 h3 h4 => lv_goto X.1 X.2.1 d ht (kk H locs ls h1 h2 h3 h4)
theorem r_tableIn (X : bkX E G own cc nL ret R) {dflt lo hi : Int} {offs : Array Int} {len : Nat} {x : Int32} {off : Int} (tgt : Nat) (h1 : ¬ x.toInt < lo) (h2 : ¬ hi < x.toInt) (ho : offs[(x.toInt - lo).toNat]? = some off) (ht : (pc : Int) + off = (tgt : Int)) (d : decode cc pc = .ok (.tableswitch dflt lo hi offs, len)) (kk : bkV E G Z k n M tgt L st) : bkV E G Z k n M pc L (.int x :: st) := fun H locs ls g1 g2 g3 g4 => lv_tableIn X.1 X.2.1 d h1 h2 ho ht (kk H locs ls g1 g2 g3 g4)
theorem r_tableOut (X : bkX E G own cc nL ret R) {dflt lo hi : Int} {offs : Array Int} {len : Nat} {x : Int32} (tgt : Nat) (h : x.toInt < lo ∨ hi < x.toInt) (ht : (pc : Int) + dflt = (tgt : Int)) (d : decode cc pc = .ok (.tableswitch dflt lo hi offs, len)) (kk : bkV E G Z k n M tgt L st) : bkV E G Z k n M pc L (.int x :: st) := fun H locs ls g1 g2 g3 g4 => lv_tableOut X.1 X.2.1 d h ht (kk H locs ls g1 g2 g3 g4)
theorem r_lookup (X : bkX E G own cc nL ret R) {dflt : Int} {ps : Array (Int × Int)} {len : Nat} {x : Int32} {off : Int} (tgt : Nat) (hp : (ps.toList.zip (ps.toList.drop 1)).all (fun (a, next) => a.1 < next.1) = true) (ho : Op.lookupswitch.offset ps.toList dflt x.toInt = off) (ht : (pc : Int) + off = (tgt : Int)) (d : decode cc pc = .ok (.lookupswitch dflt ps, len)) (kk : bkV E G Z k n M tgt L st) : bkV E G Z k n M pc L (.int x :: st) := fun H locs ls g1 g2 g3 g4 => lv_lookup X.1 X.2.1 d hp ho ht (kk H locs ls g1 g2 g3 g4)

/-! the heap -/
theorem bkP.one {a : Nat} {ev : va_E} {H : Heap} (h : bkP G M H) (hm : M a = some ev) : va_P G.1 vwCl [(a, ev)] H := by
  intro j q hj
  cases j with
  | zero => cases hj; exact (h.1 a ev hm).1
  | succ j => cases hj
theorem bkP.lt {a : Nat} {ev : va_E} {H : Heap} (h : bkP G M H) (hm : M a = some ev) : a < H.size := (h.1 a ev hm).1.lt
theorem bkP.inA {a : Nat} {ev : va_E} {H : Heap} (h : bkP G M H) (hm : M a = some ev) : bkA G a := (h.1 a ev hm).2
theorem bkP.put {a : Nat} {e0 e1 : va_E} {H H1 : Heap} (h : bkP G M H) (hm : M a = some e0) (he : va_at G.1 vwCl (a, e1) H1) (z : H1.size = H.size) (oq : ∀ q : Nat, q ≠ a → H1[q]? = H[q]?) : bkP G (bku M a e1) H1 := by
  refine ⟨fun b ev hb => ?_, by rw [z]; exact h.2⟩
  by_cases e : b = a
  · subst e
    rw [bku_at] at hb
    cases hb
    exact ⟨he, h.inA hm⟩
  · rw [bku_ne e] at hb
    exact ⟨(h.1 b ev hb).1.kept (oq b e), (h.1 b ev hb).2⟩
theorem bkP.add {a : Nat} {e1 : va_E} {H H1 : Heap} (h : bkP G M H) (ha : H.size = a) (he : va_at G.1 vwCl (a, e1) H1) (z : H1.size = a + 1) (oq : ∀ q : Nat, q < a → H1[q]? = H[q]?) : bkP G (bku M a e1) H1 := by
  refine ⟨fun b ev hb => ?_, by rw [z, ← ha]; exact Nat.le_succ_of_le h.2⟩
  by_cases e : b = a
  · subst e
    rw [bku_at] at hb
    cases hb
    exact ⟨he, by rw [← ha]; exact h.2⟩
  · rw [bku_ne e] at hb
    exact ⟨(h.1 b ev hb).1.kept (oq b (by rw [← ha]; exact h.lt hb)), (h.1 b ev hb).2⟩
theorem bkS_grow {H0 H H1 : Heap} {locs : List Loc} {a : Nat} (h : va_S (bkA G) H0 H locs) (ha : H.size = a) (z : H1.size = a + 1) (oq : ∀ q : Nat, q < a → H1[q]? = H[q]?) : va_S (bkA G) H0 H1 locs :=
  ⟨by rw [z, ← ha]; exact Nat.le_succ_of_le h.1, fun q h1 h2 => (oq q (by rw [← ha]; exact Nat.lt_of_lt_of_le h1 h.1)).trans (h.2.1 q h1 h2), h.2.2⟩
/-- the same cells, told otherwise -/
theorem bkV.ext {M2 : bkM} (h : ∀ a, M2 a = M a) (kk : bkV E G Z k n M2 pc L st) : bkV E G Z k n M pc L st := by
  have e : M2 = M := funext h
  rw [← e]
  exact kk
theorem bkV.sub {M2 : bkM} (h : ∀ a ev, M2 a = some ev → M a = some ev) (kk : bkV E G Z k n M2 pc L st) : bkV E G Z k n M pc L st :=
  fun H locs ls h1 h2 h3 h4 => kk H locs ls ⟨fun a ev hm => h1.1 a ev (h a ev hm), h1.2⟩ h2 h3 h4
theorem bkV.widen {k2 n2 : Nat} (h1 : k ≤ k2) (h2 : n ≤ n2) (kk : bkV E G Z k2 n2 M pc L st) : bkV E G Z k n M pc L st :=
  fun H locs ls g1 g2 g3 g4 => W.widen h1 h2 (kk H locs ls g1 g2 g3 g4)
abbrev aI (G : bkG) (N : Nat) (f : Nat → Int32) : va_E := .inl (G.2.1 0, N, .inl f)
abbrev aC (G : bkG) (N : Nat) (f : Nat → Int32) : va_E := .inl (G.2.1 1, N, .inl f)
abbrev aQ (G : bkG) (t N : Nat) (f : Nat → Option Nat) : va_E := .inl (G.2.1 t, N, .inr (.inr (.inr (.inr f))))
/-- an array's cells beyond its end don't count -/
theorem bk_arrV {cA : ClassId} {N : Nat} {f g : Nat → Value} (h : ∀ j, j < N → f j = g j) : arrV cA N f = arrV cA N g := by
  unfold arrV
  congr 1
  apply Array.ext
  · simp
  · intro i h1 h2
    simp at h1 ⊢
    exact h i h1
theorem bkV.extI {a N : Nat} {cA : ClassId} {f g : Nat → Int32} (hm : M a = some (.inl (cA, N, .inl f))) (h : ∀ j, j < N → f j = g j) (kk : bkV E G Z k n (bku M a (.inl (cA, N, .inl g))) pc L st) : bkV E G Z k n M pc L st := by
  intro H locs ls h1 h2 h3 h4
  refine kk H locs ls (h1.put hm ?_ rfl (fun _ _ => rfl)) h2 h3 h4
  have := (h1.1 a _ hm).1
  show H[a]? = some (vp_cell cA (N, .inl g))
  have e : vp_cell cA (N, .inl g) = vp_cell cA (N, .inl f) := by
    rw [vp_cell_i, vp_cell_i]
    exact bk_arrV fun j hj => by rw [h j hj]
  rw [e]
  exact this

theorem r_get (X : bkX E G own cc nL ret R) {a : Nat} {ci : Nat} {fs : List Value} (hm : M a = some (.inr (ci, fs))) {C : String} {T : u_T} {N : Nat} (hc : vwCl[ci]? = some (C, T, N)) (hin : ∀ w ∈ u_ws C T N, w ∈ bkTB) (f : Nat) (hf : f < N) {idx : Nat} (hl : Cond.fieldLink own idx (T f).1 (T f).2.1 (T f).2.2.1 ∈ bkTB) {v : Value} (hv : fs[f]? = some v) (d : decode cc pc = .ok (.getfield idx, 3)) (kk : bkV E G Z k n M (pc + 3) L (v :: st)) : bkV E G Z k n M pc L (.ref a :: st) := fun H locs ls h1 h2 h3 h4 =>
  va_get (D := G.1) (cl := vwCl) (ws := [(a, .inr (ci, fs))]) X.1 X.2.1 X.2.2.2.2.1 hin X.2.2.2.1 X.2.2.2.2.2.1.1 (h1.one hm) 0 rfl hc f hf (X.2.2.2.2.1 _ hl) (fun _ h9 => h9) hv d (kk H locs ls h1 h2 h3 h4)
theorem r_put (X : bkX E G own cc nL ret R) {a : Nat} {ci : Nat} {fs : List Value} (hm : M a = some (.inr (ci, fs))) {C : String} {T : u_T} {N : Nat} (hc : vwCl[ci]? = some (C, T, N)) (hin : ∀ w ∈ u_ws C T N, w ∈ bkTB) (ty0 : Nat → FieldType) (hty : ∀ k, k < N → parseFieldDescriptor (T k).2.2.1 = some (ty0 k)) (hnm : ∀ a, a < N → ∀ b, b < N → a ≠ b → (T a).2.1 ≠ (T b).2.1) (f : Nat) (hf : f < N) {idx : Nat} (hl : Cond.fieldLink own idx (T f).1 (T f).2.1 (T f).2.2.1 ∈ bkTB) (hfin : (T f).2.2.2 = false ∨ ((T f).2.2.2 = true ∧ (eT E).name = "<init>" ∧ (T f).1 = own)) {v : Value} (hn : narrow (ty0 f) v = v) (hfit : fits (ty0 f) v = true) (hlen : f < fs.length) (d : decode cc pc = .ok (.putfield idx, 3)) (kk : bkV E G Z k n (bku M a (.inr (ci, fs.set f v))) (pc + 3) L st) : bkV E G Z k n M pc L (v :: .ref a :: st) := by
  intro H locs ls h1 h2 h3 h4
  have hts := X.2.2.2.2.1
  have hown := X.2.2.2.1
  have hK := X.2.2.2.2.2.1.1
  have hap := va_apart (own := own) hts hin ty0 hty hnm hK hc
  obtain ⟨r, g1, cell, q1, q2, q3, q4⟩ := (h1.1 a _ hm).1
  have hr : r = (C, T, N) := Option.some.inj (g1.symm.trans hc)
  subst hr
  obtain ⟨hS, hfc, kC, hkC, hkind⟩ := hK.1 ci _ hc
  obtain ⟨cf, kf, fi, f0, hi, hsl⟩ := hS f hf
  have hst := (u_facts hfc hkC (u_lays hts hin hf) hi).1
  have hd := hty f hf
  have done : ∀ H' : Heap, H'[a]? = some (cell.setSlot f0.slot v) → H'.size = H.size → (∀ q, q ≠ a → H'[q]? = H[q]?) → bkW E H' (locs ++ [⟨a, f0.slot⟩]) k n (F0 (eM E) (pc + 3) ls st) := by
    intro H' e1 e2 e3
    rw [hsl] at e1
    refine kk H' _ ls (h1.put hm ⟨_, hc, t_OB.to (V := updV (vp_V fs) f v) ⟨_, e1, q2, q3, t_set q4 hap hf v⟩ (fun j _ => vp_updV_set hlen v j)⟩ e2 e3) (by rw [e2]; exact h2) (h3.put e2 e3 (h1.inA hm)) h4
  have hslot : f0.slot < cell.slots.size := by rw [hsl]; exact k2_hasslot (q4 f hf)
  rcases hfin with hfin | ⟨hfin, hin2, hdecl⟩
  · have hlay := hts _ (hin _ (u_in_lay hf))
    unfold u_lay at hlay
    rw [if_neg (by rw [hfin]; decide)] at hlay
    have h6 := u_store hfc hkC hkind hlay hi hd hn hfit
    exact W.putK X.1 X.2.1 (f := f0) ⟨hown, hts _ hl, ⟨_, _, _, hi⟩, hst⟩ (by rw [q2]; exact h6) q1 q3 hslot rfl rfl d done
  · have hlay := hts _ (hin _ (u_in_lay hf))
    unfold u_lay at hlay
    rw [if_pos hfin] at hlay
    have hcf : (eM E).cls = cf := by
      obtain ⟨_, _, c', _, _, _, -, -, hf', -, -, -, hown2, -⟩ := Cond.laysFinal_spec hlay
      have e1 : c' = cf := by have := hi.symm.trans hf'; simp at this; exact this.1.symm
      rw [hdecl] at hown2
      rw [← e1]; exact Option.some.inj (hown.symm.trans hown2)
    have h6 := u_fits hfc hkC hkind (Or.inr hlay) hi hd hn hfit
    exact W.putFinK X.1 X.2.1 hown (hts _ hl) hi hst hcf hin2 (by rw [q2]; exact h6) q1 q3 hslot rfl rfl d done
theorem bkX.ty {t : Nat} (X : bkX E G own cc nL ret R) {q : ClassId × FieldType} (ht : (bkT G)[t]? = some q) : ArrOfT (eS E) q.1 q.2 ∧ va_RA (eS E) q.1 q.2 := X.2.2.2.2.2.1.1.2 t q ht
theorem r_iald (X : bkX E G own cc nL ret R) {a N : Nat} {f : Nat → Int32} (hm : M a = some (aI G N f)) {i : Int32} (j : Nat) (hi : i = nI j) (hj : j < N) (hN : N < 2 ^ 31) (d : decode cc pc = .ok (.iaload, 1)) (kk : bkV E G Z k n M (pc + 1) L (.int (f j) :: st)) : bkV E G Z k n M pc L (.int i :: .ref a :: st) := by
  subst hi
  intro H locs ls h1 h2 h3 h4
  refine va_iald (D := G.1) (cl := vwCl) (tys := bkT G) X.1 X.2.1 X.2.2.2.2.2.1.1 (h1.one hm) 0 0 rfl rfl (vp_in_nI hj hN) d ?_
  rw [nI_clamp (Nat.lt_trans hj hN)]
  exact (kk H locs ls h1 h2 h3 h4)
theorem r_cald (X : bkX E G own cc nL ret R) {a N : Nat} {f : Nat → Int32} (hm : M a = some (aC G N f)) {i : Int32} (j : Nat) (hi : i = nI j) (hj : j < N) (hN : N < 2 ^ 31) (d : decode cc pc = .ok (.caload, 1)) (kk : bkV E G Z k n M (pc + 1) L (.int (f j) :: st)) : bkV E G Z k n M pc L (.int i :: .ref a :: st) := by
  subst hi
  intro H locs ls h1 h2 h3 h4
  refine va_cald (D := G.1) (cl := vwCl) (tys := bkT G) X.1 X.2.1 X.2.2.2.2.2.1.1 (h1.one hm) 0 1 rfl rfl (vp_in_nI hj hN) d ?_
  rw [nI_clamp (Nat.lt_trans hj hN)]
  exact (kk H locs ls h1 h2 h3 h4)
theorem r_aald (X : bkX E G own cc nL ret R) {a N t b : Nat} {ty : FieldType} {f : Nat → Option Nat} (hm : M a = some (aQ G t N f)) (ht : (bkT G)[t]? = some (G.2.1 t, ty)) (hr : ty.isReference = true) {i : Int32} (j : Nat) (hi : i = nI j) (hj : j < N) (hN : N < 2 ^ 31) (hb : f j = some b) (d : decode cc pc = .ok (.aaload, 1)) (kk : bkV E G Z k n M (pc + 1) L (.ref b :: st)) : bkV E G Z k n M pc L (.int i :: .ref a :: st) := by
  subst hi
  intro H locs ls h1 h2 h3 h4
  have hin := vp_in_nI hj hN
  refine W.aald (v := va_rf (f j)) (ty := ty) X.1 X.2.1 (h1.1 a _ hm).1 ((X.ty ht).1 N (fun j => va_rf (f j))) hr (fun q => by cases q) (by show ¬ (_ ∨ (arrV _ _ _).slots.size ≤ _); rw [arrV_size]; exact hin) (by rw [nI_clamp (Nat.lt_trans hj hN)]; show (arrV _ _ _).slots[_]? = _; rw [arrV_read _ _ hj]) rfl rfl d ?_
  rw [hb]
  exact (kk H locs ls h1 h2 h3 h4)
theorem r_alen (X : bkX E G own cc nL ret R) {a N t : Nat} {cA : ClassId} {x : (Nat → Int32) ⊕ (Nat → Int64) ⊕ (Nat → UInt32) ⊕ (Nat → UInt64) ⊕ (Nat → Option Nat)} {ty : FieldType} (hm : M a = some (.inl (cA, N, x))) (t : Nat) (ht : (bkT G)[t]? = some (cA, ty)) (d : decode cc pc = .ok (.arraylength, 1)) (kk : bkV E G Z k n M (pc + 1) L (.int (nI N) :: st)) : bkV E G Z k n M pc L (.ref a :: st) := fun H locs ls h1 h2 h3 h4 =>
  va_alen (D := G.1) (cl := vwCl) (tys := bkT G) X.1 X.2.1 X.2.2.2.2.2.1.1 (h1.one hm) 0 t rfl ht rfl d (kk H locs ls h1 h2 h3 h4)
theorem r_iast (X : bkX E G own cc nL ret R) {a N : Nat} {f : Nat → Int32} (hm : M a = some (aI G N f)) {i x : Int32} (j : Nat) (hi : i = nI j) (hj : j < N) (hN : N < 2 ^ 31) (d : decode cc pc = .ok (.iastore, 1)) (kk : bkV E G Z k n (bku M a (aI G N (upd f j x))) (pc + 1) L st) : bkV E G Z k n M pc L (.int x :: .int i :: .ref a :: st) := by
  subst hi
  intro H locs ls h1 h2 h3 h4
  refine W.iast X.1 X.2.1 (h1.1 a _ hm).1 ((X.ty (t := 0) rfl).1 N (fun j => .int (f j))) (fun q => by cases q) (by show ¬ (_ ∨ (arrV _ _ _).slots.size ≤ _); rw [arrV_size]; exact vp_in_nI hj hN) rfl rfl d fun H1 e z oq => ?_
  refine kk H1 _ ls (h1.put hm ?_ z oq) (by rw [z]; exact h2) (h3.put z oq (h1.inA hm)) h4
  show H1[a]? = some (vp_cell _ _)
  rw [e, vp_cell_i, vp_cell_i, arrV_store, nI_clamp (Nat.lt_trans hj hN)]
  congr 2
  funext q
  by_cases hq : q = j
  · subst hq
    simp [updV, upd]
  · simp [updV, upd, hq]
theorem r_cast (X : bkX E G own cc nL ret R) {a N : Nat} {f : Nat → Int32} (hm : M a = some (aC G N f)) {i x : Int32} (j : Nat) (hi : i = nI j) (hj : j < N) (hN : N < 2 ^ 31) (d : decode cc pc = .ok (.castore, 1)) (kk : bkV E G Z k n (bku M a (aC G N (upd f j (vp_nar .char x)))) (pc + 1) L st) : bkV E G Z k n M pc L (.int x :: .int i :: .ref a :: st) := by
  subst hi
  intro H locs ls h1 h2 h3 h4
  refine W.cast X.1 X.2.1 (h1.1 a _ hm).1 ((X.ty (t := 1) rfl).1 N (fun j => .int (f j))) (fun q => by cases q) (by show ¬ (_ ∨ (arrV _ _ _).slots.size ≤ _); rw [arrV_size]; exact vp_in_nI hj hN) rfl rfl d fun H1 e z oq => ?_
  refine kk H1 _ ls (h1.put hm ?_ z oq) (by rw [z]; exact h2) (h3.put z oq (h1.inA hm)) h4
  show H1[a]? = some (vp_cell _ _)
  rw [e, vp_cell_i, vp_cell_i, arrV_store, nI_clamp (Nat.lt_trans hj hN)]
  congr 2
  funext q
  by_cases hq : q = j
  · subst hq
    simp [updV, upd, vp_nar]
    try rfl
  · simp [updV, upd, hq]
theorem r_aast (X : bkX E G own cc nL ret R) {a N v t ci : Nat} {C : String} {T : u_T} {nf : Nat} {vs : List Value} {f : Nat → Option Nat} (hm : M a = some (aQ G t N f)) (ht : (bkT G)[t]? = some (G.2.1 t, .object C)) (hmv : M v = some (.inr (ci, vs))) (hc : vwCl[ci]? = some (C, T, nf)) {i : Int32} (j : Nat) (hi : i = nI j) (hj : j < N) (hN : N < 2 ^ 31) (d : decode cc pc = .ok (.aastore, 1)) (kk : bkV E G Z k n (bku M a (aQ G t N (va_up f j (some v)))) (pc + 1) L st) : bkV E G Z k n M pc L (.ref v :: .int i :: .ref a :: st) := by
  subst hi
  intro H locs ls h1 h2 h3 h4
  have hcl := nI_clamp (Nat.lt_trans hj hN)
  have h0 : ¬ nI j < 0 := nI_pos (Nat.lt_trans hj hN)
  obtain ⟨r', hr', cellV, g1, g2, g3, -⟩ := (h1.1 v _ hmv).1
  have hcls := (X.2.2.2.2.2.1.1.1 ci _ hc).2
  obtain ⟨kA, comp, k1, k2, k3, -⟩ := (X.ty ht).2
  have hcomp : comp = G.1.1 ci := Option.some.inj (k3.symm.trans hcls.1)
  subst hcomp
  obtain ⟨kC, hkC, -⟩ := hcls.2
  refine W.aast X.1 X.2.1 (h1.1 a _ hm).1 (fun q h => by cases h) (fun h => by cases h) k1 k2 rfl hkC ⟨h0, by rw [hcl]; show _ < (arrV _ _ _).slots.size; rw [arrV_size]; exact hj⟩ g1 (fun q h => by rw [g3] at h; cases h) (by rw [g2]; exact hkC) (by rw [g2]; exact va_assign hcls) rfl rfl d fun H1 e z oq => ?_
  refine kk H1 _ ls (h1.put hm ?_ z oq) (by rw [z]; exact h2) (h3.put z oq (h1.inA hm)) h4
  show H1[a]? = some (vp_cell _ _)
  rw [e, vp_cell_q, vp_cell_q, arrV_store, hcl]
  congr 2
  funext q
  by_cases hq : q = j
  · subst hq
    simp [updV, va_up, va_rf]
  · simp [updV, va_up, hq]

end BKR
