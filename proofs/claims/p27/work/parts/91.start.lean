/-! the start of the law: classes, classes of arrays, static arrays, as the judgement wants them -/
theorem st_of {A : Array Value} {s : State} {n : String} {f : Nat → Int32} {c0 c1 c2 c3 : Int32} (harr : (Cond.arrayOf (.static RX8 n "[I") .int).before A s = true) (hlen : (Cond.eq (.length (.static RX8 n "[I")) (.int 4)).before A s = true) (h0 : (Cond.eq (.elem (.static RX8 n "[I") (.int 0)) (.int c0)).before A s = true) (h1 : (Cond.eq (.elem (.static RX8 n "[I") (.int 1)) (.int c1)).before A s = true) (h2 : (Cond.eq (.elem (.static RX8 n "[I") (.int 2)) (.int c2)).before A s = true) (h3 : (Cond.eq (.elem (.static RX8 n "[I") (.int 3)) (.int c3)).before A s = true) (e0 : c0 = f 0) (e1 : c1 = f 1) (e2 : c2 = f 2) (e3 : c3 = f 3) (hl : (Cond.laysStatic RX8 n "[I").before A s = true) (hini : (Cond.initialized RX8).before A s = true) : ∃ t : Nat, va_Z RX8 n "[I" (.ref t) (fun q => s.heap.size ≤ q) s s.heap ∧ va_T .int t 4 (fun j => .int (f j)) (fun q => s.heap.size ≤ q) s s.heap := by
  subst e0
  subst e1
  subst e2
  subst e3
  have hA : ∀ a : Nat, a < s.heap.size → ¬ (fun q => s.heap.size ≤ q) a := fun a h => Nat.not_le.mpr h
  obtain ⟨t, ht, hT⟩ := va_Tof (tm := .static RX8 n "[I") (ty := .int) (N := 4) (f := fun j => .int (f j)) (A := fun q => s.heap.size ≤ q) (by decide) harr (va_eqt hlen) (fun j hj => match j, hj with
    | 0, _ => va_eqt h0
    | 1, _ => va_eqt h1
    | 2, _ => va_eqt h2
    | 3, _ => va_eqt h3
    | k + 4, h => absurd h (by omega)) hA
  exact ⟨t, va_Zof hl hini ht hA, hT⟩
theorem ar_o {s : State} {C : String} {k : Class} {comp cA : ClassId} (h1 : s.vm.findClass C = some comp) (h3 : s.vm.classes[cA]? = some k) (h4 : k.kind = .array comp (.object C)) (h5 : s.vm.findClass ("[" ++ (FieldType.object C).toString) = some cA) : ArrOfT s cA (.object C) ∧ va_RA s cA (.object C) := ⟨fun N z => ⟨(fun k h => by cases h), k, h3, comp, h4⟩, k, comp, h3, h4, h1, h5⟩
