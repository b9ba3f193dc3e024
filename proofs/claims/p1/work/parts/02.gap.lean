/-! WHY p1 CAN'T BE PROVED AS PRINTED: 'an array of int' says nothing of the class that a row of rows asks of what is stored into it. -/
/-- two classes of rows of int whose components differ, the second's a primitive class: what is of the first doesn't go into a row of rows whose component is the second -/
theorem gap_assign {vm : Vm} {a t : ClassId} {ka kt : Class} {ca ct : ClassId} (h1 : vm.classes[a]? = some ka) (h2 : ka.kind = .array ca .int) (h3 : vm.classes[t]? = some kt) (h4 : kt.kind = .array ct .int) (hat : a ≠ t) (hc : ca ≠ ct) (hp : vm.isPrimitive ct = true) : vm.assignable a t = false := by
  unfold Vm.assignable Vm.assignableAux
  simp [h1, h3, h2, h4, hat, hc, hp]
/-- what the Statement says of NO_SHEET (an array of int; its length; that it is another cell than the script) is blind to its class: it holds of the one cell where it holds of the other -/
theorem gap_blind {s u : State} {args : Array Value} {w : Term} {b : Addr} {c d : Cell} {k : Class} {comp : ClassId} (hs : w.eval args u none [] u = some (.ref b)) (hd : u.heap[b]? = some d) (hk : u.vm.classes[d.cls]? = some k) (hkind : k.kind = .array comp .int) (hv : d.vm.isStatics = false) (hu : d.vm ≠ .unknown) : (Cond.arrayOf w .int).before args u = true := by
  simp [Cond.before, Cond.holds, Cond.value, State.knowsType, hs, hd, hk, hkind, hv, hu]
