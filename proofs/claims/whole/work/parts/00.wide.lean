/-! what a row of new rows leaves behind (a name of the library's rest: it sends the rounds through the whole of it) -/
theorem mu_size (s : State) (c comp : ClassId) (N M : Nat) (dv : Value) : (Jvm.Free.Multi.fill s c comp N M dv N).heap.size = s.heap.size + 1 + N := (Jvm.Free.Multi.fill_facts s c comp N M dv N).1
