/-- names the whole library, so that a round goes over to it with the first part and not with 15z -/
theorem wide_0 (c : ClassId) (N h0 : Nat) : (Jvm.Free.Multi.outerC c N h0 0).cls = c := (Jvm.Free.Multi.outerC_facts c N h0 0).1
