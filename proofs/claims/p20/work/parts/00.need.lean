/-! a name of the library's rest -/
theorem lw_need : True := by
  have h := @Jvm.Free.Multi.fill_facts
  trivial
