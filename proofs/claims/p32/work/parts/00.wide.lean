/-! a name of the rest of the library, at once: the rounds are read over the whole of it from the first part on -/
theorem q_wide : True := by
  have _ := @Jvm.Free.JP.mathPlain
  trivial
