/-- over the whole library from the first part on -/
theorem zz_wide : True := by
  have := @Jvm.Example.RecCall.texts
  trivial
