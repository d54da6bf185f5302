/-! the library's law of 'multianewarray' is used (part 86): the round is read over the whole library -/
theorem xw_wide : True := by
  have := @Jvm.Stand.multianewarray2F
  trivial
