/-! names a row of the wide library, so that all parts are compiled over it from the start -/
theorem w_wide : True := by
  have := @Cond.arrayOver_specA
  trivial
