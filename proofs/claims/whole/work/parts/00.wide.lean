/-! a name of the whole library: so every part is read over it, once -/
theorem zw_wide : True := by
  have _h := @Jvm.Free.Multi.outerC
  trivial
