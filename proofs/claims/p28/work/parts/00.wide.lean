theorem zz_wide : True := by
  have := @Jvm.Stand.multianewarray2F
  trivial
