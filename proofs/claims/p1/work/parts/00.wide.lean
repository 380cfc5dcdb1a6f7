theorem zz_w : True := by
  have _h := @Jvm.Stand.thenCaughtThrough
  trivial
