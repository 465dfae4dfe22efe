theorem wd_t : True := by
  have _h := @Jvm.Free.Multi.innerC
  trivial
