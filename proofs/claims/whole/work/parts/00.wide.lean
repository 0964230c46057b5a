-- the rest of the library is wanted from the first part on (rules of part 24), so that a round goes over the whole of it at once
theorem wd_all : True := by
  have _h := @Jvm.Stand.multianewarray2F
  trivial
