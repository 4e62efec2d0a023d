/-- Names the two laws of the library that the printed text on exceptions (part 80) calls and that only the whole library has: so the first round on a new machine is read over the whole one from its first part on. -/
theorem u_far : True := by
  have _h1 := @Jvm.Stand.outThrough
  have _h2 := @Jvm.Stand.thenCaughtThrough
  trivial
