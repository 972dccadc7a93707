/-- a guard while the rows are written: over the whole library a round ends here (an unknown name would send all parts through it); taken out before the hand-in -/
theorem zz_guard : True := by
  fail_if_success (have zz_h := @Jvm.Stand.fitsSlot_none)
  trivial
