theorem zz_look : True := by
  have h1 := @c_X7_findWay
  have h2 := @c_X7_reads_O
  have h3 := @c_X7_digest
  trivial
