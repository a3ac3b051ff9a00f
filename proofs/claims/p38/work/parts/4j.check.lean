/-! the methods are as their summaries say, 9 -/
def qc161 : List qCt := [((13, [[(.ofNat 0, .ofNat 0)], [(.ofNat 0, .ofNat 4)], [(.ofNat 0, .ofNat 3124)], [(.ofNat 0, .ofNat 5)], [(.ofNat 0, .ofNat 1)], [(.ofNat 0, .ofNat 5)]], [(0, .inr (.inr (.ref 71))), (1, .inl (1, .ofNat 0)), (2, .inl (2, .ofNat 0)), (3, .inl (3, .ofNat 0)), (4, .inl (4, .ofNat 0)), (5, .inl (5, .ofNat 0))], [], []), [], [(false, .ofNat 4987, (0, .ofNat 0)), (false, .ofNat 6, (5, .ofNat 0)), (false, .ofNat 9000, (0, .ofNat 0)), (false, .ofNat 0, (0, .ofNat 0))])]
set_option maxRecDepth 100000 in
theorem qe161 : qck0 yT1 [qs147, qs148, qs158, qs149] qP 20000 [] qc161 qs161 = true := by decide +kernel
set_option maxRecDepth 100000 in
theorem qf161 : qc161.all (qck1 yT1 [qs147, qs148, qs158, qs149] qP 20000 [] qc161 qs161) = true := by decide +kernel
set_option maxRecDepth 100000 in
theorem qo161 : qOK yT1 86 1471 qs161 := qck_ok (m := 4) (qall_c qo147 (qall_c qo148 (qall_c qo158 (qall_c qo149 qall_n)))) rfl qe161 qf161 (by decide +kernel) (by decide +kernel)
def qc162 : List qCt := [((30, [[(.ofNat 0, .ofNat 0)], [(.ofNat 0, .ofNat 4)], [(.ofNat 0, .ofNat 0), (.ofNat 10, .ofNat 13)], [(.ofNat 0, .ofNat 5)], [(.ofNat 1, .ofNat 5)]], [(0, .inr (.inr (.ref 71))), (1, .inl (1, .ofNat 0)), (2, .inl (2, .ofNat 0)), (3, .inl (3, .ofNat 0))], [], [((71, 2), .inl (4, .ofNat 0))]), [], [(false, .ofNat 4970, (0, .ofNat 0)), (false, .ofNat 6, (3, .ofNat 0)), (false, .ofNat 9000, (0, .ofNat 0)), (false, .ofNat 0, (0, .ofNat 0)), (false, .ofNat 9000, (0, .ofNat 0)), (false, .ofNat 0, (0, .ofNat 0))]),
  ((38, [[(.ofNat 0, .ofNat 0)], [(.ofNat 0, .ofNat 4)], [(.ofNat 0, .ofNat 0), (.ofNat 10, .ofNat 13)], [(.ofNat 0, .ofNat 4)], [(.ofNat 0, .ofNat 3125)], [(.ofNat 1, .ofNat 5)]], [(0, .inr (.inr (.ref 71))), (1, .inl (1, .ofNat 0)), (2, .inl (2, .ofNat 0)), (3, .inl (3, .ofNat 0)), (4, .inl (4, .ofNat 0))], [], [((71, 2), .inl (5, .ofNat 0))]), [], [(false, .ofNat 4970, (0, .ofNat 0)), (false, .ofNat 6, (3, .ofNat 0)), (false, .ofNat 4962, (0, .ofNat 0)), (false, .ofNat 3126, (4, .ofNat 0)), (false, .ofNat 9000, (0, .ofNat 0)), (false, .ofNat 0, (0, .ofNat 0))])]
set_option maxRecDepth 100000 in
theorem qe162 : qck0 yT1 [qs160, qs158, qs161] qP 20000 [] qc162 qs162 = true := by decide +kernel
set_option maxRecDepth 100000 in
theorem qf162 : qc162.all (qck1 yT1 [qs160, qs158, qs161] qP 20000 [] qc162 qs162) = true := by decide +kernel
set_option maxRecDepth 100000 in
theorem qo162 : qOK yT1 86 1471 qs162 := qck_ok (m := 6) (qall_c qo160 (qall_c qo158 (qall_c qo161 qall_n))) rfl qe162 qf162 (by decide +kernel) (by decide +kernel)
def qc163 : List qCt := [((19, [[(.ofNat 0, .ofNat 0)], [(.ofNat 0, .ofNat 1)], [(.negSucc 0, .ofNat 2147483647)], [(.ofNat 0, .ofNat 31)], [(.ofNat 0, .ofNat 32)]], [(0, .inr (.inr (.ref 71))), (1, .inl (1, .ofNat 0)), (2, .inl (2, .ofNat 0)), (3, .inl (3, .ofNat 0)), (4, .inl (4, .ofNat 0))], [], []), [], [(false, .ofNat 4981, (0, .ofNat 0)), (false, .ofNat 33, (4, .ofNat 0)), (false, .ofNat 9000, (0, .ofNat 0)), (false, .ofNat 0, (0, .ofNat 0))])]
set_option maxRecDepth 100000 in
theorem qe163 : qck0 yT1 [qs135, qs147, qs151] qP 20000 [] qc163 qs163 = true := by decide +kernel
set_option maxRecDepth 100000 in
theorem qf163 : qc163.all (qck1 yT1 [qs135, qs147, qs151] qP 20000 [] qc163 qs163) = true := by decide +kernel
set_option maxRecDepth 100000 in
theorem qo163 : qOK yT1 86 1471 qs163 := qck_ok (m := 4) (qall_c qo135 (qall_c qo147 (qall_c qo151 qall_n))) rfl qe163 qf163 (by decide +kernel) (by decide +kernel)
def qc164 : List qCt := [((28, [[(.ofNat 0, .ofNat 0)], [(.ofNat 0, .ofNat 1)], [(.negSucc 2147483647, .ofNat 2147483647)], [(.negSucc 3, .negSucc 3), (.ofNat 0, .ofNat 4)], [(.ofNat 0, .ofNat 5)]], [(0, .inr (.inr (.ref 71))), (1, .inl (1, .ofNat 0)), (2, .inl (2, .ofNat 0)), (3, .inl (3, .ofNat 0)), (4, .inl (4, .ofNat 0))], [], []), [], [(false, .ofNat 4972, (0, .ofNat 0)), (false, .ofNat 6, (4, .ofNat 0)), (false, .ofNat 9000, (0, .ofNat 0)), (false, .ofNat 0, (0, .ofNat 0))])]
set_option maxRecDepth 100000 in
theorem qe164 : qck0 yT1 [qs135, qs147, qs151] qP 20000 [] qc164 qs164 = true := by decide +kernel
set_option maxRecDepth 100000 in
theorem qf164 : qc164.all (qck1 yT1 [qs135, qs147, qs151] qP 20000 [] qc164 qs164) = true := by decide +kernel
set_option maxRecDepth 100000 in
theorem qo164 : qOK yT1 86 1471 qs164 := qck_ok (m := 4) (qall_c qo135 (qall_c qo147 (qall_c qo151 qall_n))) rfl qe164 qf164 (by decide +kernel) (by decide +kernel)
def qc165 : List qCt := [((28, [[(.ofNat 0, .ofNat 0)], [(.ofNat 0, .ofNat 1)], [(.negSucc 2147483647, .ofNat 2147483647)], [(.negSucc 3, .negSucc 3), (.ofNat 1, .ofNat 47)], [(.ofNat 0, .ofNat 5)]], [(0, .inr (.inr (.ref 71))), (1, .inl (1, .ofNat 0)), (2, .inl (2, .ofNat 0)), (3, .inl (3, .ofNat 0)), (4, .inl (4, .ofNat 0))], [], []), [], [(false, .ofNat 4972, (0, .ofNat 0)), (false, .ofNat 6, (4, .ofNat 0)), (false, .ofNat 9000, (0, .ofNat 0)), (false, .ofNat 0, (0, .ofNat 0)), (false, .ofNat 9000, (0, .ofNat 0)), (false, .ofNat 0, (0, .ofNat 0))]),
  ((43, [[(.ofNat 0, .ofNat 0)], [(.ofNat 0, .ofNat 1)], [(.negSucc 2147483647, .ofNat 2147483647)], [(.negSucc 3, .negSucc 3), (.ofNat 1, .ofNat 47)], [(.ofNat 0, .ofNat 4)], [(.ofNat 1, .ofNat 5)], [(.ofNat 1, .ofNat 5)]], [(0, .inr (.inr (.ref 71))), (1, .inl (1, .ofNat 0)), (2, .inl (2, .ofNat 0)), (3, .inl (3, .ofNat 0)), (4, .inl (4, .ofNat 0)), (5, .inl (5, .ofNat 0))], [], [((71, 2), .inl (6, .ofNat 0))]), [], [(false, .ofNat 4972, (0, .ofNat 0)), (false, .ofNat 6, (4, .ofNat 0)), (false, .ofNat 4957, (0, .ofNat 0)), (false, .ofNat 6, (5, .ofNat 0)), (false, .ofNat 9000, (0, .ofNat 0)), (false, .ofNat 0, (0, .ofNat 0))])]
set_option maxRecDepth 100000 in
theorem qe165 : qck0 yT1 [qs135, qs147, qs151] qP 20000 [] qc165 qs165 = true := by decide +kernel
set_option maxRecDepth 100000 in
theorem qf165 : qc165.all (qck1 yT1 [qs135, qs147, qs151] qP 20000 [] qc165 qs165) = true := by decide +kernel
set_option maxRecDepth 100000 in
theorem qo165 : qOK yT1 86 1471 qs165 := qck_ok (m := 6) (qall_c qo135 (qall_c qo147 (qall_c qo151 qall_n))) rfl qe165 qf165 (by decide +kernel) (by decide +kernel)
def qc166 : List qCt := [((2, [[(.ofNat 0, .ofNat 0)], [(.ofNat 0, .ofNat 10)]], [(0, .inr (.inr (.ref 71))), (1, .inl (1, .ofNat 0))], [], []), [], [(false, .ofNat 4998, (0, .ofNat 0)), (false, .ofNat 11, (1, .ofNat 0)), (false, .ofNat 9000, (0, .ofNat 0)), (false, .ofNat 0, (0, .ofNat 0))])]
set_option maxRecDepth 100000 in
theorem qe166 : qck0 yT1 [qs147, qs151] qP 20000 [] qc166 qs166 = true := by decide +kernel
set_option maxRecDepth 100000 in
theorem qf166 : qc166.all (qck1 yT1 [qs147, qs151] qP 20000 [] qc166 qs166) = true := by decide +kernel
set_option maxRecDepth 100000 in
theorem qo166 : qOK yT1 86 1471 qs166 := qck_ok (m := 4) (qall_c qo147 (qall_c qo151 qall_n)) rfl qe166 qf166 (by decide +kernel) (by decide +kernel)
def qc167 : List qCt := []
set_option maxRecDepth 100000 in
theorem qe167 : qck0 yT1 [] qP 20000 [] qc167 qs167 = true := by decide +kernel
set_option maxRecDepth 100000 in
theorem qf167 : qc167.all (qck1 yT1 [] qP 20000 [] qc167 qs167) = true := by decide +kernel
set_option maxRecDepth 100000 in
theorem qo167 : qOK yT1 86 1471 qs167 := qck_ok (m := 0) qall_n rfl qe167 qf167 (by decide +kernel) (by decide +kernel)
def qc169 : List qCt := [((35, [[(.ofNat 0, .ofNat 0)], [(.negSucc 2147483647, .ofNat 2147483647)], [(.negSucc 2147483647, .ofNat 2147483647)], [(.negSucc 2147483647, .ofNat 2147483647)], [(.negSucc 9223372036854775807, .ofNat 9223372036854775807)], [(.ofNat 1, .ofNat 1), (.ofNat 10, .ofNat 10), (.ofNat 100, .ofNat 100), (.ofNat 1000, .ofNat 1000), (.ofNat 10000, .ofNat 10000), (.ofNat 100000, .ofNat 100000)], [(.ofNat 0, .ofNat 32)]], [(0, .inr (.inr (.ref 71))), (1, .inl (1, .ofNat 0)), (2, .inl (2, .ofNat 0)), (3, .inl (3, .ofNat 0)), (4, .inr (.inl (4, .ofNat 0))), (6, .inr (.inl (5, .ofNat 0))), (8, .inl (6, .ofNat 0))], [], []), [], [(false, .ofNat 4965, (0, .ofNat 0)), (false, .ofNat 33, (6, .ofNat 0)), (false, .ofNat 9000, (0, .ofNat 0)), (false, .ofNat 0, (0, .ofNat 0)), (false, .ofNat 9000, (0, .ofNat 0)), (false, .ofNat 0, (0, .ofNat 0))]),
  ((50, [[(.ofNat 0, .ofNat 0)], [(.negSucc 2147483647, .ofNat 2147483647)], [(.negSucc 2147483647, .ofNat 2147483647)], [(.negSucc 2147483647, .ofNat 2147483647)], [(.negSucc 9223372036854775807, .ofNat 9223372036854775807)], [(.ofNat 1, .ofNat 1), (.ofNat 10, .ofNat 10), (.ofNat 100, .ofNat 100), (.ofNat 1000, .ofNat 1000), (.ofNat 10000, .ofNat 10000), (.ofNat 100000, .ofNat 100000)], [(.ofNat 0, .ofNat 31)], [(.negSucc 9223372036854775807, .ofNat 9223372036854775807)], [(.ofNat 0, .ofNat 5)]], [(0, .inr (.inr (.ref 71))), (1, .inl (1, .ofNat 0)), (2, .inl (2, .ofNat 0)), (3, .inl (3, .ofNat 0)), (4, .inr (.inl (4, .ofNat 0))), (6, .inr (.inl (5, .ofNat 0))), (8, .inl (6, .ofNat 0)), (9, .inr (.inl (7, .ofNat 0))), (11, .inl (8, .ofNat 0))], [], []), [], [(false, .ofNat 4965, (0, .ofNat 0)), (false, .ofNat 33, (6, .ofNat 0)), (false, .ofNat 4950, (0, .ofNat 0)), (false, .ofNat 6, (8, .ofNat 0)), (false, .ofNat 9000, (0, .ofNat 0)), (false, .ofNat 0, (0, .ofNat 0))])]
set_option maxRecDepth 100000 in
theorem qe169 : qck0 yT1 [qs147, qs151, qs168] qP 20000 [] qc169 qs169 = true := by decide +kernel
set_option maxRecDepth 100000 in
theorem qf169 : qc169.all (qck1 yT1 [qs147, qs151, qs168] qP 20000 [] qc169 qs169) = true := by decide +kernel
set_option maxRecDepth 100000 in
theorem qo169 : qOK yT1 86 1471 qs169 := qck_ok (m := 6) (qall_c qo147 (qall_c qo151 (qall_c qo168 qall_n))) rfl qe169 qf169 (by decide +kernel) (by decide +kernel)
def qc170 : List qCt := []
set_option maxRecDepth 100000 in
theorem qe170 : qck0 yT1 [qs167, qs135, qs169] qP 20000 [] qc170 qs170 = true := by decide +kernel
set_option maxRecDepth 100000 in
theorem qf170 : qc170.all (qck1 yT1 [qs167, qs135, qs169] qP 20000 [] qc170 qs170) = true := by decide +kernel
set_option maxRecDepth 100000 in
theorem qo170 : qOK yT1 86 1471 qs170 := qck_ok (m := 0) (qall_c qo167 (qall_c qo135 (qall_c qo169 qall_n))) rfl qe170 qf170 (by decide +kernel) (by decide +kernel)
def qc171 : List qCt := []
set_option maxRecDepth 100000 in
theorem qe171 : qck0 yT1 [qs167, qs135, qs169] qP 20000 [] qc171 qs171 = true := by decide +kernel
set_option maxRecDepth 100000 in
theorem qf171 : qc171.all (qck1 yT1 [qs167, qs135, qs169] qP 20000 [] qc171 qs171) = true := by decide +kernel
set_option maxRecDepth 100000 in
theorem qo171 : qOK yT1 86 1471 qs171 := qck_ok (m := 0) (qall_c qo167 (qall_c qo135 (qall_c qo169 qall_n))) rfl qe171 qf171 (by decide +kernel) (by decide +kernel)
def qc172 : List qCt := []
set_option maxRecDepth 100000 in
theorem qe172 : qck0 yT1 [] qP 20000 [] qc172 qs172 = true := by decide +kernel
set_option maxRecDepth 100000 in
theorem qf172 : qc172.all (qck1 yT1 [] qP 20000 [] qc172 qs172) = true := by decide +kernel
set_option maxRecDepth 100000 in
theorem qo172 : qOK yT1 86 1471 qs172 := qck_ok (m := 0) qall_n rfl qe172 qf172 (by decide +kernel) (by decide +kernel)
def qc173 : List qCt := []
set_option maxRecDepth 100000 in
theorem qe173 : qck0 yT1 [qs172] qP 20000 [49, 61] qc173 qs173 = true := by decide +kernel
set_option maxRecDepth 100000 in
theorem qf173 : qc173.all (qck1 yT1 [qs172] qP 20000 [49, 61] qc173 qs173) = true := by decide +kernel
set_option maxRecDepth 100000 in
theorem qo173 : qOK yT1 86 1471 qs173 := qck_ok (m := 0) (qall_c qo172 qall_n) rfl qe173 qf173 (by decide +kernel) (by decide +kernel)
def qc174 : List qCt := []
set_option maxRecDepth 100000 in
theorem qe174 : qck0 yT1 [] qP 20000 [] qc174 qs174 = true := by decide +kernel
set_option maxRecDepth 100000 in
theorem qf174 : qc174.all (qck1 yT1 [] qP 20000 [] qc174 qs174) = true := by decide +kernel
set_option maxRecDepth 100000 in
theorem qo174 : qOK yT1 86 1471 qs174 := qck_ok (m := 0) qall_n rfl qe174 qf174 (by decide +kernel) (by decide +kernel)
def qc175 : List qCt := []
set_option maxRecDepth 100000 in
theorem qe175 : qck0 yT1 [] qP 20000 [] qc175 qs175 = true := by decide +kernel
set_option maxRecDepth 100000 in
theorem qf175 : qc175.all (qck1 yT1 [] qP 20000 [] qc175 qs175) = true := by decide +kernel
set_option maxRecDepth 100000 in
theorem qo175 : qOK yT1 86 1471 qs175 := qck_ok (m := 0) qall_n rfl qe175 qf175 (by decide +kernel) (by decide +kernel)
def qc176 : List qCt := [((4, [[(.ofNat 0, .ofNat 0)], [(.ofNat 0, .ofNat 1)], [(.ofNat 0, .ofNat 6)]], [(0, .inr (.inr (.ref 71))), (1, .inl (1, .ofNat 0)), (2, .inl (2, .ofNat 0))], [], []), [], [(false, .ofNat 4996, (0, .ofNat 0)), (false, .ofNat 7, (2, .ofNat 0)), (false, .ofNat 9000, (0, .ofNat 0)), (false, .ofNat 0, (0, .ofNat 0))])]
set_option maxRecDepth 100000 in
theorem qe176 : qck0 yT1 [] qP 20000 [26, 35] qc176 qs176 = true := by decide +kernel
set_option maxRecDepth 100000 in
theorem qf176 : qc176.all (qck1 yT1 [] qP 20000 [26, 35] qc176 qs176) = true := by decide +kernel
set_option maxRecDepth 100000 in
theorem qo176 : qOK yT1 86 1471 qs176 := qck_ok (m := 4) qall_n rfl qe176 qf176 (by decide +kernel) (by decide +kernel)
def qc177 : List qCt := [((4, [[(.ofNat 0, .ofNat 0)], [(.ofNat 0, .ofNat 4)], [(.negSucc 2147483647, .ofNat 2147483647)], [(.ofNat 0, .ofNat 21)]], [(0, .inr (.inr (.ref 71))), (1, .inl (1, .ofNat 0)), (2, .inl (2, .ofNat 0)), (3, .inl (3, .ofNat 0))], [], []), [], [(false, .ofNat 4996, (0, .ofNat 0)), (false, .ofNat 22, (3, .ofNat 0)), (false, .ofNat 9000, (0, .ofNat 0)), (false, .ofNat 0, (0, .ofNat 0)), (false, .ofNat 9000, (0, .ofNat 0)), (false, .ofNat 0, (0, .ofNat 0))]),
  ((65, [[(.ofNat 0, .ofNat 0)], [(.ofNat 0, .ofNat 4)], [(.negSucc 2147483647, .ofNat 2147483647)], [(.ofNat 0, .ofNat 20)], [(.ofNat 0, .ofNat 8)]], [(0, .inr (.inr (.ref 71))), (1, .inl (1, .ofNat 0)), (2, .inl (2, .ofNat 0)), (3, .inl (3, .ofNat 0)), (4, .inl (4, .ofNat 0))], [], []), [], [(false, .ofNat 4996, (0, .ofNat 0)), (false, .ofNat 22, (3, .ofNat 0)), (false, .ofNat 4935, (0, .ofNat 0)), (false, .ofNat 9, (4, .ofNat 0)), (false, .ofNat 9000, (0, .ofNat 0)), (false, .ofNat 0, (0, .ofNat 0))])]
set_option maxRecDepth 100000 in
theorem qe177 : qck0 yT1 [qs147, qs151, qs176] qP 20000 [] qc177 qs177 = true := by decide +kernel
set_option maxRecDepth 100000 in
theorem qf177 : qc177.all (qck1 yT1 [qs147, qs151, qs176] qP 20000 [] qc177 qs177) = true := by decide +kernel
set_option maxRecDepth 100000 in
theorem qo177 : qOK yT1 86 1471 qs177 := qck_ok (m := 6) (qall_c qo147 (qall_c qo151 (qall_c qo176 qall_n))) rfl qe177 qf177 (by decide +kernel) (by decide +kernel)
def qc178 : List qCt := [((39, [[(.ofNat 0, .ofNat 0)], [(.ofNat 0, .ofNat 4)], [(.ofNat 0, .ofNat 2)], [(.negSucc 2147483647, .ofNat 2147483647)], [(.negSucc 3, .negSucc 3), (.ofNat 0, .ofNat 20)], [(.negSucc 3, .negSucc 3), (.ofNat 0, .ofNat 20)], [(.ofNat 0, .ofNat 21)], [(.ofNat 1, .ofNat 5)]], [(0, .inr (.inr (.ref 71))), (1, .inl (1, .ofNat 0)), (2, .inl (2, .ofNat 0)), (3, .inl (3, .ofNat 0)), (4, .inl (4, .ofNat 0)), (5, .inl (5, .ofNat 0)), (6, .inl (6, .ofNat 0))], [], [((71, 2), .inl (7, .ofNat 0))]), [], [(false, .ofNat 4961, (0, .ofNat 0)), (false, .ofNat 22, (6, .ofNat 0)), (false, .ofNat 9000, (0, .ofNat 0)), (false, .ofNat 0, (0, .ofNat 0))])]
set_option maxRecDepth 100000 in
theorem qe178 : qck0 yT1 [qs175, qs177] qP 20000 [] qc178 qs178 = true := by decide +kernel
set_option maxRecDepth 100000 in
theorem qf178 : qc178.all (qck1 yT1 [qs175, qs177] qP 20000 [] qc178 qs178) = true := by decide +kernel
set_option maxRecDepth 100000 in
theorem qo178 : qOK yT1 86 1471 qs178 := qck_ok (m := 4) (qall_c qo175 (qall_c qo177 qall_n)) rfl qe178 qf178 (by decide +kernel) (by decide +kernel)
def qc179 : List qCt := [((4, [[(.ofNat 0, .ofNat 0)], [(.ofNat 0, .ofNat 32767)], [(.ofNat 0, .ofNat 10)]], [(0, .inr (.inr (.ref 71))), (1, .inl (1, .ofNat 0)), (2, .inl (2, .ofNat 0))], [], []), [], [(false, .ofNat 4996, (0, .ofNat 0)), (false, .ofNat 11, (2, .ofNat 0)), (false, .ofNat 9000, (0, .ofNat 0)), (false, .ofNat 0, (0, .ofNat 0))])]
set_option maxRecDepth 100000 in
theorem qe179 : qck0 yT1 [qs147, qs151, qs176] qP 20000 [] qc179 qs179 = true := by decide +kernel
set_option maxRecDepth 100000 in
theorem qf179 : qc179.all (qck1 yT1 [qs147, qs151, qs176] qP 20000 [] qc179 qs179) = true := by decide +kernel
set_option maxRecDepth 100000 in
theorem qo179 : qOK yT1 86 1471 qs179 := qck_ok (m := 4) (qall_c qo147 (qall_c qo151 (qall_c qo176 qall_n))) rfl qe179 qf179 (by decide +kernel) (by decide +kernel)
def qk180_0 : qCt := ((33, [[(.ofNat 0, .ofNat 0)], [(.ofNat 0, .ofNat 4)], [(.ofNat 0, .ofNat 1)], [(.negSucc 2147483647, .ofNat 2147483647)], [(.negSucc 3, .negSucc 3), (.ofNat 0, .ofNat 7)], [(.ofNat 0, .ofNat 8)], [(.ofNat 1, .ofNat 5)]], [(0, .inr (.inr (.ref 71))), (1, .inl (1, .ofNat 0)), (2, .inl (2, .ofNat 0)), (3, .inl (3, .ofNat 0)), (4, .inl (4, .ofNat 0)), (5, .inl (5, .ofNat 0))], [], [((71, 2), .inl (6, .ofNat 0))]), [], [(false, .ofNat 4967, (0, .ofNat 0)), (false, .ofNat 9, (5, .ofNat 0)), (false, .ofNat 9000, (0, .ofNat 0)), (false, .ofNat 0, (0, .ofNat 0)), (false, .ofNat 9000, (0, .ofNat 0)), (false, .ofNat 0, (0, .ofNat 0)), (false, .ofNat 9000, (0, .ofNat 0)), (false, .ofNat 0, (0, .ofNat 0))])
def qk180_1 : qCt := ((52, [[(.ofNat 0, .ofNat 0)], [(.ofNat 0, .ofNat 4)], [(.ofNat 0, .ofNat 1)], [(.negSucc 2147483647, .ofNat 2147483647)], [(.negSucc 3, .negSucc 3), (.ofNat 0, .ofNat 7)], [(.ofNat 0, .ofNat 7)], [(.ofNat 0, .ofNat 2147483647)], [(.negSucc 3, .ofNat 5)], [(.ofNat 1, .ofNat 8)], [(.ofNat 1, .ofNat 5)]], [(0, .inr (.inr (.ref 71))), (1, .inl (1, .ofNat 0)), (2, .inl (2, .ofNat 0)), (3, .inl (3, .ofNat 0)), (4, .inl (4, .ofNat 0)), (5, .inl (5, .ofNat 0)), (6, .inl (6, .ofNat 0)), (7, .inl (7, .ofNat 0))], [], [((72, 26), .inl (8, .ofNat 0)), ((71, 2), .inl (9, .ofNat 0))]), [], [(false, .ofNat 4967, (0, .ofNat 0)), (false, .ofNat 9, (5, .ofNat 0)), (false, .ofNat 4948, (0, .ofNat 0)), (false, .ofNat 6, (7, .ofNat 0)), (false, .ofNat 9000, (0, .ofNat 0)), (false, .ofNat 0, (0, .ofNat 0)), (false, .ofNat 9000, (0, .ofNat 0)), (false, .ofNat 0, (0, .ofNat 0))])
def qk180_2 : qCt := ((67, [[(.ofNat 0, .ofNat 0)], [(.ofNat 0, .ofNat 4)], [(.ofNat 0, .ofNat 1)], [(.negSucc 2147483647, .ofNat 2147483647)], [(.negSucc 3, .negSucc 3), (.ofNat 0, .ofNat 7)], [(.ofNat 0, .ofNat 7)], [(.ofNat 0, .ofNat 2147483647)], [(.negSucc 3, .ofNat 4)], [(.negSucc 2147483647, .ofNat 2147483647)], [(.ofNat 0, .ofNat 21)], [(.ofNat 1, .ofNat 8)], [(.ofNat 1, .ofNat 5)]], [(0, .inr (.inr (.ref 71))), (1, .inl (1, .ofNat 0)), (2, .inl (2, .ofNat 0)), (3, .inl (3, .ofNat 0)), (4, .inl (4, .ofNat 0)), (5, .inl (5, .ofNat 0)), (6, .inl (6, .ofNat 0)), (7, .inl (7, .ofNat 0)), (8, .inl (8, .ofNat 0)), (9, .inl (9, .ofNat 0))], [], [((72, 26), .inl (10, .ofNat 0)), ((71, 2), .inl (11, .ofNat 0))]), [], [(false, .ofNat 4967, (0, .ofNat 0)), (false, .ofNat 9, (5, .ofNat 0)), (false, .ofNat 4948, (0, .ofNat 0)), (false, .ofNat 6, (7, .ofNat 0)), (false, .ofNat 4933, (0, .ofNat 0)), (false, .ofNat 22, (9, .ofNat 0)), (false, .ofNat 9000, (0, .ofNat 0)), (false, .ofNat 0, (0, .ofNat 0))])
def qc180 : List qCt := [qk180_0, qk180_1, qk180_2]
set_option maxRecDepth 100000 in
theorem qe180 : qck0 yT1 [qs135, qs177] qP 20000 [] [qk180_0] qs180 = true := by decide +kernel
set_option maxRecDepth 100000 in
theorem qf180_0 : qck1 yT1 [qs135, qs177] qP 20000 [] [qk180_1] qs180 qk180_0 = true := by decide +kernel
set_option maxRecDepth 100000 in
theorem qf180_1 : qck1 yT1 [qs135, qs177] qP 20000 [] [qk180_0, qk180_2] qs180 qk180_1 = true := by decide +kernel
set_option maxRecDepth 100000 in
theorem qf180_2 : qck1 yT1 [qs135, qs177] qP 20000 [] [qk180_1, qk180_2] qs180 qk180_2 = true := by decide +kernel
set_option maxRecDepth 100000 in
theorem qg180_3 : qHs yT1 [qs135, qs177] qP 20000 [] qs180 qc180 [] := qHs_n
set_option maxRecDepth 100000 in
theorem qg180_2 : qHs yT1 [qs135, qs177] qP 20000 [] qs180 qc180 [qk180_2] := qHs_c (qsb_c (i := 1) rfl (qsb_c (i := 2) rfl qsb_n)) qf180_2 qg180_3
set_option maxRecDepth 100000 in
theorem qg180_1 : qHs yT1 [qs135, qs177] qP 20000 [] qs180 qc180 [qk180_1, qk180_2] := qHs_c (qsb_c (i := 0) rfl (qsb_c (i := 2) rfl qsb_n)) qf180_1 qg180_2
set_option maxRecDepth 100000 in
theorem qg180_0 : qHs yT1 [qs135, qs177] qP 20000 [] qs180 qc180 [qk180_0, qk180_1, qk180_2] := qHs_c (qsb_c (i := 1) rfl qsb_n) qf180_0 qg180_1
set_option maxRecDepth 100000 in
theorem qo180 : qOK yT1 86 1471 qs180 := qck_ok2 (m := 8) (cuts := qc180) (qall_c qo135 (qall_c qo177 qall_n)) rfl (qsb_c (i := 0) rfl qsb_n) qe180 qg180_0 (by decide +kernel) (by decide +kernel)
def qc181 : List qCt := []
set_option maxRecDepth 100000 in
theorem qe181 : qck0 yT1 [] qP 20000 [] qc181 qs181 = true := by decide +kernel
set_option maxRecDepth 100000 in
theorem qf181 : qc181.all (qck1 yT1 [] qP 20000 [] qc181 qs181) = true := by decide +kernel
set_option maxRecDepth 100000 in
theorem qo181 : qOK yT1 86 1471 qs181 := qck_ok (m := 0) qall_n rfl qe181 qf181 (by decide +kernel) (by decide +kernel)
def qc182 : List qCt := [((50, [[(.ofNat 0, .ofNat 0)], [(.negSucc 2147483647, .ofNat 2147483647)], [(.ofNat 1, .ofNat 60)], [(.ofNat 0, .ofNat 1)], [(.negSucc 2147483647, .ofNat 2147483647)], [(.negSucc 2147483647, .ofNat 2147483647)], [(.ofNat 0, .ofNat 60)], [(.ofNat 1, .ofNat 5)]], [(0, .inr (.inr (.ref 71))), (1, .inl (1, .ofNat 0)), (2, .inl (2, .ofNat 0)), (3, .inl (3, .ofNat 0)), (4, .inl (4, .ofNat 0)), (5, .inl (5, .ofNat 0)), (6, .inl (6, .ofNat 0))], [], [((71, 2), .inl (7, .ofNat 0))]), [], [(false, .ofNat 4950, (0, .ofNat 0)), (false, .ofNat 61, (6, .ofNat 0)), (false, .ofNat 9000, (0, .ofNat 0)), (false, .ofNat 0, (0, .ofNat 0))])]
set_option maxRecDepth 100000 in
theorem qe182 : qck0 yT1 [qs181, qs135, qs147, qs149, qs152] qP 20000 [] qc182 qs182 = true := by decide +kernel
set_option maxRecDepth 100000 in
theorem qf182 : qc182.all (qck1 yT1 [qs181, qs135, qs147, qs149, qs152] qP 20000 [] qc182 qs182) = true := by decide +kernel
set_option maxRecDepth 100000 in
theorem qo182 : qOK yT1 86 1471 qs182 := qck_ok (m := 4) (qall_c qo181 (qall_c qo135 (qall_c qo147 (qall_c qo149 (qall_c qo152 qall_n))))) rfl qe182 qf182 (by decide +kernel) (by decide +kernel)
def qc183 : List qCt := []
set_option maxRecDepth 100000 in
theorem qe183 : qck0 yT1 [] qP 20000 [] qc183 qs183 = true := by decide +kernel
set_option maxRecDepth 100000 in
theorem qf183 : qc183.all (qck1 yT1 [] qP 20000 [] qc183 qs183) = true := by decide +kernel
set_option maxRecDepth 100000 in
theorem qo183 : qOK yT1 86 1471 qs183 := qck_ok (m := 0) qall_n rfl qe183 qf183 (by decide +kernel) (by decide +kernel)
def qc184 : List qCt := []
set_option maxRecDepth 100000 in
theorem qe184 : qck0 yT1 [] qP 20000 [] qc184 qs184 = true := by decide +kernel
set_option maxRecDepth 100000 in
theorem qf184 : qc184.all (qck1 yT1 [] qP 20000 [] qc184 qs184) = true := by decide +kernel
set_option maxRecDepth 100000 in
theorem qo184 : qOK yT1 86 1471 qs184 := qck_ok (m := 0) qall_n rfl qe184 qf184 (by decide +kernel) (by decide +kernel)
def qc185 : List qCt := []
set_option maxRecDepth 100000 in
theorem qe185 : qck0 yT1 [qs135, qs183, qs184] qP 20000 [19] qc185 qs185 = true := by decide +kernel
set_option maxRecDepth 100000 in
theorem qf185 : qc185.all (qck1 yT1 [qs135, qs183, qs184] qP 20000 [19] qc185 qs185) = true := by decide +kernel
set_option maxRecDepth 100000 in
theorem qo185 : qOK yT1 86 1471 qs185 := qck_ok (m := 0) (qall_c qo135 (qall_c qo183 (qall_c qo184 qall_n))) rfl qe185 qf185 (by decide +kernel) (by decide +kernel)
def qc186 : List qCt := []
set_option maxRecDepth 100000 in
theorem qe186 : qck0 yT1 [] qP 20000 [] qc186 qs186 = true := by decide +kernel
set_option maxRecDepth 100000 in
theorem qf186 : qc186.all (qck1 yT1 [] qP 20000 [] qc186 qs186) = true := by decide +kernel
set_option maxRecDepth 100000 in
theorem qo186 : qOK yT1 86 1471 qs186 := qck_ok (m := 0) qall_n rfl qe186 qf186 (by decide +kernel) (by decide +kernel)
def qc187 : List qCt := []
set_option maxRecDepth 100000 in
theorem qe187 : qck0 yT1 [] qP 20000 [] qc187 qs187 = true := by decide +kernel
set_option maxRecDepth 100000 in
theorem qf187 : qc187.all (qck1 yT1 [] qP 20000 [] qc187 qs187) = true := by decide +kernel
set_option maxRecDepth 100000 in
theorem qo187 : qOK yT1 86 1471 qs187 := qck_ok (m := 0) qall_n rfl qe187 qf187 (by decide +kernel) (by decide +kernel)
def qc188 : List qCt := []
set_option maxRecDepth 100000 in
theorem qe188 : qck0 yT1 [qs135, qs186, qs187] qP 20000 [30] qc188 qs188 = true := by decide +kernel
set_option maxRecDepth 100000 in
theorem qf188 : qc188.all (qck1 yT1 [qs135, qs186, qs187] qP 20000 [30] qc188 qs188) = true := by decide +kernel
set_option maxRecDepth 100000 in
theorem qo188 : qOK yT1 86 1471 qs188 := qck_ok (m := 0) (qall_c qo135 (qall_c qo186 (qall_c qo187 qall_n))) rfl qe188 qf188 (by decide +kernel) (by decide +kernel)
def qc189 : List qCt := [((56, [[(.ofNat 0, .ofNat 0)], [(.ofNat 0, .ofNat 3)], [(.ofNat 0, .ofNat 2)], [(.ofNat 0, .ofNat 40)], [(.ofNat 0, .ofNat 40)]], [(0, .inr (.inr (.ref 71))), (1, .inl (1, .ofNat 0)), (2, .inl (2, .ofNat 0)), (3, .inl (3, .ofNat 0)), (4, .inl (4, .ofNat 0))], [], []), [], [(false, .ofNat 4944, (0, .ofNat 0)), (false, .ofNat 41, (4, .ofNat 0)), (false, .ofNat 9000, (0, .ofNat 0)), (false, .ofNat 0, (0, .ofNat 0))])]
set_option maxRecDepth 100000 in
theorem qe189 : qck0 yT1 [qs134, qs175] qP 20000 [] qc189 qs189 = true := by decide +kernel
set_option maxRecDepth 100000 in
theorem qf189 : qc189.all (qck1 yT1 [qs134, qs175] qP 20000 [] qc189 qs189) = true := by decide +kernel
set_option maxRecDepth 100000 in
theorem qo189 : qOK yT1 86 1471 qs189 := qck_ok (m := 4) (qall_c qo134 (qall_c qo175 qall_n)) rfl qe189 qf189 (by decide +kernel) (by decide +kernel)
def qc190 : List qCt := []
set_option maxRecDepth 100000 in
theorem qe190 : qck0 yT1 [qs134] qP 20000 [] qc190 qs190 = true := by decide +kernel
set_option maxRecDepth 100000 in
theorem qf190 : qc190.all (qck1 yT1 [qs134] qP 20000 [] qc190 qs190) = true := by decide +kernel
set_option maxRecDepth 100000 in
theorem qo190 : qOK yT1 86 1471 qs190 := qck_ok (m := 0) (qall_c qo134 qall_n) rfl qe190 qf190 (by decide +kernel) (by decide +kernel)
def qc191 : List qCt := []
set_option maxRecDepth 100000 in
theorem qe191 : qck0 yT1 [] qP 20000 [] qc191 qs191 = true := by decide +kernel
set_option maxRecDepth 100000 in
theorem qf191 : qc191.all (qck1 yT1 [] qP 20000 [] qc191 qs191) = true := by decide +kernel
set_option maxRecDepth 100000 in
theorem qo191 : qOK yT1 86 1471 qs191 := qck_ok (m := 0) qall_n rfl qe191 qf191 (by decide +kernel) (by decide +kernel)
