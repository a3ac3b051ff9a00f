/-! the methods are as their summaries say, 3 -/
def qc67 : List qCt := [((24, [[(.ofNat 0, .ofNat 0)], [(.ofNat 0, .ofNat 4)], [(.ofNat 0, .ofNat 5)], [(.ofNat 2, .ofNat 5)]], [(0, .inr (.inr (.ref 29))), (1, .inl (1, .ofNat 0)), (2, .inl (0, .ofNat 1)), (3, .inl (2, .ofNat 0))], [], [((29, 3), .inl (3, .ofNat 0))]), [], [(false, .ofNat 4976, (0, .ofNat 0)), (false, .ofNat 6, (2, .ofNat 0)), (false, .ofNat 9000, (0, .ofNat 0)), (false, .ofNat 0, (0, .ofNat 0))])]
set_option maxRecDepth 100000 in
theorem qe67 : qck0 yT1 [qs63, qs55, qs66] qP 20000 [] qc67 qs67 = true := by decide +kernel
set_option maxRecDepth 100000 in
theorem qf67 : qc67.all (qck1 yT1 [qs63, qs55, qs66] qP 20000 [] qc67 qs67) = true := by decide +kernel
set_option maxRecDepth 100000 in
theorem qo67 : qOK yT1 86 1471 qs67 := qck_ok (m := 4) (qall_c qo63 (qall_c qo55 (qall_c qo66 qall_n))) rfl qe67 qf67 (by decide +kernel) (by decide +kernel)
def qc68 : List qCt := [((24, [[(.ofNat 0, .ofNat 0)], [(.ofNat 0, .ofNat 4)], [(.ofNat 0, .ofNat 5)], [(.ofNat 1, .ofNat 5)]], [(0, .inr (.inr (.ref 29))), (1, .inl (1, .ofNat 0)), (2, .inl (0, .ofNat 0)), (3, .inl (2, .ofNat 0))], [], [((29, 3), .inl (3, .ofNat 0))]), [], [(false, .ofNat 4976, (0, .ofNat 0)), (false, .ofNat 6, (2, .ofNat 0)), (false, .ofNat 9000, (0, .ofNat 0)), (false, .ofNat 0, (0, .ofNat 0))])]
set_option maxRecDepth 100000 in
theorem qe68 : qck0 yT1 [qs63, qs55, qs67] qP 20000 [] qc68 qs68 = true := by decide +kernel
set_option maxRecDepth 100000 in
theorem qf68 : qc68.all (qck1 yT1 [qs63, qs55, qs67] qP 20000 [] qc68 qs68) = true := by decide +kernel
set_option maxRecDepth 100000 in
theorem qo68 : qOK yT1 86 1471 qs68 := qck_ok (m := 4) (qall_c qo63 (qall_c qo55 (qall_c qo67 qall_n))) rfl qe68 qf68 (by decide +kernel) (by decide +kernel)
def qc69 : List qCt := [((10, [[(.ofNat 0, .ofNat 0)], [(.ofNat 0, .ofNat 4)], [(.ofNat 0, .ofNat 5)]], [(0, .inr (.inr (.ref 29))), (1, .inr (.inr (.ref 11))), (2, .inl (1, .ofNat 0)), (3, .inl (2, .ofNat 0))], [], []), [], [(false, .ofNat 4990, (0, .ofNat 0)), (false, .ofNat 6, (2, .ofNat 0)), (false, .ofNat 9000, (0, .ofNat 0)), (false, .ofNat 0, (0, .ofNat 0))])]
set_option maxRecDepth 100000 in
theorem qe69 : qck0 yT1 [qs50, qs68] qP 20000 [] qc69 qs69 = true := by decide +kernel
set_option maxRecDepth 100000 in
theorem qf69 : qc69.all (qck1 yT1 [qs50, qs68] qP 20000 [] qc69 qs69) = true := by decide +kernel
set_option maxRecDepth 100000 in
theorem qo69 : qOK yT1 86 1471 qs69 := qck_ok (m := 4) (qall_c qo50 (qall_c qo68 qall_n)) rfl qe69 qf69 (by decide +kernel) (by decide +kernel)
def qc70 : List qCt := []
set_option maxRecDepth 100000 in
theorem qe70 : qck0 yT1 [qs69] qP 20000 [] qc70 qs70 = true := by decide +kernel
set_option maxRecDepth 100000 in
theorem qf70 : qc70.all (qck1 yT1 [qs69] qP 20000 [] qc70 qs70) = true := by decide +kernel
set_option maxRecDepth 100000 in
theorem qo70 : qOK yT1 86 1471 qs70 := qck_ok (m := 0) (qall_c qo69 qall_n) rfl qe70 qf70 (by decide +kernel) (by decide +kernel)
def qc71 : List qCt := [((2, [[(.ofNat 0, .ofNat 0)], [(.negSucc 2147483647, .ofNat 2147483647)], [(.ofNat 0, .ofNat 5)]], [(0, .inr (.inr (.ref 20))), (1, .inl (1, .ofNat 0)), (2, .inl (2, .ofNat 0))], [], []), [], [(false, .ofNat 4998, (0, .ofNat 0)), (false, .ofNat 6, (2, .ofNat 0)), (false, .ofNat 9000, (0, .ofNat 0)), (false, .ofNat 0, (0, .ofNat 0))])]
set_option maxRecDepth 100000 in
theorem qe71 : qck0 yT1 [] qP 20000 [] qc71 qs71 = true := by decide +kernel
set_option maxRecDepth 100000 in
theorem qf71 : qc71.all (qck1 yT1 [] qP 20000 [] qc71 qs71) = true := by decide +kernel
set_option maxRecDepth 100000 in
theorem qo71 : qOK yT1 86 1471 qs71 := qck_ok (m := 4) qall_n rfl qe71 qf71 (by decide +kernel) (by decide +kernel)
def qc72 : List qCt := [((18, [[(.ofNat 0, .ofNat 0)], [(.ofNat 0, .ofNat 1)], [(.ofNat 0, .ofNat 31)], [(.negSucc 0, .ofNat 2147483647)], [(.ofNat 0, .ofNat 32)]], [(0, .inr (.inr (.ref 0))), (1, .inl (1, .ofNat 0)), (2, .inl (2, .ofNat 0)), (3, .inl (3, .ofNat 0)), (4, .inl (4, .ofNat 0))], [], []), [], [(false, .ofNat 4982, (0, .ofNat 0)), (false, .ofNat 33, (4, .ofNat 0)), (false, .ofNat 9000, (0, .ofNat 0)), (false, .ofNat 0, (0, .ofNat 0))])]
set_option maxRecDepth 100000 in
theorem qe72 : qck0 yT1 [qs39, qs71, qs45] qP 20000 [] qc72 qs72 = true := by decide +kernel
set_option maxRecDepth 100000 in
theorem qf72 : qc72.all (qck1 yT1 [qs39, qs71, qs45] qP 20000 [] qc72 qs72) = true := by decide +kernel
set_option maxRecDepth 100000 in
theorem qo72 : qOK yT1 86 1471 qs72 := qck_ok (m := 4) (qall_c qo39 (qall_c qo71 (qall_c qo45 qall_n))) rfl qe72 qf72 (by decide +kernel) (by decide +kernel)
def qc73 : List qCt := [((22, [[(.ofNat 0, .ofNat 0)], [(.ofNat 0, .ofNat 1)], [(.negSucc 3, .negSucc 3), (.ofNat 0, .ofNat 4)], [(.negSucc 2147483647, .ofNat 2147483647)], [(.ofNat 0, .ofNat 5)]], [(0, .inr (.inr (.ref 0))), (1, .inl (1, .ofNat 0)), (2, .inl (2, .ofNat 0)), (3, .inl (3, .ofNat 0)), (4, .inl (4, .ofNat 0))], [], []), [], [(false, .ofNat 4978, (0, .ofNat 0)), (false, .ofNat 6, (4, .ofNat 0)), (false, .ofNat 9000, (0, .ofNat 0)), (false, .ofNat 0, (0, .ofNat 0))])]
set_option maxRecDepth 100000 in
theorem qe73 : qck0 yT1 [qs39, qs45] qP 20000 [] qc73 qs73 = true := by decide +kernel
set_option maxRecDepth 100000 in
theorem qf73 : qc73.all (qck1 yT1 [qs39, qs45] qP 20000 [] qc73 qs73) = true := by decide +kernel
set_option maxRecDepth 100000 in
theorem qo73 : qOK yT1 86 1471 qs73 := qck_ok (m := 4) (qall_c qo39 (qall_c qo45 qall_n)) rfl qe73 qf73 (by decide +kernel) (by decide +kernel)
def qc74 : List qCt := [((22, [[(.ofNat 0, .ofNat 0)], [(.ofNat 0, .ofNat 1)], [(.negSucc 3, .negSucc 3), (.ofNat 1, .ofNat 4), (.ofNat 11, .ofNat 14), (.ofNat 21, .ofNat 26), (.ofNat 31, .ofNat 39), (.ofNat 41, .ofNat 47)], [(.negSucc 2147483647, .ofNat 2147483647)], [(.ofNat 0, .ofNat 5)]], [(0, .inr (.inr (.ref 0))), (1, .inl (1, .ofNat 0)), (2, .inl (2, .ofNat 0)), (3, .inl (3, .ofNat 0)), (4, .inl (4, .ofNat 0))], [], []), [], [(false, .ofNat 4978, (0, .ofNat 0)), (false, .ofNat 6, (4, .ofNat 0)), (false, .ofNat 9000, (0, .ofNat 0)), (false, .ofNat 0, (0, .ofNat 0)), (false, .ofNat 9000, (0, .ofNat 0)), (false, .ofNat 0, (0, .ofNat 0))]),
  ((40, [[(.ofNat 0, .ofNat 0)], [(.ofNat 0, .ofNat 1)], [(.negSucc 3, .negSucc 3), (.ofNat 1, .ofNat 4), (.ofNat 11, .ofNat 14), (.ofNat 21, .ofNat 26), (.ofNat 31, .ofNat 39), (.ofNat 41, .ofNat 47)], [(.negSucc 2147483647, .ofNat 2147483647)], [(.ofNat 0, .ofNat 4)], [(.ofNat 1, .ofNat 5)], [(.ofNat 1, .ofNat 5)]], [(0, .inr (.inr (.ref 0))), (1, .inl (1, .ofNat 0)), (2, .inl (2, .ofNat 0)), (3, .inl (3, .ofNat 0)), (4, .inl (4, .ofNat 0)), (5, .inl (5, .ofNat 0))], [], [((11, 2), .inl (6, .ofNat 0))]), [], [(false, .ofNat 4978, (0, .ofNat 0)), (false, .ofNat 6, (4, .ofNat 0)), (false, .ofNat 4960, (0, .ofNat 0)), (false, .ofNat 6, (5, .ofNat 0)), (false, .ofNat 9000, (0, .ofNat 0)), (false, .ofNat 0, (0, .ofNat 0))])]
set_option maxRecDepth 100000 in
theorem qe74 : qck0 yT1 [qs39, qs45] qP 20000 [] qc74 qs74 = true := by decide +kernel
set_option maxRecDepth 100000 in
theorem qf74 : qc74.all (qck1 yT1 [qs39, qs45] qP 20000 [] qc74 qs74) = true := by decide +kernel
set_option maxRecDepth 100000 in
theorem qo74 : qOK yT1 86 1471 qs74 := qck_ok (m := 6) (qall_c qo39 (qall_c qo45 qall_n)) rfl qe74 qf74 (by decide +kernel) (by decide +kernel)
def qc75 : List qCt := [((2, [[(.ofNat 0, .ofNat 0)], [(.ofNat 0, .ofNat 10)]], [(0, .inr (.inr (.ref 0))), (1, .inl (1, .ofNat 0))], [], []), [], [(false, .ofNat 4998, (0, .ofNat 0)), (false, .ofNat 11, (1, .ofNat 0)), (false, .ofNat 9000, (0, .ofNat 0)), (false, .ofNat 0, (0, .ofNat 0))])]
set_option maxRecDepth 100000 in
theorem qe75 : qck0 yT1 [qs39, qs45] qP 20000 [] qc75 qs75 = true := by decide +kernel
set_option maxRecDepth 100000 in
theorem qf75 : qc75.all (qck1 yT1 [qs39, qs45] qP 20000 [] qc75 qs75) = true := by decide +kernel
set_option maxRecDepth 100000 in
theorem qo75 : qOK yT1 86 1471 qs75 := qck_ok (m := 4) (qall_c qo39 (qall_c qo45 qall_n)) rfl qe75 qf75 (by decide +kernel) (by decide +kernel)
def qc76 : List qCt := [((5, [[(.ofNat 0, .ofNat 0)], [(.negSucc 2147483647, .ofNat 2147483647)], [(.negSucc 2147483647, .ofNat 2147483647)], [(.negSucc 9223372036854775807, .ofNat 9223372036854775807)], [(.ofNat 0, .ofNat 5)]], [(0, .inr (.inr (.ref 0))), (1, .inl (1, .ofNat 0)), (2, .inl (2, .ofNat 0)), (3, .inr (.inl (3, .ofNat 0))), (5, .inl (4, .ofNat 0))], [], []), [], [(false, .ofNat 4995, (0, .ofNat 0)), (false, .ofNat 6, (4, .ofNat 0)), (false, .ofNat 9000, (0, .ofNat 0)), (false, .ofNat 0, (0, .ofNat 0))])]
set_option maxRecDepth 100000 in
theorem qe76 : qck0 yT1 [] qP 20000 [] qc76 qs76 = true := by decide +kernel
set_option maxRecDepth 100000 in
theorem qf76 : qc76.all (qck1 yT1 [] qP 20000 [] qc76 qs76) = true := by decide +kernel
set_option maxRecDepth 100000 in
theorem qo76 : qOK yT1 86 1471 qs76 := qck_ok (m := 4) qall_n rfl qe76 qf76 (by decide +kernel) (by decide +kernel)
def qc77 : List qCt := [((4, [[(.ofNat 0, .ofNat 0)], [(.negSucc 9223372036854775807, .ofNat 9223372036854775807)], [(.ofNat 0, .ofNat 5)]], [(0, .inr (.inr (.ref 0))), (1, .inr (.inl (1, .ofNat 0))), (3, .inl (2, .ofNat 0))], [], []), [], [(false, .ofNat 4996, (0, .ofNat 0)), (false, .ofNat 6, (2, .ofNat 0)), (false, .ofNat 9000, (0, .ofNat 0)), (false, .ofNat 0, (0, .ofNat 0))])]
set_option maxRecDepth 100000 in
theorem qe77 : qck0 yT1 [] qP 20000 [] qc77 qs77 = true := by decide +kernel
set_option maxRecDepth 100000 in
theorem qf77 : qc77.all (qck1 yT1 [] qP 20000 [] qc77 qs77) = true := by decide +kernel
set_option maxRecDepth 100000 in
theorem qo77 : qOK yT1 86 1471 qs77 := qck_ok (m := 4) qall_n rfl qe77 qf77 (by decide +kernel) (by decide +kernel)
def qc78 : List qCt := [((9, [[(.ofNat 0, .ofNat 0)], [(.negSucc 9223372036854775807, .ofNat 9223372036854775807)], [(.negSucc 9223372036854775807, .ofNat 9223372036854775807)], [(.negSucc 9223372036854775807, .ofNat 9223372036854775807)], [(.negSucc 9223372036854775807, .ofNat 9223372036854775807)], [(.ofNat 0, .ofNat 100)]], [(0, .inr (.inl (1, .ofNat 0))), (2, .inr (.inl (2, .ofNat 0))), (4, .inr (.inl (3, .ofNat 0))), (6, .inr (.inl (4, .ofNat 0))), (8, .inl (5, .ofNat 0))], [], []), [], [(false, .ofNat 4991, (0, .ofNat 0)), (false, .ofNat 101, (5, .ofNat 0)), (false, .ofNat 9000, (0, .ofNat 0)), (false, .ofNat 0, (0, .ofNat 0))])]
set_option maxRecDepth 100000 in
theorem qe78 : qck0 yT1 [] qP 20000 [] qc78 qs78 = true := by decide +kernel
set_option maxRecDepth 100000 in
theorem qf78 : qc78.all (qck1 yT1 [] qP 20000 [] qc78 qs78) = true := by decide +kernel
set_option maxRecDepth 100000 in
theorem qo78 : qOK yT1 86 1471 qs78 := qck_ok (m := 4) qall_n rfl qe78 qf78 (by decide +kernel) (by decide +kernel)
def qc79 : List qCt := [((28, [[(.ofNat 0, .ofNat 0)], [(.ofNat 0, .ofNat 10)], [(.ofNat 0, .ofNat 1)], [(.negSucc 9223372036854775807, .ofNat 9223372036854775807)], [(.ofNat 0, .ofNat 32)]], [(0, .inr (.inr (.ref 0))), (1, .inl (1, .ofNat 0)), (2, .inl (2, .ofNat 0)), (3, .inr (.inl (3, .ofNat 0))), (5, .inl (4, .ofNat 0))], [], []), [], [(false, .ofNat 4972, (0, .ofNat 0)), (false, .ofNat 33, (4, .ofNat 0)), (false, .ofNat 9000, (0, .ofNat 0)), (false, .ofNat 0, (0, .ofNat 0))])]
set_option maxRecDepth 100000 in
theorem qe79 : qck0 yT1 [qs76, qs39, qs45, qs77, qs78] qP 20000 [] qc79 qs79 = true := by decide +kernel
set_option maxRecDepth 100000 in
theorem qf79 : qc79.all (qck1 yT1 [qs76, qs39, qs45, qs77, qs78] qP 20000 [] qc79 qs79) = true := by decide +kernel
set_option maxRecDepth 100000 in
theorem qo79 : qOK yT1 86 1471 qs79 := qck_ok (m := 4) (qall_c qo76 (qall_c qo39 (qall_c qo45 (qall_c qo77 (qall_c qo78 qall_n))))) rfl qe79 qf79 (by decide +kernel) (by decide +kernel)
def qc80 : List qCt := [((40, [[(.ofNat 0, .ofNat 0)], [(.ofNat 0, .ofNat 10)], [(.ofNat 0, .ofNat 4)], [(.ofNat 0, .ofNat 1)], [(.negSucc 9223372036854775807, .ofNat 9223372036854775807)], [(.ofNat 0, .ofNat 32)], [(.ofNat 1, .ofNat 5)]], [(0, .inr (.inr (.ref 0))), (1, .inl (1, .ofNat 0)), (2, .inl (2, .ofNat 0)), (3, .inl (3, .ofNat 0)), (4, .inr (.inl (4, .ofNat 0))), (6, .inl (5, .ofNat 0))], [], [((11, 2), .inl (6, .ofNat 0))]), [], [(false, .ofNat 4960, (0, .ofNat 0)), (false, .ofNat 33, (5, .ofNat 0)), (false, .ofNat 9000, (0, .ofNat 0)), (false, .ofNat 0, (0, .ofNat 0))])]
set_option maxRecDepth 100000 in
theorem qe80 : qck0 yT1 [qs39, qs45, qs76, qs77, qs78] qP 20000 [] qc80 qs80 = true := by decide +kernel
set_option maxRecDepth 100000 in
theorem qf80 : qc80.all (qck1 yT1 [qs39, qs45, qs76, qs77, qs78] qP 20000 [] qc80 qs80) = true := by decide +kernel
set_option maxRecDepth 100000 in
theorem qo80 : qOK yT1 86 1471 qs80 := qck_ok (m := 4) (qall_c qo39 (qall_c qo45 (qall_c qo76 (qall_c qo77 (qall_c qo78 qall_n))))) rfl qe80 qf80 (by decide +kernel) (by decide +kernel)
def qc81 : List qCt := []
set_option maxRecDepth 100000 in
theorem qe81 : qck0 yT1 [] qP 20000 [] qc81 qs81 = true := by decide +kernel
set_option maxRecDepth 100000 in
theorem qf81 : qc81.all (qck1 yT1 [] qP 20000 [] qc81 qs81) = true := by decide +kernel
set_option maxRecDepth 100000 in
theorem qo81 : qOK yT1 86 1471 qs81 := qck_ok (m := 0) qall_n rfl qe81 qf81 (by decide +kernel) (by decide +kernel)
def qc82 : List qCt := []
set_option maxRecDepth 100000 in
theorem qe82 : qck0 yT1 [] qP 20000 [] qc82 qs82 = true := by decide +kernel
set_option maxRecDepth 100000 in
theorem qf82 : qc82.all (qck1 yT1 [] qP 20000 [] qc82 qs82) = true := by decide +kernel
set_option maxRecDepth 100000 in
theorem qo82 : qOK yT1 86 1471 qs82 := qck_ok (m := 0) qall_n rfl qe82 qf82 (by decide +kernel) (by decide +kernel)
def qc83 : List qCt := [((2, [[(.ofNat 0, .ofNat 0)], [(.ofNat 0, .ofNat 6)]], [(0, .inr (.inr (.ref 40))), (1, .inr (.inr (.ref 19))), (2, .inl (1, .ofNat 0))], [], []), [], [(false, .ofNat 4998, (0, .ofNat 0)), (false, .ofNat 7, (1, .ofNat 0)), (false, .ofNat 9000, (0, .ofNat 0)), (false, .ofNat 0, (0, .ofNat 0))])]
set_option maxRecDepth 100000 in
theorem qe83 : qck0 yT1 [] qP 20000 [] qc83 qs83 = true := by decide +kernel
set_option maxRecDepth 100000 in
theorem qf83 : qc83.all (qck1 yT1 [] qP 20000 [] qc83 qs83) = true := by decide +kernel
set_option maxRecDepth 100000 in
theorem qo83 : qOK yT1 86 1471 qs83 := qck_ok (m := 4) qall_n rfl qe83 qf83 (by decide +kernel) (by decide +kernel)
def qc84 : List qCt := [((35, [[(.ofNat 0, .ofNat 0)], [(.ofNat 0, .ofNat 4)], [(.ofNat 0, .ofNat 2)], [(.negSucc 2147483647, .ofNat 2147483647)], [(.negSucc 3, .negSucc 3), (.ofNat 0, .ofNat 20)], [(.negSucc 3, .negSucc 3), (.ofNat 0, .ofNat 20)], [(.ofNat 0, .ofNat 21)], [(.ofNat 1, .ofNat 5)]], [(0, .inr (.inr (.ref 0))), (1, .inl (1, .ofNat 0)), (2, .inl (2, .ofNat 0)), (3, .inl (3, .ofNat 0)), (4, .inl (4, .ofNat 0)), (5, .inl (5, .ofNat 0)), (6, .inl (6, .ofNat 0))], [], [((11, 2), .inl (7, .ofNat 0))]), [], [(false, .ofNat 4965, (0, .ofNat 0)), (false, .ofNat 22, (6, .ofNat 0)), (false, .ofNat 9000, (0, .ofNat 0)), (false, .ofNat 0, (0, .ofNat 0))])]
set_option maxRecDepth 100000 in
theorem qe84 : qck0 yT1 [qs39, qs45, qs83] qP 20000 [] qc84 qs84 = true := by decide +kernel
set_option maxRecDepth 100000 in
theorem qf84 : qc84.all (qck1 yT1 [qs39, qs45, qs83] qP 20000 [] qc84 qs84) = true := by decide +kernel
set_option maxRecDepth 100000 in
theorem qo84 : qOK yT1 86 1471 qs84 := qck_ok (m := 4) (qall_c qo39 (qall_c qo45 (qall_c qo83 qall_n))) rfl qe84 qf84 (by decide +kernel) (by decide +kernel)
def qc85 : List qCt := [((4, [[(.ofNat 0, .ofNat 0)], [(.ofNat 0, .ofNat 32767)], [(.ofNat 0, .ofNat 10)]], [(0, .inr (.inr (.ref 0))), (1, .inl (1, .ofNat 0)), (2, .inl (2, .ofNat 0))], [], []), [], [(false, .ofNat 4996, (0, .ofNat 0)), (false, .ofNat 11, (2, .ofNat 0)), (false, .ofNat 9000, (0, .ofNat 0)), (false, .ofNat 0, (0, .ofNat 0))])]
set_option maxRecDepth 100000 in
theorem qe85 : qck0 yT1 [qs39, qs45, qs83] qP 20000 [] qc85 qs85 = true := by decide +kernel
set_option maxRecDepth 100000 in
theorem qf85 : qc85.all (qck1 yT1 [qs39, qs45, qs83] qP 20000 [] qc85 qs85) = true := by decide +kernel
set_option maxRecDepth 100000 in
theorem qo85 : qOK yT1 86 1471 qs85 := qck_ok (m := 4) (qall_c qo39 (qall_c qo45 (qall_c qo83 qall_n))) rfl qe85 qf85 (by decide +kernel) (by decide +kernel)
def qc86 : List qCt := [((5, [[(.ofNat 0, .ofNat 0)], [(.ofNat 0, .ofNat 48)]], [(0, .inr (.inr (.ref 43))), (1, .inl (0, .ofNat 0)), (2, .inl (1, .ofNat 0)), (3, .inl (0, .ofNat 48))], [], []), [], [(false, .ofNat 4995, (0, .ofNat 0)), (false, .ofNat 49, (1, .ofNat 0)), (false, .ofNat 9000, (0, .ofNat 0)), (false, .ofNat 0, (0, .ofNat 0))])]
set_option maxRecDepth 100000 in
theorem qe86 : qck0 yT1 [] qP 20000 [] qc86 qs86 = true := by decide +kernel
set_option maxRecDepth 100000 in
theorem qf86 : qc86.all (qck1 yT1 [] qP 20000 [] qc86 qs86) = true := by decide +kernel
set_option maxRecDepth 100000 in
theorem qo86 : qOK yT1 86 1471 qs86 := qck_ok (m := 4) qall_n rfl qe86 qf86 (by decide +kernel) (by decide +kernel)
def qc87 : List qCt := [((2, [[(.ofNat 0, .ofNat 0)], [(.ofNat 0, .ofNat 8)]], [(0, .inr (.inr (.ref 40))), (1, .inr (.inr (.ref 19))), (2, .inl (1, .ofNat 0))], [], []), [], [(false, .ofNat 4998, (0, .ofNat 0)), (false, .ofNat 9, (1, .ofNat 0)), (false, .ofNat 9000, (0, .ofNat 0)), (false, .ofNat 0, (0, .ofNat 0))])]
set_option maxRecDepth 100000 in
theorem qe87 : qck0 yT1 [] qP 20000 [] qc87 qs87 = true := by decide +kernel
set_option maxRecDepth 100000 in
theorem qf87 : qc87.all (qck1 yT1 [] qP 20000 [] qc87 qs87) = true := by decide +kernel
set_option maxRecDepth 100000 in
theorem qo87 : qOK yT1 86 1471 qs87 := qck_ok (m := 4) qall_n rfl qe87 qf87 (by decide +kernel) (by decide +kernel)
def qc88 : List qCt := [((11, [[(.ofNat 0, .ofNat 0)], [(.ofNat 0, .ofNat 4)], [(.negSucc 2147483647, .ofNat 2147483647)], [(.ofNat 0, .ofNat 21)]], [(0, .inr (.inr (.ref 0))), (1, .inl (1, .ofNat 0)), (2, .inl (2, .ofNat 0)), (3, .inl (3, .ofNat 0))], [], []), [], [(false, .ofNat 4989, (0, .ofNat 0)), (false, .ofNat 22, (3, .ofNat 0)), (false, .ofNat 9000, (0, .ofNat 0)), (false, .ofNat 0, (0, .ofNat 0))])]
set_option maxRecDepth 100000 in
theorem qe88 : qck0 yT1 [qs86, qs39, qs45, qs83, qs87] qP 20000 [] qc88 qs88 = true := by decide +kernel
set_option maxRecDepth 100000 in
theorem qf88 : qc88.all (qck1 yT1 [qs86, qs39, qs45, qs83, qs87] qP 20000 [] qc88 qs88) = true := by decide +kernel
set_option maxRecDepth 100000 in
theorem qo88 : qOK yT1 86 1471 qs88 := qck_ok (m := 4) (qall_c qo86 (qall_c qo39 (qall_c qo45 (qall_c qo83 (qall_c qo87 qall_n))))) rfl qe88 qf88 (by decide +kernel) (by decide +kernel)
def qc89 : List qCt := [((4, [[(.ofNat 0, .ofNat 0)], [(.ofNat 0, .ofNat 7)], [(.ofNat 0, .ofNat 2147483647)], [(.ofNat 0, .ofNat 6)]], [(0, .inr (.inr (.ref 40))), (1, .inl (1, .ofNat 0)), (2, .inl (2, .ofNat 0)), (3, .inl (3, .ofNat 0))], [], []), [], [(false, .ofNat 4996, (0, .ofNat 0)), (false, .ofNat 7, (3, .ofNat 0)), (false, .ofNat 9000, (0, .ofNat 0)), (false, .ofNat 0, (0, .ofNat 0))])]
set_option maxRecDepth 100000 in
theorem qe89 : qck0 yT1 [] qP 20000 [] qc89 qs89 = true := by decide +kernel
set_option maxRecDepth 100000 in
theorem qf89 : qc89.all (qck1 yT1 [] qP 20000 [] qc89 qs89) = true := by decide +kernel
set_option maxRecDepth 100000 in
theorem qo89 : qOK yT1 86 1471 qs89 := qck_ok (m := 4) qall_n rfl qe89 qf89 (by decide +kernel) (by decide +kernel)
