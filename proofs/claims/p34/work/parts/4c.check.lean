/-! the methods are as their summaries say, 2 -/
def qc50_0 : List qCt := [((22, [[(0, 0)], [((-2147483648), 2147483647)], [((-2147483648), 2147483647)], [(0, 5)], [(3, 5)]], [(0, .inr (.inr (.ref 29))), (1, .inl (1, 0)), (2, .inl (0, 2)), (3, .inl (2, 0)), (4, .inl (3, 0))], [], [((29, 3), .inl (4, 0))]), [], [(false, 4978, (0, 0)), (false, 6, (3, 0)), (false, 9000, (0, 0)), (false, 0, (0, 0))])]
def qc50 : List qCt := qc50_0
set_option maxRecDepth 100000 in
theorem qe50 : qck0 yT1 [qs44, qs45, qs46, qs49] qP 20000 [] qc50 qs50 = true := by decide +kernel
set_option maxRecDepth 100000 in
theorem qf50_0 : qc50_0.all (qck1 yT1 [qs44, qs45, qs46, qs49] qP 20000 [] qc50 qs50) = true := by decide +kernel
set_option maxRecDepth 100000 in
theorem qo50 : qOK yT1 86 1471 qs50 := qck_ok (m := 4) (qall_c qo44 (qall_c qo45 (qall_c qo46 (qall_c qo49 qall_n)))) rfl qe50 qf50_0 (by decide +kernel) (by decide +kernel)
def qc51_0 : List qCt := [((22, [[(0, 0)], [((-2147483648), 2147483647)], [((-2147483648), 2147483647)], [(0, 5)], [(2, 5)]], [(0, .inr (.inr (.ref 29))), (1, .inl (1, 0)), (2, .inl (0, 1)), (3, .inl (2, 0)), (4, .inl (3, 0))], [], [((29, 3), .inl (4, 0))]), [], [(false, 4978, (0, 0)), (false, 6, (3, 0)), (false, 9000, (0, 0)), (false, 0, (0, 0))])]
def qc51 : List qCt := qc51_0
set_option maxRecDepth 100000 in
theorem qe51 : qck0 yT1 [qs44, qs45, qs46, qs50] qP 20000 [] qc51 qs51 = true := by decide +kernel
set_option maxRecDepth 100000 in
theorem qf51_0 : qc51_0.all (qck1 yT1 [qs44, qs45, qs46, qs50] qP 20000 [] qc51 qs51) = true := by decide +kernel
set_option maxRecDepth 100000 in
theorem qo51 : qOK yT1 86 1471 qs51 := qck_ok (m := 4) (qall_c qo44 (qall_c qo45 (qall_c qo46 (qall_c qo50 qall_n)))) rfl qe51 qf51_0 (by decide +kernel) (by decide +kernel)
