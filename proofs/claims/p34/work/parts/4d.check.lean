/-! the methods are as their summaries say, 3 -/
def qc52_0 : List qCt := [((22, [[(0, 0)], [((-2147483648), 2147483647)], [((-2147483648), 2147483647)], [(0, 5)], [(1, 5)]], [(0, .inr (.inr (.ref 29))), (1, .inl (1, 0)), (2, .inl (0, 0)), (3, .inl (2, 0)), (4, .inl (3, 0))], [], [((29, 3), .inl (4, 0))]), [], [(false, 4978, (0, 0)), (false, 6, (3, 0)), (false, 9000, (0, 0)), (false, 0, (0, 0))])]
def qc52 : List qCt := qc52_0
set_option maxRecDepth 100000 in
theorem qe52 : qck0 yT1 [qs44, qs45, qs46, qs51] qP 20000 [] qc52 qs52 = true := by decide +kernel
set_option maxRecDepth 100000 in
theorem qf52_0 : qc52_0.all (qck1 yT1 [qs44, qs45, qs46, qs51] qP 20000 [] qc52 qs52) = true := by decide +kernel
set_option maxRecDepth 100000 in
theorem qo52 : qOK yT1 86 1471 qs52 := qck_ok (m := 4) (qall_c qo44 (qall_c qo45 (qall_c qo46 (qall_c qo51 qall_n)))) rfl qe52 qf52_0 (by decide +kernel) (by decide +kernel)
def qc53 : List qCt := []
set_option maxRecDepth 100000 in
theorem qe53 : qck0 yT1 [qs42, qs43, qs52] qP 20000 [] qc53 qs53 = true := by decide +kernel
set_option maxRecDepth 100000 in
theorem qo53 : qOK yT1 86 1471 qs53 := qck_ok (m := 0) (qall_c qo42 (qall_c qo43 (qall_c qo52 qall_n))) rfl qe53 rfl (by decide +kernel) (by decide +kernel)
def qc54 : List qCt := []
set_option maxRecDepth 100000 in
theorem qe54 : qck0 yT1 [qs46] qP 20000 [] qc54 qs54 = true := by decide +kernel
set_option maxRecDepth 100000 in
theorem qo54 : qOK yT1 86 1471 qs54 := qck_ok (m := 0) (qall_c qo46 qall_n) rfl qe54 rfl (by decide +kernel) (by decide +kernel)
def qc55_0 : List qCt := [((24, [[(0, 0)], [(0, 4)], [(0, 5)], [(4, 5)]], [(0, .inr (.inr (.ref 29))), (1, .inl (1, 0)), (2, .inl (0, 3)), (3, .inl (2, 0))], [], [((29, 3), .inl (3, 0))]), [], [(false, 4976, (0, 0)), (false, 6, (2, 0)), (false, 9000, (0, 0)), (false, 0, (0, 0))])]
def qc55 : List qCt := qc55_0
set_option maxRecDepth 100000 in
theorem qe55 : qck0 yT1 [qs46, qs45, qs54] qP 20000 [] qc55 qs55 = true := by decide +kernel
set_option maxRecDepth 100000 in
theorem qf55_0 : qc55_0.all (qck1 yT1 [qs46, qs45, qs54] qP 20000 [] qc55 qs55) = true := by decide +kernel
set_option maxRecDepth 100000 in
theorem qo55 : qOK yT1 86 1471 qs55 := qck_ok (m := 4) (qall_c qo46 (qall_c qo45 (qall_c qo54 qall_n))) rfl qe55 qf55_0 (by decide +kernel) (by decide +kernel)
