/-! the methods are as their summaries say, 4 -/
def qc56_0 : List qCt := [((24, [[(0, 0)], [(0, 4)], [(0, 5)], [(3, 5)]], [(0, .inr (.inr (.ref 29))), (1, .inl (1, 0)), (2, .inl (0, 2)), (3, .inl (2, 0))], [], [((29, 3), .inl (3, 0))]), [], [(false, 4976, (0, 0)), (false, 6, (2, 0)), (false, 9000, (0, 0)), (false, 0, (0, 0))])]
def qc56 : List qCt := qc56_0
set_option maxRecDepth 100000 in
theorem qe56 : qck0 yT1 [qs46, qs45, qs55] qP 20000 [] qc56 qs56 = true := by decide +kernel
set_option maxRecDepth 100000 in
theorem qf56_0 : qc56_0.all (qck1 yT1 [qs46, qs45, qs55] qP 20000 [] qc56 qs56) = true := by decide +kernel
set_option maxRecDepth 100000 in
theorem qo56 : qOK yT1 86 1471 qs56 := qck_ok (m := 4) (qall_c qo46 (qall_c qo45 (qall_c qo55 qall_n))) rfl qe56 qf56_0 (by decide +kernel) (by decide +kernel)
def qc57_0 : List qCt := [((24, [[(0, 0)], [(0, 4)], [(0, 5)], [(2, 5)]], [(0, .inr (.inr (.ref 29))), (1, .inl (1, 0)), (2, .inl (0, 1)), (3, .inl (2, 0))], [], [((29, 3), .inl (3, 0))]), [], [(false, 4976, (0, 0)), (false, 6, (2, 0)), (false, 9000, (0, 0)), (false, 0, (0, 0))])]
def qc57 : List qCt := qc57_0
set_option maxRecDepth 100000 in
theorem qe57 : qck0 yT1 [qs46, qs45, qs56] qP 20000 [] qc57 qs57 = true := by decide +kernel
set_option maxRecDepth 100000 in
theorem qf57_0 : qc57_0.all (qck1 yT1 [qs46, qs45, qs56] qP 20000 [] qc57 qs57) = true := by decide +kernel
set_option maxRecDepth 100000 in
theorem qo57 : qOK yT1 86 1471 qs57 := qck_ok (m := 4) (qall_c qo46 (qall_c qo45 (qall_c qo56 qall_n))) rfl qe57 qf57_0 (by decide +kernel) (by decide +kernel)
def qc58_0 : List qCt := [((24, [[(0, 0)], [(0, 4)], [(0, 5)], [(1, 5)]], [(0, .inr (.inr (.ref 29))), (1, .inl (1, 0)), (2, .inl (0, 0)), (3, .inl (2, 0))], [], [((29, 3), .inl (3, 0))]), [], [(false, 4976, (0, 0)), (false, 6, (2, 0)), (false, 9000, (0, 0)), (false, 0, (0, 0))])]
def qc58 : List qCt := qc58_0
set_option maxRecDepth 100000 in
theorem qe58 : qck0 yT1 [qs46, qs45, qs57] qP 20000 [] qc58 qs58 = true := by decide +kernel
set_option maxRecDepth 100000 in
theorem qf58_0 : qc58_0.all (qck1 yT1 [qs46, qs45, qs57] qP 20000 [] qc58 qs58) = true := by decide +kernel
set_option maxRecDepth 100000 in
theorem qo58 : qOK yT1 86 1471 qs58 := qck_ok (m := 4) (qall_c qo46 (qall_c qo45 (qall_c qo57 qall_n))) rfl qe58 qf58_0 (by decide +kernel) (by decide +kernel)
def qc59_0 : List qCt := [((10, [[(0, 0)], [(0, 4)], [(0, 5)]], [(0, .inr (.inr (.ref 29))), (1, .inr (.inr (.ref 11))), (2, .inl (1, 0)), (3, .inl (2, 0))], [], []), [], [(false, 4990, (0, 0)), (false, 6, (2, 0)), (false, 9000, (0, 0)), (false, 0, (0, 0))])]
def qc59 : List qCt := qc59_0
set_option maxRecDepth 100000 in
theorem qe59 : qck0 yT1 [qs42, qs58] qP 20000 [] qc59 qs59 = true := by decide +kernel
set_option maxRecDepth 100000 in
theorem qf59_0 : qc59_0.all (qck1 yT1 [qs42, qs58] qP 20000 [] qc59 qs59) = true := by decide +kernel
set_option maxRecDepth 100000 in
theorem qo59 : qOK yT1 86 1471 qs59 := qck_ok (m := 4) (qall_c qo42 (qall_c qo58 qall_n)) rfl qe59 qf59_0 (by decide +kernel) (by decide +kernel)
def qc60 : List qCt := []
set_option maxRecDepth 100000 in
theorem qe60 : qck0 yT1 [qs59] qP 20000 [] qc60 qs60 = true := by decide +kernel
set_option maxRecDepth 100000 in
theorem qo60 : qOK yT1 86 1471 qs60 := qck_ok (m := 0) (qall_c qo59 qall_n) rfl qe60 rfl (by decide +kernel) (by decide +kernel)
def qc61_0 : List qCt := [((2, [[(0, 0)], [((-2147483648), 2147483647)], [(0, 5)]], [(0, .inr (.inr (.ref 20))), (1, .inl (1, 0)), (2, .inl (2, 0))], [], []), [], [(false, 4998, (0, 0)), (false, 6, (2, 0)), (false, 9000, (0, 0)), (false, 0, (0, 0))])]
def qc61 : List qCt := qc61_0
set_option maxRecDepth 100000 in
theorem qe61 : qck0 yT1 [] qP 20000 [] qc61 qs61 = true := by decide +kernel
set_option maxRecDepth 100000 in
theorem qf61_0 : qc61_0.all (qck1 yT1 [] qP 20000 [] qc61 qs61) = true := by decide +kernel
set_option maxRecDepth 100000 in
theorem qo61 : qOK yT1 86 1471 qs61 := qck_ok (m := 4) qall_n rfl qe61 qf61_0 (by decide +kernel) (by decide +kernel)
def qc62_0 : List qCt := [((18, [[(0, 0)], [(0, 1)], [(0, 31)], [((-1), 2147483647)], [(0, 32)]], [(0, .inr (.inr (.ref 0))), (1, .inl (1, 0)), (2, .inl (2, 0)), (3, .inl (3, 0)), (4, .inl (4, 0))], [], []), [], [(false, 4982, (0, 0)), (false, 33, (4, 0)), (false, 9000, (0, 0)), (false, 0, (0, 0))])]
def qc62 : List qCt := qc62_0
set_option maxRecDepth 100000 in
theorem qe62 : qck0 yT1 [qs32, qs61, qs37] qP 20000 [] qc62 qs62 = true := by decide +kernel
set_option maxRecDepth 100000 in
theorem qf62_0 : qc62_0.all (qck1 yT1 [qs32, qs61, qs37] qP 20000 [] qc62 qs62) = true := by decide +kernel
set_option maxRecDepth 100000 in
theorem qo62 : qOK yT1 86 1471 qs62 := qck_ok (m := 4) (qall_c qo32 (qall_c qo61 (qall_c qo37 qall_n))) rfl qe62 qf62_0 (by decide +kernel) (by decide +kernel)
