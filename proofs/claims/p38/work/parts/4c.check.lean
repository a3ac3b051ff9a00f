/-! the methods are as their summaries say, 2 -/
def qc53 : List qCt := [((5, [[(.ofNat 0, .ofNat 0)], [(.negSucc 2147483647, .ofNat 2147483647)], [(.negSucc 3, .negSucc 3), (.ofNat 0, .ofNat 4)], [(.ofNat 0, .ofNat 5)]], [(0, .inr (.inr (.ref 30))), (1, .inl (1, .ofNat 0)), (2, .inl (2, .ofNat 0)), (3, .inl (3, .ofNat 0))], [], []), [], [(false, .ofNat 4995, (0, .ofNat 0)), (false, .ofNat 6, (3, .ofNat 0)), (false, .ofNat 9000, (0, .ofNat 0)), (false, .ofNat 0, (0, .ofNat 0))])]
set_option maxRecDepth 100000 in
theorem qe53 : qck0 yT1 [] qP 20000 [] qc53 qs53 = true := by decide +kernel
set_option maxRecDepth 100000 in
theorem qf53 : qc53.all (qck1 yT1 [] qP 20000 [] qc53 qs53) = true := by decide +kernel
set_option maxRecDepth 100000 in
theorem qo53 : qOK yT1 86 1471 qs53 := qck_ok (m := 4) qall_n rfl qe53 qf53 (by decide +kernel) (by decide +kernel)
def qc54 : List qCt := [((5, [[(.ofNat 0, .ofNat 0)], [(.negSucc 3, .ofNat 99)], [(.ofNat 0, .ofNat 5)]], [(0, .inr (.inr (.ref 30))), (1, .inl (1, .ofNat 0)), (2, .inl (2, .ofNat 0))], [], []), [], [(false, .ofNat 4995, (0, .ofNat 0)), (false, .ofNat 6, (2, .ofNat 0)), (false, .ofNat 9000, (0, .ofNat 0)), (false, .ofNat 0, (0, .ofNat 0))])]
set_option maxRecDepth 100000 in
theorem qe54 : qck0 yT1 [] qP 20000 [] qc54 qs54 = true := by decide +kernel
set_option maxRecDepth 100000 in
theorem qf54 : qc54.all (qck1 yT1 [] qP 20000 [] qc54 qs54) = true := by decide +kernel
set_option maxRecDepth 100000 in
theorem qo54 : qOK yT1 86 1471 qs54 := qck_ok (m := 4) qall_n rfl qe54 qf54 (by decide +kernel) (by decide +kernel)
def qc55 : List qCt := []
set_option maxRecDepth 100000 in
theorem qe55 : qck0 yT1 [qs53, qs54] qP 20000 [] qc55 qs55 = true := by decide +kernel
set_option maxRecDepth 100000 in
theorem qf55 : qc55.all (qck1 yT1 [qs53, qs54] qP 20000 [] qc55 qs55) = true := by decide +kernel
set_option maxRecDepth 100000 in
theorem qo55 : qOK yT1 86 1471 qs55 := qck_ok (m := 0) (qall_c qo53 (qall_c qo54 qall_n)) rfl qe55 qf55 (by decide +kernel) (by decide +kernel)
def qc56 : List qCt := []
set_option maxRecDepth 100000 in
theorem qe56 : qck0 yT1 [qs52] qP 20000 [] qc56 qs56 = true := by decide +kernel
set_option maxRecDepth 100000 in
theorem qf56 : qc56.all (qck1 yT1 [qs52] qP 20000 [] qc56 qs56) = true := by decide +kernel
set_option maxRecDepth 100000 in
theorem qo56 : qOK yT1 86 1471 qs56 := qck_ok (m := 0) (qall_c qo52 qall_n) rfl qe56 qf56 (by decide +kernel) (by decide +kernel)
def qc57 : List qCt := [((22, [[(.ofNat 0, .ofNat 0)], [(.negSucc 2147483647, .ofNat 2147483647)], [(.negSucc 2147483647, .ofNat 2147483647)], [(.ofNat 0, .ofNat 5)]], [(0, .inr (.inr (.ref 29))), (1, .inl (1, .ofNat 0)), (2, .inl (0, .ofNat 4)), (3, .inl (2, .ofNat 0)), (4, .inl (3, .ofNat 0))], [], [((29, 3), .inl (0, .ofNat 5))]), [], [(false, .ofNat 4978, (0, .ofNat 0)), (false, .ofNat 6, (3, .ofNat 0)), (false, .ofNat 9000, (0, .ofNat 0)), (false, .ofNat 0, (0, .ofNat 0))])]
set_option maxRecDepth 100000 in
theorem qe57 : qck0 yT1 [qs52, qs55, qs56] qP 20000 [] qc57 qs57 = true := by decide +kernel
set_option maxRecDepth 100000 in
theorem qf57 : qc57.all (qck1 yT1 [qs52, qs55, qs56] qP 20000 [] qc57 qs57) = true := by decide +kernel
set_option maxRecDepth 100000 in
theorem qo57 : qOK yT1 86 1471 qs57 := qck_ok (m := 4) (qall_c qo52 (qall_c qo55 (qall_c qo56 qall_n))) rfl qe57 qf57 (by decide +kernel) (by decide +kernel)
def qc58 : List qCt := [((22, [[(.ofNat 0, .ofNat 0)], [(.negSucc 2147483647, .ofNat 2147483647)], [(.negSucc 2147483647, .ofNat 2147483647)], [(.ofNat 0, .ofNat 5)], [(.ofNat 4, .ofNat 5)]], [(0, .inr (.inr (.ref 29))), (1, .inl (1, .ofNat 0)), (2, .inl (0, .ofNat 3)), (3, .inl (2, .ofNat 0)), (4, .inl (3, .ofNat 0))], [], [((29, 3), .inl (4, .ofNat 0))]), [], [(false, .ofNat 4978, (0, .ofNat 0)), (false, .ofNat 6, (3, .ofNat 0)), (false, .ofNat 9000, (0, .ofNat 0)), (false, .ofNat 0, (0, .ofNat 0))])]
set_option maxRecDepth 100000 in
theorem qe58 : qck0 yT1 [qs52, qs55, qs57] qP 20000 [] qc58 qs58 = true := by decide +kernel
set_option maxRecDepth 100000 in
theorem qf58 : qc58.all (qck1 yT1 [qs52, qs55, qs57] qP 20000 [] qc58 qs58) = true := by decide +kernel
set_option maxRecDepth 100000 in
theorem qo58 : qOK yT1 86 1471 qs58 := qck_ok (m := 4) (qall_c qo52 (qall_c qo55 (qall_c qo57 qall_n))) rfl qe58 qf58 (by decide +kernel) (by decide +kernel)
def qc59 : List qCt := [((22, [[(.ofNat 0, .ofNat 0)], [(.negSucc 2147483647, .ofNat 2147483647)], [(.negSucc 2147483647, .ofNat 2147483647)], [(.ofNat 0, .ofNat 5)], [(.ofNat 3, .ofNat 5)]], [(0, .inr (.inr (.ref 29))), (1, .inl (1, .ofNat 0)), (2, .inl (0, .ofNat 2)), (3, .inl (2, .ofNat 0)), (4, .inl (3, .ofNat 0))], [], [((29, 3), .inl (4, .ofNat 0))]), [], [(false, .ofNat 4978, (0, .ofNat 0)), (false, .ofNat 6, (3, .ofNat 0)), (false, .ofNat 9000, (0, .ofNat 0)), (false, .ofNat 0, (0, .ofNat 0))])]
set_option maxRecDepth 100000 in
theorem qe59 : qck0 yT1 [qs52, qs55, qs58] qP 20000 [] qc59 qs59 = true := by decide +kernel
set_option maxRecDepth 100000 in
theorem qf59 : qc59.all (qck1 yT1 [qs52, qs55, qs58] qP 20000 [] qc59 qs59) = true := by decide +kernel
set_option maxRecDepth 100000 in
theorem qo59 : qOK yT1 86 1471 qs59 := qck_ok (m := 4) (qall_c qo52 (qall_c qo55 (qall_c qo58 qall_n))) rfl qe59 qf59 (by decide +kernel) (by decide +kernel)
def qc60 : List qCt := [((22, [[(.ofNat 0, .ofNat 0)], [(.negSucc 2147483647, .ofNat 2147483647)], [(.negSucc 2147483647, .ofNat 2147483647)], [(.ofNat 0, .ofNat 5)], [(.ofNat 2, .ofNat 5)]], [(0, .inr (.inr (.ref 29))), (1, .inl (1, .ofNat 0)), (2, .inl (0, .ofNat 1)), (3, .inl (2, .ofNat 0)), (4, .inl (3, .ofNat 0))], [], [((29, 3), .inl (4, .ofNat 0))]), [], [(false, .ofNat 4978, (0, .ofNat 0)), (false, .ofNat 6, (3, .ofNat 0)), (false, .ofNat 9000, (0, .ofNat 0)), (false, .ofNat 0, (0, .ofNat 0))])]
set_option maxRecDepth 100000 in
theorem qe60 : qck0 yT1 [qs52, qs55, qs59] qP 20000 [] qc60 qs60 = true := by decide +kernel
set_option maxRecDepth 100000 in
theorem qf60 : qc60.all (qck1 yT1 [qs52, qs55, qs59] qP 20000 [] qc60 qs60) = true := by decide +kernel
set_option maxRecDepth 100000 in
theorem qo60 : qOK yT1 86 1471 qs60 := qck_ok (m := 4) (qall_c qo52 (qall_c qo55 (qall_c qo59 qall_n))) rfl qe60 qf60 (by decide +kernel) (by decide +kernel)
def qc61 : List qCt := [((22, [[(.ofNat 0, .ofNat 0)], [(.negSucc 2147483647, .ofNat 2147483647)], [(.negSucc 2147483647, .ofNat 2147483647)], [(.ofNat 0, .ofNat 5)], [(.ofNat 1, .ofNat 5)]], [(0, .inr (.inr (.ref 29))), (1, .inl (1, .ofNat 0)), (2, .inl (0, .ofNat 0)), (3, .inl (2, .ofNat 0)), (4, .inl (3, .ofNat 0))], [], [((29, 3), .inl (4, .ofNat 0))]), [], [(false, .ofNat 4978, (0, .ofNat 0)), (false, .ofNat 6, (3, .ofNat 0)), (false, .ofNat 9000, (0, .ofNat 0)), (false, .ofNat 0, (0, .ofNat 0))])]
set_option maxRecDepth 100000 in
theorem qe61 : qck0 yT1 [qs52, qs55, qs60] qP 20000 [] qc61 qs61 = true := by decide +kernel
set_option maxRecDepth 100000 in
theorem qf61 : qc61.all (qck1 yT1 [qs52, qs55, qs60] qP 20000 [] qc61 qs61) = true := by decide +kernel
set_option maxRecDepth 100000 in
theorem qo61 : qOK yT1 86 1471 qs61 := qck_ok (m := 4) (qall_c qo52 (qall_c qo55 (qall_c qo60 qall_n))) rfl qe61 qf61 (by decide +kernel) (by decide +kernel)
def qc62 : List qCt := []
set_option maxRecDepth 100000 in
theorem qe62 : qck0 yT1 [qs50, qs51, qs61] qP 20000 [] qc62 qs62 = true := by decide +kernel
set_option maxRecDepth 100000 in
theorem qf62 : qc62.all (qck1 yT1 [qs50, qs51, qs61] qP 20000 [] qc62 qs62) = true := by decide +kernel
set_option maxRecDepth 100000 in
theorem qo62 : qOK yT1 86 1471 qs62 := qck_ok (m := 0) (qall_c qo50 (qall_c qo51 (qall_c qo61 qall_n))) rfl qe62 qf62 (by decide +kernel) (by decide +kernel)
def qc63 : List qCt := []
set_option maxRecDepth 100000 in
theorem qe63 : qck0 yT1 [qs54] qP 20000 [] qc63 qs63 = true := by decide +kernel
set_option maxRecDepth 100000 in
theorem qf63 : qc63.all (qck1 yT1 [qs54] qP 20000 [] qc63 qs63) = true := by decide +kernel
set_option maxRecDepth 100000 in
theorem qo63 : qOK yT1 86 1471 qs63 := qck_ok (m := 0) (qall_c qo54 qall_n) rfl qe63 qf63 (by decide +kernel) (by decide +kernel)
def qc64 : List qCt := []
set_option maxRecDepth 100000 in
theorem qe64 : qck0 yT1 [qs63] qP 20000 [] qc64 qs64 = true := by decide +kernel
set_option maxRecDepth 100000 in
theorem qf64 : qc64.all (qck1 yT1 [qs63] qP 20000 [] qc64 qs64) = true := by decide +kernel
set_option maxRecDepth 100000 in
theorem qo64 : qOK yT1 86 1471 qs64 := qck_ok (m := 0) (qall_c qo63 qall_n) rfl qe64 qf64 (by decide +kernel) (by decide +kernel)
def qc65 : List qCt := [((24, [[(.ofNat 0, .ofNat 0)], [(.ofNat 0, .ofNat 4)], [(.ofNat 0, .ofNat 5)], [(.ofNat 4, .ofNat 5)]], [(0, .inr (.inr (.ref 29))), (1, .inl (1, .ofNat 0)), (2, .inl (0, .ofNat 3)), (3, .inl (2, .ofNat 0))], [], [((29, 3), .inl (3, .ofNat 0))]), [], [(false, .ofNat 4976, (0, .ofNat 0)), (false, .ofNat 6, (2, .ofNat 0)), (false, .ofNat 9000, (0, .ofNat 0)), (false, .ofNat 0, (0, .ofNat 0))])]
set_option maxRecDepth 100000 in
theorem qe65 : qck0 yT1 [qs63, qs55, qs64] qP 20000 [] qc65 qs65 = true := by decide +kernel
set_option maxRecDepth 100000 in
theorem qf65 : qc65.all (qck1 yT1 [qs63, qs55, qs64] qP 20000 [] qc65 qs65) = true := by decide +kernel
set_option maxRecDepth 100000 in
theorem qo65 : qOK yT1 86 1471 qs65 := qck_ok (m := 4) (qall_c qo63 (qall_c qo55 (qall_c qo64 qall_n))) rfl qe65 qf65 (by decide +kernel) (by decide +kernel)
def qc66 : List qCt := [((24, [[(.ofNat 0, .ofNat 0)], [(.ofNat 0, .ofNat 4)], [(.ofNat 0, .ofNat 5)], [(.ofNat 3, .ofNat 5)]], [(0, .inr (.inr (.ref 29))), (1, .inl (1, .ofNat 0)), (2, .inl (0, .ofNat 2)), (3, .inl (2, .ofNat 0))], [], [((29, 3), .inl (3, .ofNat 0))]), [], [(false, .ofNat 4976, (0, .ofNat 0)), (false, .ofNat 6, (2, .ofNat 0)), (false, .ofNat 9000, (0, .ofNat 0)), (false, .ofNat 0, (0, .ofNat 0))])]
set_option maxRecDepth 100000 in
theorem qe66 : qck0 yT1 [qs63, qs55, qs65] qP 20000 [] qc66 qs66 = true := by decide +kernel
set_option maxRecDepth 100000 in
theorem qf66 : qc66.all (qck1 yT1 [qs63, qs55, qs65] qP 20000 [] qc66 qs66) = true := by decide +kernel
set_option maxRecDepth 100000 in
theorem qo66 : qOK yT1 86 1471 qs66 := qck_ok (m := 4) (qall_c qo63 (qall_c qo55 (qall_c qo65 qall_n))) rfl qe66 qf66 (by decide +kernel) (by decide +kernel)
