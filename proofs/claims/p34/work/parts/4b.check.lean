/-! the methods are as their summaries say, 1 -/
def qc59_0 : List qCt := [((22, [[(.ofNat 0, .ofNat 0)], [(.negSucc 2147483647, .ofNat 2147483647)], [(.negSucc 2147483647, .ofNat 2147483647)], [(.ofNat 0, .ofNat 5)], [(.ofNat 3, .ofNat 5)]], [(0, .inr (.inr (.ref 29))), (1, .inl (1, .ofNat 0)), (2, .inl (0, .ofNat 2)), (3, .inl (2, .ofNat 0)), (4, .inl (3, .ofNat 0))], [], [((29, 3), .inl (4, .ofNat 0))]), [], [(false, .ofNat 4978, (0, .ofNat 0)), (false, .ofNat 6, (3, .ofNat 0)), (false, .ofNat 9000, (0, .ofNat 0)), (false, .ofNat 0, (0, .ofNat 0))])]
def qc59 : List qCt := qc59_0
set_option maxRecDepth 100000 in
theorem qe59 : qck0 yT1 [qs52, qs55, qs58] qP 20000 [] qc59 qs59 = true := by decide +kernel
set_option maxRecDepth 100000 in
theorem qf59_0 : qc59_0.all (qck1 yT1 [qs52, qs55, qs58] qP 20000 [] qc59 qs59) = true := by decide +kernel
set_option maxRecDepth 100000 in
theorem qo59 : qOK yT1 86 1471 qs59 := qck_ok (m := 4) (qall_c qo52 (qall_c qo55 (qall_c qo58 qall_n))) rfl qe59 qf59_0 (by decide +kernel) (by decide +kernel)
def qc60_0 : List qCt := [((22, [[(.ofNat 0, .ofNat 0)], [(.negSucc 2147483647, .ofNat 2147483647)], [(.negSucc 2147483647, .ofNat 2147483647)], [(.ofNat 0, .ofNat 5)], [(.ofNat 2, .ofNat 5)]], [(0, .inr (.inr (.ref 29))), (1, .inl (1, .ofNat 0)), (2, .inl (0, .ofNat 1)), (3, .inl (2, .ofNat 0)), (4, .inl (3, .ofNat 0))], [], [((29, 3), .inl (4, .ofNat 0))]), [], [(false, .ofNat 4978, (0, .ofNat 0)), (false, .ofNat 6, (3, .ofNat 0)), (false, .ofNat 9000, (0, .ofNat 0)), (false, .ofNat 0, (0, .ofNat 0))])]
def qc60 : List qCt := qc60_0
set_option maxRecDepth 100000 in
theorem qe60 : qck0 yT1 [qs52, qs55, qs59] qP 20000 [] qc60 qs60 = true := by decide +kernel
set_option maxRecDepth 100000 in
theorem qf60_0 : qc60_0.all (qck1 yT1 [qs52, qs55, qs59] qP 20000 [] qc60 qs60) = true := by decide +kernel
set_option maxRecDepth 100000 in
theorem qo60 : qOK yT1 86 1471 qs60 := qck_ok (m := 4) (qall_c qo52 (qall_c qo55 (qall_c qo59 qall_n))) rfl qe60 qf60_0 (by decide +kernel) (by decide +kernel)
def qc61_0 : List qCt := [((22, [[(.ofNat 0, .ofNat 0)], [(.negSucc 2147483647, .ofNat 2147483647)], [(.negSucc 2147483647, .ofNat 2147483647)], [(.ofNat 0, .ofNat 5)], [(.ofNat 1, .ofNat 5)]], [(0, .inr (.inr (.ref 29))), (1, .inl (1, .ofNat 0)), (2, .inl (0, .ofNat 0)), (3, .inl (2, .ofNat 0)), (4, .inl (3, .ofNat 0))], [], [((29, 3), .inl (4, .ofNat 0))]), [], [(false, .ofNat 4978, (0, .ofNat 0)), (false, .ofNat 6, (3, .ofNat 0)), (false, .ofNat 9000, (0, .ofNat 0)), (false, .ofNat 0, (0, .ofNat 0))])]
def qc61 : List qCt := qc61_0
set_option maxRecDepth 100000 in
theorem qe61 : qck0 yT1 [qs52, qs55, qs60] qP 20000 [] qc61 qs61 = true := by decide +kernel
set_option maxRecDepth 100000 in
theorem qf61_0 : qc61_0.all (qck1 yT1 [qs52, qs55, qs60] qP 20000 [] qc61 qs61) = true := by decide +kernel
set_option maxRecDepth 100000 in
theorem qo61 : qOK yT1 86 1471 qs61 := qck_ok (m := 4) (qall_c qo52 (qall_c qo55 (qall_c qo60 qall_n))) rfl qe61 qf61_0 (by decide +kernel) (by decide +kernel)
def qc62 : List qCt := []
set_option maxRecDepth 100000 in
theorem qe62 : qck0 yT1 [qs50, qs51, qs61] qP 20000 [] qc62 qs62 = true := by decide +kernel
set_option maxRecDepth 100000 in
theorem qo62 : qOK yT1 86 1471 qs62 := qck_ok (m := 0) (qall_c qo50 (qall_c qo51 (qall_c qo61 qall_n))) rfl qe62 rfl (by decide +kernel) (by decide +kernel)
def qc63 : List qCt := []
set_option maxRecDepth 100000 in
theorem qe63 : qck0 yT1 [qs54] qP 20000 [] qc63 qs63 = true := by decide +kernel
set_option maxRecDepth 100000 in
theorem qo63 : qOK yT1 86 1471 qs63 := qck_ok (m := 0) (qall_c qo54 qall_n) rfl qe63 rfl (by decide +kernel) (by decide +kernel)
def qc64 : List qCt := []
set_option maxRecDepth 100000 in
theorem qe64 : qck0 yT1 [qs63] qP 20000 [] qc64 qs64 = true := by decide +kernel
set_option maxRecDepth 100000 in
theorem qo64 : qOK yT1 86 1471 qs64 := qck_ok (m := 0) (qall_c qo63 qall_n) rfl qe64 rfl (by decide +kernel) (by decide +kernel)
def qc65_0 : List qCt := [((24, [[(.ofNat 0, .ofNat 0)], [(.ofNat 0, .ofNat 4)], [(.ofNat 0, .ofNat 5)], [(.ofNat 4, .ofNat 5)]], [(0, .inr (.inr (.ref 29))), (1, .inl (1, .ofNat 0)), (2, .inl (0, .ofNat 3)), (3, .inl (2, .ofNat 0))], [], [((29, 3), .inl (3, .ofNat 0))]), [], [(false, .ofNat 4976, (0, .ofNat 0)), (false, .ofNat 6, (2, .ofNat 0)), (false, .ofNat 9000, (0, .ofNat 0)), (false, .ofNat 0, (0, .ofNat 0))])]
def qc65 : List qCt := qc65_0
set_option maxRecDepth 100000 in
theorem qe65 : qck0 yT1 [qs63, qs55, qs64] qP 20000 [] qc65 qs65 = true := by decide +kernel
set_option maxRecDepth 100000 in
theorem qf65_0 : qc65_0.all (qck1 yT1 [qs63, qs55, qs64] qP 20000 [] qc65 qs65) = true := by decide +kernel
set_option maxRecDepth 100000 in
theorem qo65 : qOK yT1 86 1471 qs65 := qck_ok (m := 4) (qall_c qo63 (qall_c qo55 (qall_c qo64 qall_n))) rfl qe65 qf65_0 (by decide +kernel) (by decide +kernel)
def qc66_0 : List qCt := [((24, [[(.ofNat 0, .ofNat 0)], [(.ofNat 0, .ofNat 4)], [(.ofNat 0, .ofNat 5)], [(.ofNat 3, .ofNat 5)]], [(0, .inr (.inr (.ref 29))), (1, .inl (1, .ofNat 0)), (2, .inl (0, .ofNat 2)), (3, .inl (2, .ofNat 0))], [], [((29, 3), .inl (3, .ofNat 0))]), [], [(false, .ofNat 4976, (0, .ofNat 0)), (false, .ofNat 6, (2, .ofNat 0)), (false, .ofNat 9000, (0, .ofNat 0)), (false, .ofNat 0, (0, .ofNat 0))])]
def qc66 : List qCt := qc66_0
set_option maxRecDepth 100000 in
theorem qe66 : qck0 yT1 [qs63, qs55, qs65] qP 20000 [] qc66 qs66 = true := by decide +kernel
set_option maxRecDepth 100000 in
theorem qf66_0 : qc66_0.all (qck1 yT1 [qs63, qs55, qs65] qP 20000 [] qc66 qs66) = true := by decide +kernel
set_option maxRecDepth 100000 in
theorem qo66 : qOK yT1 86 1471 qs66 := qck_ok (m := 4) (qall_c qo63 (qall_c qo55 (qall_c qo65 qall_n))) rfl qe66 qf66_0 (by decide +kernel) (by decide +kernel)
def qc67_0 : List qCt := [((24, [[(.ofNat 0, .ofNat 0)], [(.ofNat 0, .ofNat 4)], [(.ofNat 0, .ofNat 5)], [(.ofNat 2, .ofNat 5)]], [(0, .inr (.inr (.ref 29))), (1, .inl (1, .ofNat 0)), (2, .inl (0, .ofNat 1)), (3, .inl (2, .ofNat 0))], [], [((29, 3), .inl (3, .ofNat 0))]), [], [(false, .ofNat 4976, (0, .ofNat 0)), (false, .ofNat 6, (2, .ofNat 0)), (false, .ofNat 9000, (0, .ofNat 0)), (false, .ofNat 0, (0, .ofNat 0))])]
def qc67 : List qCt := qc67_0
set_option maxRecDepth 100000 in
theorem qe67 : qck0 yT1 [qs63, qs55, qs66] qP 20000 [] qc67 qs67 = true := by decide +kernel
set_option maxRecDepth 100000 in
theorem qf67_0 : qc67_0.all (qck1 yT1 [qs63, qs55, qs66] qP 20000 [] qc67 qs67) = true := by decide +kernel
set_option maxRecDepth 100000 in
theorem qo67 : qOK yT1 86 1471 qs67 := qck_ok (m := 4) (qall_c qo63 (qall_c qo55 (qall_c qo66 qall_n))) rfl qe67 qf67_0 (by decide +kernel) (by decide +kernel)
def qc68_0 : List qCt := [((24, [[(.ofNat 0, .ofNat 0)], [(.ofNat 0, .ofNat 4)], [(.ofNat 0, .ofNat 5)], [(.ofNat 1, .ofNat 5)]], [(0, .inr (.inr (.ref 29))), (1, .inl (1, .ofNat 0)), (2, .inl (0, .ofNat 0)), (3, .inl (2, .ofNat 0))], [], [((29, 3), .inl (3, .ofNat 0))]), [], [(false, .ofNat 4976, (0, .ofNat 0)), (false, .ofNat 6, (2, .ofNat 0)), (false, .ofNat 9000, (0, .ofNat 0)), (false, .ofNat 0, (0, .ofNat 0))])]
def qc68 : List qCt := qc68_0
set_option maxRecDepth 100000 in
theorem qe68 : qck0 yT1 [qs63, qs55, qs67] qP 20000 [] qc68 qs68 = true := by decide +kernel
set_option maxRecDepth 100000 in
theorem qf68_0 : qc68_0.all (qck1 yT1 [qs63, qs55, qs67] qP 20000 [] qc68 qs68) = true := by decide +kernel
set_option maxRecDepth 100000 in
theorem qo68 : qOK yT1 86 1471 qs68 := qck_ok (m := 4) (qall_c qo63 (qall_c qo55 (qall_c qo67 qall_n))) rfl qe68 qf68_0 (by decide +kernel) (by decide +kernel)
def qc69_0 : List qCt := [((10, [[(.ofNat 0, .ofNat 0)], [(.ofNat 0, .ofNat 4)], [(.ofNat 0, .ofNat 5)]], [(0, .inr (.inr (.ref 29))), (1, .inr (.inr (.ref 11))), (2, .inl (1, .ofNat 0)), (3, .inl (2, .ofNat 0))], [], []), [], [(false, .ofNat 4990, (0, .ofNat 0)), (false, .ofNat 6, (2, .ofNat 0)), (false, .ofNat 9000, (0, .ofNat 0)), (false, .ofNat 0, (0, .ofNat 0))])]
def qc69 : List qCt := qc69_0
set_option maxRecDepth 100000 in
theorem qe69 : qck0 yT1 [qs50, qs68] qP 20000 [] qc69 qs69 = true := by decide +kernel
set_option maxRecDepth 100000 in
theorem qf69_0 : qc69_0.all (qck1 yT1 [qs50, qs68] qP 20000 [] qc69 qs69) = true := by decide +kernel
set_option maxRecDepth 100000 in
theorem qo69 : qOK yT1 86 1471 qs69 := qck_ok (m := 4) (qall_c qo50 (qall_c qo68 qall_n)) rfl qe69 qf69_0 (by decide +kernel) (by decide +kernel)
def qc70 : List qCt := []
set_option maxRecDepth 100000 in
theorem qe70 : qck0 yT1 [qs69] qP 20000 [] qc70 qs70 = true := by decide +kernel
set_option maxRecDepth 100000 in
theorem qo70 : qOK yT1 86 1471 qs70 := qck_ok (m := 0) (qall_c qo69 qall_n) rfl qe70 rfl (by decide +kernel) (by decide +kernel)
def qc71_0 : List qCt := [((2, [[(.ofNat 0, .ofNat 0)], [(.negSucc 2147483647, .ofNat 2147483647)], [(.ofNat 0, .ofNat 5)]], [(0, .inr (.inr (.ref 20))), (1, .inl (1, .ofNat 0)), (2, .inl (2, .ofNat 0))], [], []), [], [(false, .ofNat 4998, (0, .ofNat 0)), (false, .ofNat 6, (2, .ofNat 0)), (false, .ofNat 9000, (0, .ofNat 0)), (false, .ofNat 0, (0, .ofNat 0))])]
def qc71 : List qCt := qc71_0
set_option maxRecDepth 100000 in
theorem qe71 : qck0 yT1 [] qP 20000 [] qc71 qs71 = true := by decide +kernel
set_option maxRecDepth 100000 in
theorem qf71_0 : qc71_0.all (qck1 yT1 [] qP 20000 [] qc71 qs71) = true := by decide +kernel
set_option maxRecDepth 100000 in
theorem qo71 : qOK yT1 86 1471 qs71 := qck_ok (m := 4) qall_n rfl qe71 qf71_0 (by decide +kernel) (by decide +kernel)
def qc72_0 : List qCt := [((18, [[(.ofNat 0, .ofNat 0)], [(.ofNat 0, .ofNat 1)], [(.ofNat 0, .ofNat 31)], [(.negSucc 0, .ofNat 2147483647)], [(.ofNat 0, .ofNat 32)]], [(0, .inr (.inr (.ref 0))), (1, .inl (1, .ofNat 0)), (2, .inl (2, .ofNat 0)), (3, .inl (3, .ofNat 0)), (4, .inl (4, .ofNat 0))], [], []), [], [(false, .ofNat 4982, (0, .ofNat 0)), (false, .ofNat 33, (4, .ofNat 0)), (false, .ofNat 9000, (0, .ofNat 0)), (false, .ofNat 0, (0, .ofNat 0))])]
def qc72 : List qCt := qc72_0
set_option maxRecDepth 100000 in
theorem qe72 : qck0 yT1 [qs39, qs71, qs45] qP 20000 [] qc72 qs72 = true := by decide +kernel
set_option maxRecDepth 100000 in
theorem qf72_0 : qc72_0.all (qck1 yT1 [qs39, qs71, qs45] qP 20000 [] qc72 qs72) = true := by decide +kernel
set_option maxRecDepth 100000 in
theorem qo72 : qOK yT1 86 1471 qs72 := qck_ok (m := 4) (qall_c qo39 (qall_c qo71 (qall_c qo45 qall_n))) rfl qe72 qf72_0 (by decide +kernel) (by decide +kernel)
def qc73_0 : List qCt := [((22, [[(.ofNat 0, .ofNat 0)], [(.ofNat 0, .ofNat 1)], [(.negSucc 3, .negSucc 3), (.ofNat 0, .ofNat 4)], [(.negSucc 2147483647, .ofNat 2147483647)], [(.ofNat 0, .ofNat 5)]], [(0, .inr (.inr (.ref 0))), (1, .inl (1, .ofNat 0)), (2, .inl (2, .ofNat 0)), (3, .inl (3, .ofNat 0)), (4, .inl (4, .ofNat 0))], [], []), [], [(false, .ofNat 4978, (0, .ofNat 0)), (false, .ofNat 6, (4, .ofNat 0)), (false, .ofNat 9000, (0, .ofNat 0)), (false, .ofNat 0, (0, .ofNat 0))])]
def qc73 : List qCt := qc73_0
set_option maxRecDepth 100000 in
theorem qe73 : qck0 yT1 [qs39, qs45] qP 20000 [] qc73 qs73 = true := by decide +kernel
set_option maxRecDepth 100000 in
theorem qf73_0 : qc73_0.all (qck1 yT1 [qs39, qs45] qP 20000 [] qc73 qs73) = true := by decide +kernel
set_option maxRecDepth 100000 in
theorem qo73 : qOK yT1 86 1471 qs73 := qck_ok (m := 4) (qall_c qo39 (qall_c qo45 qall_n)) rfl qe73 qf73_0 (by decide +kernel) (by decide +kernel)
def qc74_0 : List qCt := [((22, [[(.ofNat 0, .ofNat 0)], [(.ofNat 0, .ofNat 1)], [(.negSucc 3, .negSucc 3), (.ofNat 1, .ofNat 4), (.ofNat 11, .ofNat 14), (.ofNat 21, .ofNat 26), (.ofNat 31, .ofNat 39), (.ofNat 41, .ofNat 47)], [(.negSucc 2147483647, .ofNat 2147483647)], [(.ofNat 0, .ofNat 5)]], [(0, .inr (.inr (.ref 0))), (1, .inl (1, .ofNat 0)), (2, .inl (2, .ofNat 0)), (3, .inl (3, .ofNat 0)), (4, .inl (4, .ofNat 0))], [], []), [], [(false, .ofNat 4978, (0, .ofNat 0)), (false, .ofNat 6, (4, .ofNat 0)), (false, .ofNat 9000, (0, .ofNat 0)), (false, .ofNat 0, (0, .ofNat 0)), (false, .ofNat 9000, (0, .ofNat 0)), (false, .ofNat 0, (0, .ofNat 0))])]
def qc74_1 : List qCt := [((40, [[(.ofNat 0, .ofNat 0)], [(.ofNat 0, .ofNat 1)], [(.negSucc 3, .negSucc 3), (.ofNat 1, .ofNat 4), (.ofNat 11, .ofNat 14), (.ofNat 21, .ofNat 26), (.ofNat 31, .ofNat 39), (.ofNat 41, .ofNat 47)], [(.negSucc 2147483647, .ofNat 2147483647)], [(.ofNat 0, .ofNat 4)], [(.ofNat 1, .ofNat 5)], [(.ofNat 1, .ofNat 5)]], [(0, .inr (.inr (.ref 0))), (1, .inl (1, .ofNat 0)), (2, .inl (2, .ofNat 0)), (3, .inl (3, .ofNat 0)), (4, .inl (4, .ofNat 0)), (5, .inl (5, .ofNat 0))], [], [((11, 2), .inl (6, .ofNat 0))]), [], [(false, .ofNat 4978, (0, .ofNat 0)), (false, .ofNat 6, (4, .ofNat 0)), (false, .ofNat 4960, (0, .ofNat 0)), (false, .ofNat 6, (5, .ofNat 0)), (false, .ofNat 9000, (0, .ofNat 0)), (false, .ofNat 0, (0, .ofNat 0))])]
def qc74 : List qCt := qc74_0 ++ qc74_1
set_option maxRecDepth 100000 in
theorem qe74 : qck0 yT1 [qs39, qs45] qP 20000 [] qc74 qs74 = true := by decide +kernel
set_option maxRecDepth 100000 in
theorem qf74_0 : qc74_0.all (qck1 yT1 [qs39, qs45] qP 20000 [] qc74 qs74) = true := by decide +kernel
set_option maxRecDepth 100000 in
theorem qf74_1 : qc74_1.all (qck1 yT1 [qs39, qs45] qP 20000 [] qc74 qs74) = true := by decide +kernel
set_option maxRecDepth 100000 in
theorem qo74 : qOK yT1 86 1471 qs74 := qck_ok (m := 6) (qall_c qo39 (qall_c qo45 qall_n)) rfl qe74 (by unfold qc74; simp only [List.all_append, Bool.and_eq_true]; exact ⟨qf74_0, qf74_1⟩) (by decide +kernel) (by decide +kernel)
def qc75_0 : List qCt := [((2, [[(.ofNat 0, .ofNat 0)], [(.ofNat 0, .ofNat 10)]], [(0, .inr (.inr (.ref 0))), (1, .inl (1, .ofNat 0))], [], []), [], [(false, .ofNat 4998, (0, .ofNat 0)), (false, .ofNat 11, (1, .ofNat 0)), (false, .ofNat 9000, (0, .ofNat 0)), (false, .ofNat 0, (0, .ofNat 0))])]
def qc75 : List qCt := qc75_0
set_option maxRecDepth 100000 in
theorem qe75 : qck0 yT1 [qs39, qs45] qP 20000 [] qc75 qs75 = true := by decide +kernel
set_option maxRecDepth 100000 in
theorem qf75_0 : qc75_0.all (qck1 yT1 [qs39, qs45] qP 20000 [] qc75 qs75) = true := by decide +kernel
set_option maxRecDepth 100000 in
theorem qo75 : qOK yT1 86 1471 qs75 := qck_ok (m := 4) (qall_c qo39 (qall_c qo45 qall_n)) rfl qe75 qf75_0 (by decide +kernel) (by decide +kernel)
def qc76_0 : List qCt := [((5, [[(.ofNat 0, .ofNat 0)], [(.negSucc 2147483647, .ofNat 2147483647)], [(.negSucc 2147483647, .ofNat 2147483647)], [(.negSucc 9223372036854775807, .ofNat 9223372036854775807)], [(.ofNat 0, .ofNat 5)]], [(0, .inr (.inr (.ref 0))), (1, .inl (1, .ofNat 0)), (2, .inl (2, .ofNat 0)), (3, .inr (.inl (3, .ofNat 0))), (5, .inl (4, .ofNat 0))], [], []), [], [(false, .ofNat 4995, (0, .ofNat 0)), (false, .ofNat 6, (4, .ofNat 0)), (false, .ofNat 9000, (0, .ofNat 0)), (false, .ofNat 0, (0, .ofNat 0))])]
def qc76 : List qCt := qc76_0
set_option maxRecDepth 100000 in
theorem qe76 : qck0 yT1 [] qP 20000 [] qc76 qs76 = true := by decide +kernel
set_option maxRecDepth 100000 in
theorem qf76_0 : qc76_0.all (qck1 yT1 [] qP 20000 [] qc76 qs76) = true := by decide +kernel
set_option maxRecDepth 100000 in
theorem qo76 : qOK yT1 86 1471 qs76 := qck_ok (m := 4) qall_n rfl qe76 qf76_0 (by decide +kernel) (by decide +kernel)
def qc77_0 : List qCt := [((4, [[(.ofNat 0, .ofNat 0)], [(.negSucc 9223372036854775807, .ofNat 9223372036854775807)], [(.ofNat 0, .ofNat 5)]], [(0, .inr (.inr (.ref 0))), (1, .inr (.inl (1, .ofNat 0))), (3, .inl (2, .ofNat 0))], [], []), [], [(false, .ofNat 4996, (0, .ofNat 0)), (false, .ofNat 6, (2, .ofNat 0)), (false, .ofNat 9000, (0, .ofNat 0)), (false, .ofNat 0, (0, .ofNat 0))])]
def qc77 : List qCt := qc77_0
set_option maxRecDepth 100000 in
theorem qe77 : qck0 yT1 [] qP 20000 [] qc77 qs77 = true := by decide +kernel
set_option maxRecDepth 100000 in
theorem qf77_0 : qc77_0.all (qck1 yT1 [] qP 20000 [] qc77 qs77) = true := by decide +kernel
set_option maxRecDepth 100000 in
theorem qo77 : qOK yT1 86 1471 qs77 := qck_ok (m := 4) qall_n rfl qe77 qf77_0 (by decide +kernel) (by decide +kernel)
def qc78_0 : List qCt := [((9, [[(.ofNat 0, .ofNat 0)], [(.negSucc 9223372036854775807, .ofNat 9223372036854775807)], [(.negSucc 9223372036854775807, .ofNat 9223372036854775807)], [(.negSucc 9223372036854775807, .ofNat 9223372036854775807)], [(.negSucc 9223372036854775807, .ofNat 9223372036854775807)], [(.ofNat 0, .ofNat 100)]], [(0, .inr (.inl (1, .ofNat 0))), (2, .inr (.inl (2, .ofNat 0))), (4, .inr (.inl (3, .ofNat 0))), (6, .inr (.inl (4, .ofNat 0))), (8, .inl (5, .ofNat 0))], [], []), [], [(false, .ofNat 4991, (0, .ofNat 0)), (false, .ofNat 101, (5, .ofNat 0)), (false, .ofNat 9000, (0, .ofNat 0)), (false, .ofNat 0, (0, .ofNat 0))])]
def qc78 : List qCt := qc78_0
set_option maxRecDepth 100000 in
theorem qe78 : qck0 yT1 [] qP 20000 [] qc78 qs78 = true := by decide +kernel
set_option maxRecDepth 100000 in
theorem qf78_0 : qc78_0.all (qck1 yT1 [] qP 20000 [] qc78 qs78) = true := by decide +kernel
set_option maxRecDepth 100000 in
theorem qo78 : qOK yT1 86 1471 qs78 := qck_ok (m := 4) qall_n rfl qe78 qf78_0 (by decide +kernel) (by decide +kernel)
def qc79_0 : List qCt := [((28, [[(.ofNat 0, .ofNat 0)], [(.ofNat 0, .ofNat 10)], [(.ofNat 0, .ofNat 1)], [(.negSucc 9223372036854775807, .ofNat 9223372036854775807)], [(.ofNat 0, .ofNat 32)]], [(0, .inr (.inr (.ref 0))), (1, .inl (1, .ofNat 0)), (2, .inl (2, .ofNat 0)), (3, .inr (.inl (3, .ofNat 0))), (5, .inl (4, .ofNat 0))], [], []), [], [(false, .ofNat 4972, (0, .ofNat 0)), (false, .ofNat 33, (4, .ofNat 0)), (false, .ofNat 9000, (0, .ofNat 0)), (false, .ofNat 0, (0, .ofNat 0))])]
def qc79 : List qCt := qc79_0
set_option maxRecDepth 100000 in
theorem qe79 : qck0 yT1 [qs76, qs39, qs45, qs77, qs78] qP 20000 [] qc79 qs79 = true := by decide +kernel
set_option maxRecDepth 100000 in
theorem qf79_0 : qc79_0.all (qck1 yT1 [qs76, qs39, qs45, qs77, qs78] qP 20000 [] qc79 qs79) = true := by decide +kernel
set_option maxRecDepth 100000 in
theorem qo79 : qOK yT1 86 1471 qs79 := qck_ok (m := 4) (qall_c qo76 (qall_c qo39 (qall_c qo45 (qall_c qo77 (qall_c qo78 qall_n))))) rfl qe79 qf79_0 (by decide +kernel) (by decide +kernel)
def qc80_0 : List qCt := [((40, [[(.ofNat 0, .ofNat 0)], [(.ofNat 0, .ofNat 10)], [(.ofNat 0, .ofNat 4)], [(.ofNat 0, .ofNat 1)], [(.negSucc 9223372036854775807, .ofNat 9223372036854775807)], [(.ofNat 0, .ofNat 32)], [(.ofNat 1, .ofNat 5)]], [(0, .inr (.inr (.ref 0))), (1, .inl (1, .ofNat 0)), (2, .inl (2, .ofNat 0)), (3, .inl (3, .ofNat 0)), (4, .inr (.inl (4, .ofNat 0))), (6, .inl (5, .ofNat 0))], [], [((11, 2), .inl (6, .ofNat 0))]), [], [(false, .ofNat 4960, (0, .ofNat 0)), (false, .ofNat 33, (5, .ofNat 0)), (false, .ofNat 9000, (0, .ofNat 0)), (false, .ofNat 0, (0, .ofNat 0))])]
def qc80 : List qCt := qc80_0
set_option maxRecDepth 100000 in
theorem qe80 : qck0 yT1 [qs39, qs45, qs76, qs77, qs78] qP 20000 [] qc80 qs80 = true := by decide +kernel
set_option maxRecDepth 100000 in
theorem qf80_0 : qc80_0.all (qck1 yT1 [qs39, qs45, qs76, qs77, qs78] qP 20000 [] qc80 qs80) = true := by decide +kernel
set_option maxRecDepth 100000 in
theorem qo80 : qOK yT1 86 1471 qs80 := qck_ok (m := 4) (qall_c qo39 (qall_c qo45 (qall_c qo76 (qall_c qo77 (qall_c qo78 qall_n))))) rfl qe80 qf80_0 (by decide +kernel) (by decide +kernel)
def qc81 : List qCt := []
set_option maxRecDepth 100000 in
theorem qe81 : qck0 yT1 [] qP 20000 [] qc81 qs81 = true := by decide +kernel
set_option maxRecDepth 100000 in
theorem qo81 : qOK yT1 86 1471 qs81 := qck_ok (m := 0) qall_n rfl qe81 rfl (by decide +kernel) (by decide +kernel)
def qc82 : List qCt := []
set_option maxRecDepth 100000 in
theorem qe82 : qck0 yT1 [] qP 20000 [] qc82 qs82 = true := by decide +kernel
set_option maxRecDepth 100000 in
theorem qo82 : qOK yT1 86 1471 qs82 := qck_ok (m := 0) qall_n rfl qe82 rfl (by decide +kernel) (by decide +kernel)
def qc83_0 : List qCt := [((2, [[(.ofNat 0, .ofNat 0)], [(.ofNat 0, .ofNat 6)]], [(0, .inr (.inr (.ref 40))), (1, .inr (.inr (.ref 19))), (2, .inl (1, .ofNat 0))], [], []), [], [(false, .ofNat 4998, (0, .ofNat 0)), (false, .ofNat 7, (1, .ofNat 0)), (false, .ofNat 9000, (0, .ofNat 0)), (false, .ofNat 0, (0, .ofNat 0))])]
def qc83 : List qCt := qc83_0
set_option maxRecDepth 100000 in
theorem qe83 : qck0 yT1 [] qP 20000 [] qc83 qs83 = true := by decide +kernel
set_option maxRecDepth 100000 in
theorem qf83_0 : qc83_0.all (qck1 yT1 [] qP 20000 [] qc83 qs83) = true := by decide +kernel
set_option maxRecDepth 100000 in
theorem qo83 : qOK yT1 86 1471 qs83 := qck_ok (m := 4) qall_n rfl qe83 qf83_0 (by decide +kernel) (by decide +kernel)
def qc84_0 : List qCt := [((35, [[(.ofNat 0, .ofNat 0)], [(.ofNat 0, .ofNat 4)], [(.ofNat 0, .ofNat 2)], [(.negSucc 2147483647, .ofNat 2147483647)], [(.negSucc 3, .negSucc 3), (.ofNat 0, .ofNat 20)], [(.negSucc 3, .negSucc 3), (.ofNat 0, .ofNat 20)], [(.ofNat 0, .ofNat 21)], [(.ofNat 1, .ofNat 5)]], [(0, .inr (.inr (.ref 0))), (1, .inl (1, .ofNat 0)), (2, .inl (2, .ofNat 0)), (3, .inl (3, .ofNat 0)), (4, .inl (4, .ofNat 0)), (5, .inl (5, .ofNat 0)), (6, .inl (6, .ofNat 0))], [], [((11, 2), .inl (7, .ofNat 0))]), [], [(false, .ofNat 4965, (0, .ofNat 0)), (false, .ofNat 22, (6, .ofNat 0)), (false, .ofNat 9000, (0, .ofNat 0)), (false, .ofNat 0, (0, .ofNat 0))])]
def qc84 : List qCt := qc84_0
set_option maxRecDepth 100000 in
theorem qe84 : qck0 yT1 [qs39, qs45, qs83] qP 20000 [] qc84 qs84 = true := by decide +kernel
set_option maxRecDepth 100000 in
theorem qf84_0 : qc84_0.all (qck1 yT1 [qs39, qs45, qs83] qP 20000 [] qc84 qs84) = true := by decide +kernel
set_option maxRecDepth 100000 in
theorem qo84 : qOK yT1 86 1471 qs84 := qck_ok (m := 4) (qall_c qo39 (qall_c qo45 (qall_c qo83 qall_n))) rfl qe84 qf84_0 (by decide +kernel) (by decide +kernel)
def qc85_0 : List qCt := [((4, [[(.ofNat 0, .ofNat 0)], [(.ofNat 0, .ofNat 32767)], [(.ofNat 0, .ofNat 10)]], [(0, .inr (.inr (.ref 0))), (1, .inl (1, .ofNat 0)), (2, .inl (2, .ofNat 0))], [], []), [], [(false, .ofNat 4996, (0, .ofNat 0)), (false, .ofNat 11, (2, .ofNat 0)), (false, .ofNat 9000, (0, .ofNat 0)), (false, .ofNat 0, (0, .ofNat 0))])]
def qc85 : List qCt := qc85_0
set_option maxRecDepth 100000 in
theorem qe85 : qck0 yT1 [qs39, qs45, qs83] qP 20000 [] qc85 qs85 = true := by decide +kernel
set_option maxRecDepth 100000 in
theorem qf85_0 : qc85_0.all (qck1 yT1 [qs39, qs45, qs83] qP 20000 [] qc85 qs85) = true := by decide +kernel
set_option maxRecDepth 100000 in
theorem qo85 : qOK yT1 86 1471 qs85 := qck_ok (m := 4) (qall_c qo39 (qall_c qo45 (qall_c qo83 qall_n))) rfl qe85 qf85_0 (by decide +kernel) (by decide +kernel)
def qc86_0 : List qCt := [((5, [[(.ofNat 0, .ofNat 0)], [(.ofNat 0, .ofNat 48)]], [(0, .inr (.inr (.ref 43))), (1, .inl (0, .ofNat 0)), (2, .inl (1, .ofNat 0)), (3, .inl (0, .ofNat 48))], [], []), [], [(false, .ofNat 4995, (0, .ofNat 0)), (false, .ofNat 49, (1, .ofNat 0)), (false, .ofNat 9000, (0, .ofNat 0)), (false, .ofNat 0, (0, .ofNat 0))])]
def qc86 : List qCt := qc86_0
set_option maxRecDepth 100000 in
theorem qe86 : qck0 yT1 [] qP 20000 [] qc86 qs86 = true := by decide +kernel
set_option maxRecDepth 100000 in
theorem qf86_0 : qc86_0.all (qck1 yT1 [] qP 20000 [] qc86 qs86) = true := by decide +kernel
set_option maxRecDepth 100000 in
theorem qo86 : qOK yT1 86 1471 qs86 := qck_ok (m := 4) qall_n rfl qe86 qf86_0 (by decide +kernel) (by decide +kernel)
def qc87_0 : List qCt := [((2, [[(.ofNat 0, .ofNat 0)], [(.ofNat 0, .ofNat 8)]], [(0, .inr (.inr (.ref 40))), (1, .inr (.inr (.ref 19))), (2, .inl (1, .ofNat 0))], [], []), [], [(false, .ofNat 4998, (0, .ofNat 0)), (false, .ofNat 9, (1, .ofNat 0)), (false, .ofNat 9000, (0, .ofNat 0)), (false, .ofNat 0, (0, .ofNat 0))])]
def qc87 : List qCt := qc87_0
set_option maxRecDepth 100000 in
theorem qe87 : qck0 yT1 [] qP 20000 [] qc87 qs87 = true := by decide +kernel
set_option maxRecDepth 100000 in
theorem qf87_0 : qc87_0.all (qck1 yT1 [] qP 20000 [] qc87 qs87) = true := by decide +kernel
set_option maxRecDepth 100000 in
theorem qo87 : qOK yT1 86 1471 qs87 := qck_ok (m := 4) qall_n rfl qe87 qf87_0 (by decide +kernel) (by decide +kernel)
def qc88_0 : List qCt := [((11, [[(.ofNat 0, .ofNat 0)], [(.ofNat 0, .ofNat 4)], [(.negSucc 2147483647, .ofNat 2147483647)], [(.ofNat 0, .ofNat 21)]], [(0, .inr (.inr (.ref 0))), (1, .inl (1, .ofNat 0)), (2, .inl (2, .ofNat 0)), (3, .inl (3, .ofNat 0))], [], []), [], [(false, .ofNat 4989, (0, .ofNat 0)), (false, .ofNat 22, (3, .ofNat 0)), (false, .ofNat 9000, (0, .ofNat 0)), (false, .ofNat 0, (0, .ofNat 0))])]
def qc88 : List qCt := qc88_0
set_option maxRecDepth 100000 in
theorem qe88 : qck0 yT1 [qs86, qs39, qs45, qs83, qs87] qP 20000 [] qc88 qs88 = true := by decide +kernel
set_option maxRecDepth 100000 in
theorem qf88_0 : qc88_0.all (qck1 yT1 [qs86, qs39, qs45, qs83, qs87] qP 20000 [] qc88 qs88) = true := by decide +kernel
set_option maxRecDepth 100000 in
theorem qo88 : qOK yT1 86 1471 qs88 := qck_ok (m := 4) (qall_c qo86 (qall_c qo39 (qall_c qo45 (qall_c qo83 (qall_c qo87 qall_n))))) rfl qe88 qf88_0 (by decide +kernel) (by decide +kernel)
def qc89_0 : List qCt := [((4, [[(.ofNat 0, .ofNat 0)], [(.ofNat 0, .ofNat 7)], [(.ofNat 0, .ofNat 2147483647)], [(.ofNat 0, .ofNat 6)]], [(0, .inr (.inr (.ref 40))), (1, .inl (1, .ofNat 0)), (2, .inl (2, .ofNat 0)), (3, .inl (3, .ofNat 0))], [], []), [], [(false, .ofNat 4996, (0, .ofNat 0)), (false, .ofNat 7, (3, .ofNat 0)), (false, .ofNat 9000, (0, .ofNat 0)), (false, .ofNat 0, (0, .ofNat 0))])]
def qc89 : List qCt := qc89_0
set_option maxRecDepth 100000 in
theorem qe89 : qck0 yT1 [] qP 20000 [] qc89 qs89 = true := by decide +kernel
set_option maxRecDepth 100000 in
theorem qf89_0 : qc89_0.all (qck1 yT1 [] qP 20000 [] qc89 qs89) = true := by decide +kernel
set_option maxRecDepth 100000 in
theorem qo89 : qOK yT1 86 1471 qs89 := qck_ok (m := 4) qall_n rfl qe89 qf89_0 (by decide +kernel) (by decide +kernel)
def qc90_0 : List qCt := [((35, [[(.ofNat 0, .ofNat 0)], [(.ofNat 0, .ofNat 4)], [(.ofNat 0, .ofNat 1)], [(.negSucc 3, .negSucc 3), (.ofNat 0, .ofNat 7)], [(.negSucc 2147483647, .ofNat 2147483647)], [(.ofNat 0, .ofNat 8)], [(.ofNat 1, .ofNat 5)]], [(0, .inr (.inr (.ref 0))), (1, .inl (1, .ofNat 0)), (2, .inl (2, .ofNat 0)), (3, .inl (3, .ofNat 0)), (4, .inl (4, .ofNat 0)), (5, .inl (5, .ofNat 0))], [], [((11, 2), .inl (6, .ofNat 0))]), [], [(false, .ofNat 4965, (0, .ofNat 0)), (false, .ofNat 9, (5, .ofNat 0)), (false, .ofNat 9000, (0, .ofNat 0)), (false, .ofNat 0, (0, .ofNat 0))])]
def qc90 : List qCt := qc90_0
set_option maxRecDepth 100000 in
theorem qe90 : qck0 yT1 [qs88, qs89] qP 20000 [] qc90 qs90 = true := by decide +kernel
set_option maxRecDepth 100000 in
theorem qf90_0 : qc90_0.all (qck1 yT1 [qs88, qs89] qP 20000 [] qc90 qs90) = true := by decide +kernel
set_option maxRecDepth 100000 in
theorem qo90 : qOK yT1 86 1471 qs90 := qck_ok (m := 4) (qall_c qo88 (qall_c qo89 qall_n)) rfl qe90 qf90_0 (by decide +kernel) (by decide +kernel)
def qc91_0 : List qCt := [((70, [[(.ofNat 0, .ofNat 0)], [(.negSucc 2147483647, .ofNat 2147483647)], [(.ofNat 1, .ofNat 60)], [(.ofNat 0, .ofNat 1)], [(.ofNat 1, .ofNat 31)], [(.negSucc 2147483647, .ofNat 2147483647)], [(.negSucc 2147483647, .ofNat 2147483647)], [(.ofNat 0, .ofNat 60)]], [(0, .inr (.inr (.ref 0))), (1, .inl (1, .ofNat 0)), (2, .inl (2, .ofNat 0)), (3, .inl (3, .ofNat 0)), (4, .inl (4, .ofNat 0)), (5, .inr (.inr (.ref 20))), (6, .inl (5, .ofNat 0)), (7, .inl (6, .ofNat 0)), (8, .inl (7, .ofNat 0))], [], []), [], [(false, .ofNat 4930, (0, .ofNat 0)), (false, .ofNat 61, (7, .ofNat 0)), (false, .ofNat 9000, (0, .ofNat 0)), (false, .ofNat 0, (0, .ofNat 0))])]
def qc91 : List qCt := qc91_0
set_option maxRecDepth 100000 in
theorem qe91 : qck0 yT1 [qs39, qs43, qs46] qP 20000 [] qc91 qs91 = true := by decide +kernel
set_option maxRecDepth 100000 in
theorem qf91_0 : qc91_0.all (qck1 yT1 [qs39, qs43, qs46] qP 20000 [] qc91 qs91) = true := by decide +kernel
set_option maxRecDepth 100000 in
theorem qo91 : qOK yT1 86 1471 qs91 := qck_ok (m := 4) (qall_c qo39 (qall_c qo43 (qall_c qo46 qall_n))) rfl qe91 qf91_0 (by decide +kernel) (by decide +kernel)
def qc92_0 : List qCt := [((10, [[(.ofNat 0, .ofNat 0)], [(.ofNat 0, .ofNat 5)], [(.ofNat 0, .ofNat 5)]], [(0, .inr (.inr (.ref 47))), (1, .inr (.inr (.ref 11))), (2, .inl (1, .ofNat 0))], [], [((47, 2), .inl (2, .ofNat 0)), ((11, 2), .inl (2, .ofNat 0))]), [], [(false, .ofNat 4990, (0, .ofNat 0)), (false, .ofNat 6, (1, .ofNat 0)), (false, .ofNat 9000, (0, .ofNat 0)), (false, .ofNat 0, (0, .ofNat 0))]),
  ((49, [[(.ofNat 0, .ofNat 0)], [(.ofNat 0, .ofNat 8)], [(.ofNat 0, .ofNat 8)], [(.ofNat 0, .ofNat 5)]], [(0, .inr (.inr (.ref 47))), (1, .inr (.inr (.ref 11))), (2, .inl (1, .ofNat 0))], [], [((47, 3), .inl (2, .ofNat 0)), ((11, 3), .inl (2, .ofNat 0)), ((47, 2), .inl (3, .ofNat 0)), ((11, 2), .inl (3, .ofNat 0))]), [], [(false, .ofNat 4951, (0, .ofNat 0)), (false, .ofNat 9, (1, .ofNat 0)), (false, .ofNat 9000, (0, .ofNat 0)), (false, .ofNat 0, (0, .ofNat 0))])]
def qc92 : List qCt := qc92_0
set_option maxRecDepth 100000 in
theorem qe92 : qck0 yT1 [] qP 20000 [] qc92 qs92 = true := by decide +kernel
set_option maxRecDepth 100000 in
theorem qf92_0 : qc92_0.all (qck1 yT1 [] qP 20000 [] qc92 qs92) = true := by decide +kernel
set_option maxRecDepth 100000 in
theorem qo92 : qOK yT1 86 1471 qs92 := qck_ok (m := 4) qall_n rfl qe92 qf92_0 (by decide +kernel) (by decide +kernel)
def qc93_0 : List qCt := [((10, [[(.ofNat 0, .ofNat 0)], [(.ofNat 0, .ofNat 5)], [(.ofNat 0, .ofNat 5)]], [(0, .inr (.inr (.ref 55))), (1, .inr (.inr (.ref 11))), (2, .inl (1, .ofNat 0))], [], [((55, 2), .inl (2, .ofNat 0)), ((11, 2), .inl (2, .ofNat 0))]), [], [(false, .ofNat 4990, (0, .ofNat 0)), (false, .ofNat 6, (1, .ofNat 0)), (false, .ofNat 9000, (0, .ofNat 0)), (false, .ofNat 0, (0, .ofNat 0))]),
  ((49, [[(.ofNat 0, .ofNat 0)], [(.ofNat 0, .ofNat 8)], [(.ofNat 0, .ofNat 8)], [(.ofNat 0, .ofNat 5)]], [(0, .inr (.inr (.ref 55))), (1, .inr (.inr (.ref 11))), (2, .inl (1, .ofNat 0))], [], [((55, 3), .inl (2, .ofNat 0)), ((11, 3), .inl (2, .ofNat 0)), ((55, 2), .inl (3, .ofNat 0)), ((11, 2), .inl (3, .ofNat 0))]), [], [(false, .ofNat 4951, (0, .ofNat 0)), (false, .ofNat 9, (1, .ofNat 0)), (false, .ofNat 9000, (0, .ofNat 0)), (false, .ofNat 0, (0, .ofNat 0))])]
def qc93 : List qCt := qc93_0
set_option maxRecDepth 100000 in
theorem qe93 : qck0 yT1 [] qP 20000 [] qc93 qs93 = true := by decide +kernel
set_option maxRecDepth 100000 in
theorem qf93_0 : qc93_0.all (qck1 yT1 [] qP 20000 [] qc93 qs93) = true := by decide +kernel
set_option maxRecDepth 100000 in
theorem qo93 : qOK yT1 86 1471 qs93 := qck_ok (m := 4) qall_n rfl qe93 qf93_0 (by decide +kernel) (by decide +kernel)
def qc94 : List qCt := []
set_option maxRecDepth 100000 in
theorem qe94 : qck0 yT1 [qs92, qs93] qP 20000 [] qc94 qs94 = true := by decide +kernel
set_option maxRecDepth 100000 in
theorem qo94 : qOK yT1 86 1471 qs94 := qck_ok (m := 0) (qall_c qo92 (qall_c qo93 qall_n)) rfl qe94 rfl (by decide +kernel) (by decide +kernel)
def qc95_0 : List qCt := [((10, [[(.ofNat 0, .ofNat 0)], [(.ofNat 0, .ofNat 5)], [(.ofNat 0, .ofNat 5)]], [(0, .inr (.inr (.ref 11))), (1, .inr (.inr (.ref 47))), (2, .inl (1, .ofNat 0))], [], [((11, 2), .inl (2, .ofNat 0)), ((47, 2), .inl (2, .ofNat 0))]), [], [(false, .ofNat 4990, (0, .ofNat 0)), (false, .ofNat 6, (1, .ofNat 0)), (false, .ofNat 9000, (0, .ofNat 0)), (false, .ofNat 0, (0, .ofNat 0))]),
  ((49, [[(.ofNat 0, .ofNat 0)], [(.ofNat 0, .ofNat 8)], [(.ofNat 0, .ofNat 8)], [(.ofNat 0, .ofNat 5)]], [(0, .inr (.inr (.ref 11))), (1, .inr (.inr (.ref 47))), (2, .inl (1, .ofNat 0))], [], [((11, 3), .inl (2, .ofNat 0)), ((47, 3), .inl (2, .ofNat 0)), ((11, 2), .inl (3, .ofNat 0)), ((47, 2), .inl (3, .ofNat 0))]), [], [(false, .ofNat 4951, (0, .ofNat 0)), (false, .ofNat 9, (1, .ofNat 0)), (false, .ofNat 9000, (0, .ofNat 0)), (false, .ofNat 0, (0, .ofNat 0))])]
def qc95 : List qCt := qc95_0
set_option maxRecDepth 100000 in
theorem qe95 : qck0 yT1 [] qP 20000 [] qc95 qs95 = true := by decide +kernel
set_option maxRecDepth 100000 in
theorem qf95_0 : qc95_0.all (qck1 yT1 [] qP 20000 [] qc95 qs95) = true := by decide +kernel
set_option maxRecDepth 100000 in
theorem qo95 : qOK yT1 86 1471 qs95 := qck_ok (m := 4) qall_n rfl qe95 qf95_0 (by decide +kernel) (by decide +kernel)
def qc96_0 : List qCt := [((10, [[(.ofNat 0, .ofNat 0)], [(.ofNat 0, .ofNat 5)], [(.ofNat 0, .ofNat 5)]], [(0, .inr (.inr (.ref 11))), (1, .inr (.inr (.ref 55))), (2, .inl (1, .ofNat 0))], [], [((11, 2), .inl (2, .ofNat 0)), ((55, 2), .inl (2, .ofNat 0))]), [], [(false, .ofNat 4990, (0, .ofNat 0)), (false, .ofNat 6, (1, .ofNat 0)), (false, .ofNat 9000, (0, .ofNat 0)), (false, .ofNat 0, (0, .ofNat 0))]),
  ((49, [[(.ofNat 0, .ofNat 0)], [(.ofNat 0, .ofNat 8)], [(.ofNat 0, .ofNat 8)], [(.ofNat 0, .ofNat 5)]], [(0, .inr (.inr (.ref 11))), (1, .inr (.inr (.ref 55))), (2, .inl (1, .ofNat 0))], [], [((11, 3), .inl (2, .ofNat 0)), ((55, 3), .inl (2, .ofNat 0)), ((11, 2), .inl (3, .ofNat 0)), ((55, 2), .inl (3, .ofNat 0))]), [], [(false, .ofNat 4951, (0, .ofNat 0)), (false, .ofNat 9, (1, .ofNat 0)), (false, .ofNat 9000, (0, .ofNat 0)), (false, .ofNat 0, (0, .ofNat 0))])]
def qc96 : List qCt := qc96_0
set_option maxRecDepth 100000 in
theorem qe96 : qck0 yT1 [] qP 20000 [] qc96 qs96 = true := by decide +kernel
set_option maxRecDepth 100000 in
theorem qf96_0 : qc96_0.all (qck1 yT1 [] qP 20000 [] qc96 qs96) = true := by decide +kernel
set_option maxRecDepth 100000 in
theorem qo96 : qOK yT1 86 1471 qs96 := qck_ok (m := 4) qall_n rfl qe96 qf96_0 (by decide +kernel) (by decide +kernel)
def qc97 : List qCt := []
set_option maxRecDepth 100000 in
theorem qe97 : qck0 yT1 [qs95, qs96] qP 20000 [] qc97 qs97 = true := by decide +kernel
set_option maxRecDepth 100000 in
theorem qo97 : qOK yT1 86 1471 qs97 := qck_ok (m := 0) (qall_c qo95 (qall_c qo96 qall_n)) rfl qe97 rfl (by decide +kernel) (by decide +kernel)
def qc98_0 : List qCt := [((5, [[(.ofNat 0, .ofNat 0)], [(.ofNat 0, .ofNat 40)]], [(0, .inr (.inr (.ref 64))), (1, .inl (0, .ofNat 0)), (2, .inl (1, .ofNat 0)), (3, .inl (0, .ofNat 40))], [], []), [], [(false, .ofNat 4995, (0, .ofNat 0)), (false, .ofNat 41, (1, .ofNat 0)), (false, .ofNat 9000, (0, .ofNat 0)), (false, .ofNat 0, (0, .ofNat 0))])]
def qc98 : List qCt := qc98_0
set_option maxRecDepth 100000 in
theorem qe98 : qck0 yT1 [] qP 20000 [] qc98 qs98 = true := by decide +kernel
set_option maxRecDepth 100000 in
theorem qf98_0 : qc98_0.all (qck1 yT1 [] qP 20000 [] qc98 qs98) = true := by decide +kernel
set_option maxRecDepth 100000 in
theorem qo98 : qOK yT1 86 1471 qs98 := qck_ok (m := 4) qall_n rfl qe98 qf98_0 (by decide +kernel) (by decide +kernel)
def qc99_0 : List qCt := [((5, [[(.ofNat 0, .ofNat 0)], [(.ofNat 0, .ofNat 40)]], [(0, .inr (.inr (.ref 66))), (1, .inl (0, .ofNat 0)), (2, .inl (1, .ofNat 0)), (3, .inl (0, .ofNat 40))], [], []), [], [(false, .ofNat 4995, (0, .ofNat 0)), (false, .ofNat 41, (1, .ofNat 0)), (false, .ofNat 9000, (0, .ofNat 0)), (false, .ofNat 0, (0, .ofNat 0))])]
def qc99 : List qCt := qc99_0
set_option maxRecDepth 100000 in
theorem qe99 : qck0 yT1 [] qP 20000 [] qc99 qs99 = true := by decide +kernel
set_option maxRecDepth 100000 in
theorem qf99_0 : qc99_0.all (qck1 yT1 [] qP 20000 [] qc99 qs99) = true := by decide +kernel
set_option maxRecDepth 100000 in
theorem qo99 : qOK yT1 86 1471 qs99 := qck_ok (m := 4) qall_n rfl qe99 qf99_0 (by decide +kernel) (by decide +kernel)
def qc100_0 : List qCt := [((5, [[(.ofNat 0, .ofNat 0)], [(.ofNat 0, .ofNat 40)]], [(0, .inr (.inr (.ref 68))), (1, .inl (0, .ofNat 0)), (2, .inl (1, .ofNat 0)), (3, .inl (0, .ofNat 40))], [], []), [], [(false, .ofNat 4995, (0, .ofNat 0)), (false, .ofNat 41, (1, .ofNat 0)), (false, .ofNat 9000, (0, .ofNat 0)), (false, .ofNat 0, (0, .ofNat 0))])]
def qc100 : List qCt := qc100_0
set_option maxRecDepth 100000 in
theorem qe100 : qck0 yT1 [] qP 20000 [] qc100 qs100 = true := by decide +kernel
set_option maxRecDepth 100000 in
theorem qf100_0 : qc100_0.all (qck1 yT1 [] qP 20000 [] qc100 qs100) = true := by decide +kernel
set_option maxRecDepth 100000 in
theorem qo100 : qOK yT1 86 1471 qs100 := qck_ok (m := 4) qall_n rfl qe100 qf100_0 (by decide +kernel) (by decide +kernel)
def qc101_0 : List qCt := [((5, [[(.ofNat 0, .ofNat 0)], [(.ofNat 0, .ofNat 40)]], [(0, .inr (.inr (.ref 70))), (1, .inl (0, .ofNat 0)), (2, .inl (1, .ofNat 0)), (3, .inl (0, .ofNat 40))], [], []), [], [(false, .ofNat 4995, (0, .ofNat 0)), (false, .ofNat 41, (1, .ofNat 0)), (false, .ofNat 9000, (0, .ofNat 0)), (false, .ofNat 0, (0, .ofNat 0))])]
def qc101 : List qCt := qc101_0
set_option maxRecDepth 100000 in
theorem qe101 : qck0 yT1 [] qP 20000 [] qc101 qs101 = true := by decide +kernel
set_option maxRecDepth 100000 in
theorem qf101_0 : qc101_0.all (qck1 yT1 [] qP 20000 [] qc101 qs101) = true := by decide +kernel
set_option maxRecDepth 100000 in
theorem qo101 : qOK yT1 86 1471 qs101 := qck_ok (m := 4) qall_n rfl qe101 qf101_0 (by decide +kernel) (by decide +kernel)
def qc102 : List qCt := []
set_option maxRecDepth 100000 in
theorem qe102 : qck0 yT1 [qs98, qs99, qs100, qs101] qP 20000 [] qc102 qs102 = true := by decide +kernel
set_option maxRecDepth 100000 in
theorem qo102 : qOK yT1 86 1471 qs102 := qck_ok (m := 0) (qall_c qo98 (qall_c qo99 (qall_c qo100 (qall_c qo101 qall_n)))) rfl qe102 rfl (by decide +kernel) (by decide +kernel)
def qc103 : List qCt := []
set_option maxRecDepth 100000 in
theorem qe103 : qck0 yT1 [] qP 20000 [] qc103 qs103 = true := by decide +kernel
set_option maxRecDepth 100000 in
theorem qo103 : qOK yT1 86 1471 qs103 := qck_ok (m := 0) qall_n rfl qe103 rfl (by decide +kernel) (by decide +kernel)
