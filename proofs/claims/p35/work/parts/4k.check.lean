/-! the methods are as their summaries say, 10 -/
def qc137 : List qCt := []
set_option maxRecDepth 100000 in
theorem qe137 : qck0 yT1 [qs133, qs117, qs134, qs135, qs136] qP 20000 [] qc137 qs137 = true := by decide +kernel
set_option maxRecDepth 100000 in
theorem qf137 : qc137.all (qck1 yT1 [qs133, qs117, qs134, qs135, qs136] qP 20000 [] qc137 qs137) = true := by decide +kernel
set_option maxRecDepth 100000 in
theorem qo137 : qOK yT1 86 1471 qs137 := qck_ok (m := 0) (qall_c qo133 (qall_c qo117 (qall_c qo134 (qall_c qo135 (qall_c qo136 qall_n))))) rfl qe137 qf137 (by decide +kernel) (by decide +kernel)
def qc138 : List qCt := []
set_option maxRecDepth 100000 in
theorem qe138 : qck0 yT1 [qs121] qP 20000 [] qc138 qs138 = true := by decide +kernel
set_option maxRecDepth 100000 in
theorem qf138 : qc138.all (qck1 yT1 [qs121] qP 20000 [] qc138 qs138) = true := by decide +kernel
set_option maxRecDepth 100000 in
theorem qo138 : qOK yT1 86 1471 qs138 := qck_ok (m := 0) (qall_c qo121 qall_n) rfl qe138 qf138 (by decide +kernel) (by decide +kernel)
def qc139 : List qCt := []
set_option maxRecDepth 100000 in
theorem qe139 : qck0 yT1 [] qP 20000 [] qc139 qs139 = true := by decide +kernel
set_option maxRecDepth 100000 in
theorem qf139 : qc139.all (qck1 yT1 [] qP 20000 [] qc139 qs139) = true := by decide +kernel
set_option maxRecDepth 100000 in
theorem qo139 : qOK yT1 86 1471 qs139 := qck_ok (m := 0) qall_n rfl qe139 qf139 (by decide +kernel) (by decide +kernel)
def qc140 : List qCt := []
set_option maxRecDepth 100000 in
theorem qe140 : qck0 yT1 [] qP 20000 [] qc140 qs140 = true := by decide +kernel
set_option maxRecDepth 100000 in
theorem qf140 : qc140.all (qck1 yT1 [] qP 20000 [] qc140 qs140) = true := by decide +kernel
set_option maxRecDepth 100000 in
theorem qo140 : qOK yT1 86 1471 qs140 := qck_ok (m := 0) qall_n rfl qe140 qf140 (by decide +kernel) (by decide +kernel)
def qc141 : List qCt := [((11, [[(.ofNat 0, .ofNat 0)], [(.negSucc 2147483647, .ofNat 2147483647)], [(.negSucc 3, .negSucc 3), (.ofNat 0, .ofNat 4)], [(.negSucc 0, .ofNat 4)]], [(0, .inr (.inr (.ref 71))), (1, .inl (0, .ofNat 0)), (2, .inl (1, .ofNat 0)), (3, .inl (2, .ofNat 0)), (4, .inl (3, .ofNat 0))], [], []), [], [(false, .ofNat 4989, (0, .ofNat 0)), (true, .negSucc 1, (3, .ofNat 0)), (false, .ofNat 9000, (0, .ofNat 0)), (false, .ofNat 0, (0, .ofNat 0))])]
set_option maxRecDepth 100000 in
theorem qe141 : qck0 yT1 [qs129] qP 20000 [] qc141 qs141 = true := by decide +kernel
set_option maxRecDepth 100000 in
theorem qf141 : qc141.all (qck1 yT1 [qs129] qP 20000 [] qc141 qs141) = true := by decide +kernel
set_option maxRecDepth 100000 in
theorem qo141 : qOK yT1 86 1471 qs141 := qck_ok (m := 4) (qall_c qo129 qall_n) rfl qe141 qf141 (by decide +kernel) (by decide +kernel)
def qc142 : List qCt := []
set_option maxRecDepth 100000 in
theorem qe142 : qck0 yT1 [qs141] qP 20000 [] qc142 qs142 = true := by decide +kernel
set_option maxRecDepth 100000 in
theorem qf142 : qc142.all (qck1 yT1 [qs141] qP 20000 [] qc142 qs142) = true := by decide +kernel
set_option maxRecDepth 100000 in
theorem qo142 : qOK yT1 86 1471 qs142 := qck_ok (m := 0) (qall_c qo141 qall_n) rfl qe142 qf142 (by decide +kernel) (by decide +kernel)
def qc143 : List qCt := []
set_option maxRecDepth 100000 in
theorem qe143 : qck0 yT1 [qs142] qP 20000 [] qc143 qs143 = true := by decide +kernel
set_option maxRecDepth 100000 in
theorem qf143 : qc143.all (qck1 yT1 [qs142] qP 20000 [] qc143 qs143) = true := by decide +kernel
set_option maxRecDepth 100000 in
theorem qo143 : qOK yT1 86 1471 qs143 := qck_ok (m := 0) (qall_c qo142 qall_n) rfl qe143 qf143 (by decide +kernel) (by decide +kernel)
def qk144_0 : qCt := ((2, [[(.ofNat 0, .ofNat 0)], [(.ofNat 0, .ofNat 98)], [(.ofNat 0, .ofNat 98)], [(.ofNat 0, .ofNat 98)], [(.ofNat 0, .ofNat 98)], [(.ofNat 0, .ofNat 98)]], [(0, .inr (.inr (.ref 71))), (1, .inl (0, .ofNat 0)), (2, .inl (0, .ofNat 10))], [], [((72, 9), .inl (1, .ofNat 0)), ((72, 8), .inl (2, .ofNat 0)), ((72, 7), .inl (3, .ofNat 0)), ((72, 6), .inl (4, .ofNat 0)), ((72, 5), .inl (5, .ofNat 0))]), [], [(false, .ofNat 4998, (0, .ofNat 0)), (false, .ofNat 16, (0, .ofNat 10)), (false, .ofNat 9000, (0, .ofNat 0)), (false, .ofNat 0, (0, .ofNat 0))])
def qk144_1 : qCt := ((2, [[(.ofNat 0, .ofNat 0)], [(.ofNat 0, .ofNat 98)], [(.ofNat 0, .ofNat 98)], [(.ofNat 0, .ofNat 98)], [(.ofNat 0, .ofNat 98)], [(.ofNat 0, .ofNat 98)], [(.ofNat 0, .ofNat 98)]], [(0, .inr (.inr (.ref 71))), (1, .inl (0, .ofNat 0)), (2, .inl (0, .ofNat 11))], [], [((72, 10), .inl (1, .ofNat 0)), ((72, 9), .inl (2, .ofNat 0)), ((72, 8), .inl (3, .ofNat 0)), ((72, 7), .inl (4, .ofNat 0)), ((72, 6), .inl (5, .ofNat 0)), ((72, 5), .inl (6, .ofNat 0))]), [], [(false, .ofNat 4998, (0, .ofNat 0)), (false, .ofNat 16, (0, .ofNat 11)), (false, .ofNat 9000, (0, .ofNat 0)), (false, .ofNat 0, (0, .ofNat 0))])
def qk144_2 : qCt := ((2, [[(.ofNat 0, .ofNat 0)], [(.ofNat 0, .ofNat 98)], [(.ofNat 0, .ofNat 98)], [(.ofNat 0, .ofNat 98)], [(.ofNat 0, .ofNat 98)], [(.ofNat 0, .ofNat 98)], [(.ofNat 0, .ofNat 98)], [(.ofNat 0, .ofNat 98)]], [(0, .inr (.inr (.ref 71))), (1, .inl (0, .ofNat 0)), (2, .inl (0, .ofNat 12))], [], [((72, 11), .inl (1, .ofNat 0)), ((72, 10), .inl (2, .ofNat 0)), ((72, 9), .inl (3, .ofNat 0)), ((72, 8), .inl (4, .ofNat 0)), ((72, 7), .inl (5, .ofNat 0)), ((72, 6), .inl (6, .ofNat 0)), ((72, 5), .inl (7, .ofNat 0))]), [], [(false, .ofNat 4998, (0, .ofNat 0)), (false, .ofNat 16, (0, .ofNat 12)), (false, .ofNat 9000, (0, .ofNat 0)), (false, .ofNat 0, (0, .ofNat 0))])
def qk144_3 : qCt := ((2, [[(.ofNat 0, .ofNat 0)], [(.ofNat 0, .ofNat 98)], [(.ofNat 0, .ofNat 98)], [(.ofNat 0, .ofNat 98)], [(.ofNat 0, .ofNat 98)], [(.ofNat 0, .ofNat 98)], [(.ofNat 0, .ofNat 98)], [(.ofNat 0, .ofNat 98)], [(.ofNat 0, .ofNat 98)]], [(0, .inr (.inr (.ref 71))), (1, .inl (0, .ofNat 0)), (2, .inl (0, .ofNat 13))], [], [((72, 12), .inl (1, .ofNat 0)), ((72, 11), .inl (2, .ofNat 0)), ((72, 10), .inl (3, .ofNat 0)), ((72, 9), .inl (4, .ofNat 0)), ((72, 8), .inl (5, .ofNat 0)), ((72, 7), .inl (6, .ofNat 0)), ((72, 6), .inl (7, .ofNat 0)), ((72, 5), .inl (8, .ofNat 0))]), [], [(false, .ofNat 4998, (0, .ofNat 0)), (false, .ofNat 16, (0, .ofNat 13)), (false, .ofNat 9000, (0, .ofNat 0)), (false, .ofNat 0, (0, .ofNat 0))])
def qk144_4 : qCt := ((2, [[(.ofNat 0, .ofNat 0)], [(.ofNat 0, .ofNat 98)], [(.ofNat 0, .ofNat 98)], [(.ofNat 0, .ofNat 98)], [(.ofNat 0, .ofNat 98)], [(.ofNat 0, .ofNat 98)], [(.ofNat 0, .ofNat 98)], [(.ofNat 0, .ofNat 98)], [(.ofNat 0, .ofNat 98)], [(.ofNat 0, .ofNat 98)]], [(0, .inr (.inr (.ref 71))), (1, .inl (0, .ofNat 0)), (2, .inl (0, .ofNat 14))], [], [((72, 13), .inl (1, .ofNat 0)), ((72, 12), .inl (2, .ofNat 0)), ((72, 11), .inl (3, .ofNat 0)), ((72, 10), .inl (4, .ofNat 0)), ((72, 9), .inl (5, .ofNat 0)), ((72, 8), .inl (6, .ofNat 0)), ((72, 7), .inl (7, .ofNat 0)), ((72, 6), .inl (8, .ofNat 0)), ((72, 5), .inl (9, .ofNat 0))]), [], [(false, .ofNat 4998, (0, .ofNat 0)), (false, .ofNat 16, (0, .ofNat 14)), (false, .ofNat 9000, (0, .ofNat 0)), (false, .ofNat 0, (0, .ofNat 0))])
def qk144_5 : qCt := ((2, [[(.ofNat 0, .ofNat 0)], [(.ofNat 0, .ofNat 98)], [(.ofNat 0, .ofNat 98)], [(.ofNat 0, .ofNat 98)], [(.ofNat 0, .ofNat 98)], [(.ofNat 0, .ofNat 98)], [(.ofNat 0, .ofNat 98)], [(.ofNat 0, .ofNat 98)], [(.ofNat 0, .ofNat 98)], [(.ofNat 0, .ofNat 98)], [(.ofNat 0, .ofNat 98)]], [(0, .inr (.inr (.ref 71))), (1, .inl (0, .ofNat 0)), (2, .inl (0, .ofNat 15))], [], [((72, 14), .inl (1, .ofNat 0)), ((72, 13), .inl (2, .ofNat 0)), ((72, 12), .inl (3, .ofNat 0)), ((72, 11), .inl (4, .ofNat 0)), ((72, 10), .inl (5, .ofNat 0)), ((72, 9), .inl (6, .ofNat 0)), ((72, 8), .inl (7, .ofNat 0)), ((72, 7), .inl (8, .ofNat 0)), ((72, 6), .inl (9, .ofNat 0)), ((72, 5), .inl (10, .ofNat 0))]), [], [(false, .ofNat 4998, (0, .ofNat 0)), (false, .ofNat 16, (0, .ofNat 15)), (false, .ofNat 9000, (0, .ofNat 0)), (false, .ofNat 0, (0, .ofNat 0))])
def qk144_6 : qCt := ((2, [[(.ofNat 0, .ofNat 0)]], [(0, .inr (.inr (.ref 71))), (1, .inl (0, .ofNat 0)), (2, .inl (0, .ofNat 5))], [], []), [], [(false, .ofNat 4998, (0, .ofNat 0)), (false, .ofNat 16, (0, .ofNat 5)), (false, .ofNat 9000, (0, .ofNat 0)), (false, .ofNat 0, (0, .ofNat 0))])
def qk144_7 : qCt := ((2, [[(.ofNat 0, .ofNat 0)], [(.ofNat 0, .ofNat 98)]], [(0, .inr (.inr (.ref 71))), (1, .inl (0, .ofNat 0)), (2, .inl (0, .ofNat 6))], [], [((72, 5), .inl (1, .ofNat 0))]), [], [(false, .ofNat 4998, (0, .ofNat 0)), (false, .ofNat 16, (0, .ofNat 6)), (false, .ofNat 9000, (0, .ofNat 0)), (false, .ofNat 0, (0, .ofNat 0))])
def qk144_8 : qCt := ((2, [[(.ofNat 0, .ofNat 0)], [(.ofNat 0, .ofNat 98)], [(.ofNat 0, .ofNat 98)]], [(0, .inr (.inr (.ref 71))), (1, .inl (0, .ofNat 0)), (2, .inl (0, .ofNat 7))], [], [((72, 6), .inl (1, .ofNat 0)), ((72, 5), .inl (2, .ofNat 0))]), [], [(false, .ofNat 4998, (0, .ofNat 0)), (false, .ofNat 16, (0, .ofNat 7)), (false, .ofNat 9000, (0, .ofNat 0)), (false, .ofNat 0, (0, .ofNat 0))])
def qk144_9 : qCt := ((2, [[(.ofNat 0, .ofNat 0)], [(.ofNat 0, .ofNat 98)], [(.ofNat 0, .ofNat 98)], [(.ofNat 0, .ofNat 98)]], [(0, .inr (.inr (.ref 71))), (1, .inl (0, .ofNat 0)), (2, .inl (0, .ofNat 8))], [], [((72, 7), .inl (1, .ofNat 0)), ((72, 6), .inl (2, .ofNat 0)), ((72, 5), .inl (3, .ofNat 0))]), [], [(false, .ofNat 4998, (0, .ofNat 0)), (false, .ofNat 16, (0, .ofNat 8)), (false, .ofNat 9000, (0, .ofNat 0)), (false, .ofNat 0, (0, .ofNat 0))])
def qk144_10 : qCt := ((2, [[(.ofNat 0, .ofNat 0)], [(.ofNat 0, .ofNat 98)], [(.ofNat 0, .ofNat 98)], [(.ofNat 0, .ofNat 98)], [(.ofNat 0, .ofNat 98)]], [(0, .inr (.inr (.ref 71))), (1, .inl (0, .ofNat 0)), (2, .inl (0, .ofNat 9))], [], [((72, 8), .inl (1, .ofNat 0)), ((72, 7), .inl (2, .ofNat 0)), ((72, 6), .inl (3, .ofNat 0)), ((72, 5), .inl (4, .ofNat 0))]), [], [(false, .ofNat 4998, (0, .ofNat 0)), (false, .ofNat 16, (0, .ofNat 9)), (false, .ofNat 9000, (0, .ofNat 0)), (false, .ofNat 0, (0, .ofNat 0))])
def qc144 : List qCt := [qk144_0, qk144_1, qk144_2, qk144_3, qk144_4, qk144_5, qk144_6, qk144_7, qk144_8, qk144_9, qk144_10]
set_option maxRecDepth 100000 in
theorem qe144 : qck0 yT1 [] qP 20000 [] [qk144_6] qs144 = true := by decide +kernel
set_option maxRecDepth 100000 in
theorem qf144_0 : qck1 yT1 [] qP 20000 [] [qk144_1] qs144 qk144_0 = true := by decide +kernel
set_option maxRecDepth 100000 in
theorem qf144_1 : qck1 yT1 [] qP 20000 [] [qk144_2] qs144 qk144_1 = true := by decide +kernel
set_option maxRecDepth 100000 in
theorem qf144_2 : qck1 yT1 [] qP 20000 [] [qk144_3] qs144 qk144_2 = true := by decide +kernel
set_option maxRecDepth 100000 in
theorem qf144_3 : qck1 yT1 [] qP 20000 [] [qk144_4] qs144 qk144_3 = true := by decide +kernel
set_option maxRecDepth 100000 in
theorem qf144_4 : qck1 yT1 [] qP 20000 [] [qk144_5] qs144 qk144_4 = true := by decide +kernel
set_option maxRecDepth 100000 in
theorem qf144_5 : qck1 yT1 [] qP 20000 [] [] qs144 qk144_5 = true := by decide +kernel
set_option maxRecDepth 100000 in
theorem qf144_6 : qck1 yT1 [] qP 20000 [] [qk144_7] qs144 qk144_6 = true := by decide +kernel
set_option maxRecDepth 100000 in
theorem qf144_7 : qck1 yT1 [] qP 20000 [] [qk144_8] qs144 qk144_7 = true := by decide +kernel
set_option maxRecDepth 100000 in
theorem qf144_8 : qck1 yT1 [] qP 20000 [] [qk144_9] qs144 qk144_8 = true := by decide +kernel
set_option maxRecDepth 100000 in
theorem qf144_9 : qck1 yT1 [] qP 20000 [] [qk144_10] qs144 qk144_9 = true := by decide +kernel
set_option maxRecDepth 100000 in
theorem qf144_10 : qck1 yT1 [] qP 20000 [] [qk144_0] qs144 qk144_10 = true := by decide +kernel
set_option maxRecDepth 100000 in
theorem qg144_11 : qHs yT1 [] qP 20000 [] qs144 qc144 [] := qHs_n
set_option maxRecDepth 100000 in
theorem qg144_10 : qHs yT1 [] qP 20000 [] qs144 qc144 [qk144_10] := qHs_c (qsb_c (i := 0) rfl qsb_n) qf144_10 qg144_11
set_option maxRecDepth 100000 in
theorem qg144_9 : qHs yT1 [] qP 20000 [] qs144 qc144 [qk144_9, qk144_10] := qHs_c (qsb_c (i := 10) rfl qsb_n) qf144_9 qg144_10
set_option maxRecDepth 100000 in
theorem qg144_8 : qHs yT1 [] qP 20000 [] qs144 qc144 [qk144_8, qk144_9, qk144_10] := qHs_c (qsb_c (i := 9) rfl qsb_n) qf144_8 qg144_9
set_option maxRecDepth 100000 in
theorem qg144_7 : qHs yT1 [] qP 20000 [] qs144 qc144 [qk144_7, qk144_8, qk144_9, qk144_10] := qHs_c (qsb_c (i := 8) rfl qsb_n) qf144_7 qg144_8
set_option maxRecDepth 100000 in
theorem qg144_6 : qHs yT1 [] qP 20000 [] qs144 qc144 [qk144_6, qk144_7, qk144_8, qk144_9, qk144_10] := qHs_c (qsb_c (i := 7) rfl qsb_n) qf144_6 qg144_7
set_option maxRecDepth 100000 in
theorem qg144_5 : qHs yT1 [] qP 20000 [] qs144 qc144 [qk144_5, qk144_6, qk144_7, qk144_8, qk144_9, qk144_10] := qHs_c qsb_n qf144_5 qg144_6
set_option maxRecDepth 100000 in
theorem qg144_4 : qHs yT1 [] qP 20000 [] qs144 qc144 [qk144_4, qk144_5, qk144_6, qk144_7, qk144_8, qk144_9, qk144_10] := qHs_c (qsb_c (i := 5) rfl qsb_n) qf144_4 qg144_5
set_option maxRecDepth 100000 in
theorem qg144_3 : qHs yT1 [] qP 20000 [] qs144 qc144 [qk144_3, qk144_4, qk144_5, qk144_6, qk144_7, qk144_8, qk144_9, qk144_10] := qHs_c (qsb_c (i := 4) rfl qsb_n) qf144_3 qg144_4
set_option maxRecDepth 100000 in
theorem qg144_2 : qHs yT1 [] qP 20000 [] qs144 qc144 [qk144_2, qk144_3, qk144_4, qk144_5, qk144_6, qk144_7, qk144_8, qk144_9, qk144_10] := qHs_c (qsb_c (i := 3) rfl qsb_n) qf144_2 qg144_3
set_option maxRecDepth 100000 in
theorem qg144_1 : qHs yT1 [] qP 20000 [] qs144 qc144 [qk144_1, qk144_2, qk144_3, qk144_4, qk144_5, qk144_6, qk144_7, qk144_8, qk144_9, qk144_10] := qHs_c (qsb_c (i := 2) rfl qsb_n) qf144_1 qg144_2
set_option maxRecDepth 100000 in
theorem qg144_0 : qHs yT1 [] qP 20000 [] qs144 qc144 [qk144_0, qk144_1, qk144_2, qk144_3, qk144_4, qk144_5, qk144_6, qk144_7, qk144_8, qk144_9, qk144_10] := qHs_c (qsb_c (i := 1) rfl qsb_n) qf144_0 qg144_1
set_option maxRecDepth 100000 in
theorem qo144 : qOK yT1 86 1471 qs144 := qck_ok2 (m := 4) (cuts := qc144) qall_n rfl (qsb_c (i := 6) rfl qsb_n) qe144 qg144_0 (by decide +kernel) (by decide +kernel)
def qc145 : List qCt := [((16, [[(.ofNat 0, .ofNat 0)], [(.ofNat 0, .ofNat 99)], [(.ofNat 0, .ofNat 99)]], [(0, .inr (.inr (.ref 71))), (1, .inl (1, .ofNat 0)), (2, .inl (2, .ofNat 0))], [], []), [], [(false, .ofNat 4984, (0, .ofNat 0)), (false, .ofNat 100, (2, .ofNat 0)), (false, .ofNat 9000, (0, .ofNat 0)), (false, .ofNat 0, (0, .ofNat 0))])]
set_option maxRecDepth 100000 in
theorem qe145 : qck0 yT1 [qs117, qs129, qs144] qP 20000 [] qc145 qs145 = true := by decide +kernel
set_option maxRecDepth 100000 in
theorem qf145 : qc145.all (qck1 yT1 [qs117, qs129, qs144] qP 20000 [] qc145 qs145) = true := by decide +kernel
set_option maxRecDepth 100000 in
theorem qo145 : qOK yT1 86 1471 qs145 := qck_ok (m := 4) (qall_c qo117 (qall_c qo129 (qall_c qo144 qall_n))) rfl qe145 qf145 (by decide +kernel) (by decide +kernel)
def qc146 : List qCt := []
set_option maxRecDepth 100000 in
theorem qe146 : qck0 yT1 [] qP 20000 [] qc146 qs146 = true := by decide +kernel
set_option maxRecDepth 100000 in
theorem qf146 : qc146.all (qck1 yT1 [] qP 20000 [] qc146 qs146) = true := by decide +kernel
set_option maxRecDepth 100000 in
theorem qo146 : qOK yT1 86 1471 qs146 := qck_ok (m := 0) qall_n rfl qe146 qf146 (by decide +kernel) (by decide +kernel)
def qc147 : List qCt := [((5, [[(.ofNat 0, .ofNat 0)], [(.negSucc 3, .negSucc 3), (.ofNat 0, .ofNat 99)], [(.ofNat 0, .ofNat 5)]], [(0, .inr (.inr (.ref 71))), (1, .inl (0, .ofNat 108)), (2, .inl (1, .ofNat 0)), (3, .inl (2, .ofNat 0))], [], []), [], [(false, .ofNat 4995, (0, .ofNat 0)), (false, .ofNat 6, (2, .ofNat 0)), (false, .ofNat 9000, (0, .ofNat 0)), (false, .ofNat 0, (0, .ofNat 0))])]
set_option maxRecDepth 100000 in
theorem qe147 : qck0 yT1 [] qP 20000 [] qc147 qs147 = true := by decide +kernel
set_option maxRecDepth 100000 in
theorem qf147 : qc147.all (qck1 yT1 [] qP 20000 [] qc147 qs147) = true := by decide +kernel
set_option maxRecDepth 100000 in
theorem qo147 : qOK yT1 86 1471 qs147 := qck_ok (m := 4) qall_n rfl qe147 qf147 (by decide +kernel) (by decide +kernel)
def qc148 : List qCt := [((11, [[(.ofNat 0, .ofNat 0)], [(.negSucc 2147483647, .ofNat 2147483647)], [(.negSucc 3, .negSucc 3), (.ofNat 0, .ofNat 4)], [(.negSucc 0, .ofNat 4)]], [(0, .inr (.inr (.ref 71))), (1, .inl (0, .ofNat 108)), (2, .inl (1, .ofNat 0)), (3, .inl (2, .ofNat 0)), (4, .inl (3, .ofNat 0))], [], []), [], [(false, .ofNat 4989, (0, .ofNat 0)), (true, .negSucc 1, (3, .ofNat 0)), (false, .ofNat 9000, (0, .ofNat 0)), (false, .ofNat 0, (0, .ofNat 0))])]
set_option maxRecDepth 100000 in
theorem qe148 : qck0 yT1 [qs147] qP 20000 [] qc148 qs148 = true := by decide +kernel
set_option maxRecDepth 100000 in
theorem qf148 : qc148.all (qck1 yT1 [qs147] qP 20000 [] qc148 qs148) = true := by decide +kernel
set_option maxRecDepth 100000 in
theorem qo148 : qOK yT1 86 1471 qs148 := qck_ok (m := 4) (qall_c qo147 qall_n) rfl qe148 qf148 (by decide +kernel) (by decide +kernel)
def qk149_0 : qCt := ((2, [[(.ofNat 0, .ofNat 0)], [(.ofNat 0, .ofNat 98)], [(.ofNat 0, .ofNat 98)], [(.ofNat 0, .ofNat 98)], [(.ofNat 0, .ofNat 98)], [(.ofNat 0, .ofNat 98)]], [(0, .inr (.inr (.ref 71))), (1, .inl (0, .ofNat 108)), (2, .inl (0, .ofNat 10))], [], [((72, 117), .inl (1, .ofNat 0)), ((72, 116), .inl (2, .ofNat 0)), ((72, 115), .inl (3, .ofNat 0)), ((72, 114), .inl (4, .ofNat 0)), ((72, 113), .inl (5, .ofNat 0))]), [], [(false, .ofNat 4998, (0, .ofNat 0)), (false, .ofNat 16, (0, .ofNat 10)), (false, .ofNat 9000, (0, .ofNat 0)), (false, .ofNat 0, (0, .ofNat 0))])
def qk149_1 : qCt := ((2, [[(.ofNat 0, .ofNat 0)], [(.ofNat 0, .ofNat 98)], [(.ofNat 0, .ofNat 98)], [(.ofNat 0, .ofNat 98)], [(.ofNat 0, .ofNat 98)], [(.ofNat 0, .ofNat 98)], [(.ofNat 0, .ofNat 98)]], [(0, .inr (.inr (.ref 71))), (1, .inl (0, .ofNat 108)), (2, .inl (0, .ofNat 11))], [], [((72, 118), .inl (1, .ofNat 0)), ((72, 117), .inl (2, .ofNat 0)), ((72, 116), .inl (3, .ofNat 0)), ((72, 115), .inl (4, .ofNat 0)), ((72, 114), .inl (5, .ofNat 0)), ((72, 113), .inl (6, .ofNat 0))]), [], [(false, .ofNat 4998, (0, .ofNat 0)), (false, .ofNat 16, (0, .ofNat 11)), (false, .ofNat 9000, (0, .ofNat 0)), (false, .ofNat 0, (0, .ofNat 0))])
def qk149_2 : qCt := ((2, [[(.ofNat 0, .ofNat 0)], [(.ofNat 0, .ofNat 98)], [(.ofNat 0, .ofNat 98)], [(.ofNat 0, .ofNat 98)], [(.ofNat 0, .ofNat 98)], [(.ofNat 0, .ofNat 98)], [(.ofNat 0, .ofNat 98)], [(.ofNat 0, .ofNat 98)]], [(0, .inr (.inr (.ref 71))), (1, .inl (0, .ofNat 108)), (2, .inl (0, .ofNat 12))], [], [((72, 119), .inl (1, .ofNat 0)), ((72, 118), .inl (2, .ofNat 0)), ((72, 117), .inl (3, .ofNat 0)), ((72, 116), .inl (4, .ofNat 0)), ((72, 115), .inl (5, .ofNat 0)), ((72, 114), .inl (6, .ofNat 0)), ((72, 113), .inl (7, .ofNat 0))]), [], [(false, .ofNat 4998, (0, .ofNat 0)), (false, .ofNat 16, (0, .ofNat 12)), (false, .ofNat 9000, (0, .ofNat 0)), (false, .ofNat 0, (0, .ofNat 0))])
def qk149_3 : qCt := ((2, [[(.ofNat 0, .ofNat 0)], [(.ofNat 0, .ofNat 98)], [(.ofNat 0, .ofNat 98)], [(.ofNat 0, .ofNat 98)], [(.ofNat 0, .ofNat 98)], [(.ofNat 0, .ofNat 98)], [(.ofNat 0, .ofNat 98)], [(.ofNat 0, .ofNat 98)], [(.ofNat 0, .ofNat 98)]], [(0, .inr (.inr (.ref 71))), (1, .inl (0, .ofNat 108)), (2, .inl (0, .ofNat 13))], [], [((72, 120), .inl (1, .ofNat 0)), ((72, 119), .inl (2, .ofNat 0)), ((72, 118), .inl (3, .ofNat 0)), ((72, 117), .inl (4, .ofNat 0)), ((72, 116), .inl (5, .ofNat 0)), ((72, 115), .inl (6, .ofNat 0)), ((72, 114), .inl (7, .ofNat 0)), ((72, 113), .inl (8, .ofNat 0))]), [], [(false, .ofNat 4998, (0, .ofNat 0)), (false, .ofNat 16, (0, .ofNat 13)), (false, .ofNat 9000, (0, .ofNat 0)), (false, .ofNat 0, (0, .ofNat 0))])
def qk149_4 : qCt := ((2, [[(.ofNat 0, .ofNat 0)], [(.ofNat 0, .ofNat 98)], [(.ofNat 0, .ofNat 98)], [(.ofNat 0, .ofNat 98)], [(.ofNat 0, .ofNat 98)], [(.ofNat 0, .ofNat 98)], [(.ofNat 0, .ofNat 98)], [(.ofNat 0, .ofNat 98)], [(.ofNat 0, .ofNat 98)], [(.ofNat 0, .ofNat 98)]], [(0, .inr (.inr (.ref 71))), (1, .inl (0, .ofNat 108)), (2, .inl (0, .ofNat 14))], [], [((72, 121), .inl (1, .ofNat 0)), ((72, 120), .inl (2, .ofNat 0)), ((72, 119), .inl (3, .ofNat 0)), ((72, 118), .inl (4, .ofNat 0)), ((72, 117), .inl (5, .ofNat 0)), ((72, 116), .inl (6, .ofNat 0)), ((72, 115), .inl (7, .ofNat 0)), ((72, 114), .inl (8, .ofNat 0)), ((72, 113), .inl (9, .ofNat 0))]), [], [(false, .ofNat 4998, (0, .ofNat 0)), (false, .ofNat 16, (0, .ofNat 14)), (false, .ofNat 9000, (0, .ofNat 0)), (false, .ofNat 0, (0, .ofNat 0))])
def qk149_5 : qCt := ((2, [[(.ofNat 0, .ofNat 0)], [(.ofNat 0, .ofNat 98)], [(.ofNat 0, .ofNat 98)], [(.ofNat 0, .ofNat 98)], [(.ofNat 0, .ofNat 98)], [(.ofNat 0, .ofNat 98)], [(.ofNat 0, .ofNat 98)], [(.ofNat 0, .ofNat 98)], [(.ofNat 0, .ofNat 98)], [(.ofNat 0, .ofNat 98)], [(.ofNat 0, .ofNat 98)]], [(0, .inr (.inr (.ref 71))), (1, .inl (0, .ofNat 108)), (2, .inl (0, .ofNat 15))], [], [((72, 122), .inl (1, .ofNat 0)), ((72, 121), .inl (2, .ofNat 0)), ((72, 120), .inl (3, .ofNat 0)), ((72, 119), .inl (4, .ofNat 0)), ((72, 118), .inl (5, .ofNat 0)), ((72, 117), .inl (6, .ofNat 0)), ((72, 116), .inl (7, .ofNat 0)), ((72, 115), .inl (8, .ofNat 0)), ((72, 114), .inl (9, .ofNat 0)), ((72, 113), .inl (10, .ofNat 0))]), [], [(false, .ofNat 4998, (0, .ofNat 0)), (false, .ofNat 16, (0, .ofNat 15)), (false, .ofNat 9000, (0, .ofNat 0)), (false, .ofNat 0, (0, .ofNat 0))])
def qk149_6 : qCt := ((2, [[(.ofNat 0, .ofNat 0)]], [(0, .inr (.inr (.ref 71))), (1, .inl (0, .ofNat 108)), (2, .inl (0, .ofNat 5))], [], []), [], [(false, .ofNat 4998, (0, .ofNat 0)), (false, .ofNat 16, (0, .ofNat 5)), (false, .ofNat 9000, (0, .ofNat 0)), (false, .ofNat 0, (0, .ofNat 0))])
def qk149_7 : qCt := ((2, [[(.ofNat 0, .ofNat 0)], [(.ofNat 0, .ofNat 98)]], [(0, .inr (.inr (.ref 71))), (1, .inl (0, .ofNat 108)), (2, .inl (0, .ofNat 6))], [], [((72, 113), .inl (1, .ofNat 0))]), [], [(false, .ofNat 4998, (0, .ofNat 0)), (false, .ofNat 16, (0, .ofNat 6)), (false, .ofNat 9000, (0, .ofNat 0)), (false, .ofNat 0, (0, .ofNat 0))])
def qk149_8 : qCt := ((2, [[(.ofNat 0, .ofNat 0)], [(.ofNat 0, .ofNat 98)], [(.ofNat 0, .ofNat 98)]], [(0, .inr (.inr (.ref 71))), (1, .inl (0, .ofNat 108)), (2, .inl (0, .ofNat 7))], [], [((72, 114), .inl (1, .ofNat 0)), ((72, 113), .inl (2, .ofNat 0))]), [], [(false, .ofNat 4998, (0, .ofNat 0)), (false, .ofNat 16, (0, .ofNat 7)), (false, .ofNat 9000, (0, .ofNat 0)), (false, .ofNat 0, (0, .ofNat 0))])
def qk149_9 : qCt := ((2, [[(.ofNat 0, .ofNat 0)], [(.ofNat 0, .ofNat 98)], [(.ofNat 0, .ofNat 98)], [(.ofNat 0, .ofNat 98)]], [(0, .inr (.inr (.ref 71))), (1, .inl (0, .ofNat 108)), (2, .inl (0, .ofNat 8))], [], [((72, 115), .inl (1, .ofNat 0)), ((72, 114), .inl (2, .ofNat 0)), ((72, 113), .inl (3, .ofNat 0))]), [], [(false, .ofNat 4998, (0, .ofNat 0)), (false, .ofNat 16, (0, .ofNat 8)), (false, .ofNat 9000, (0, .ofNat 0)), (false, .ofNat 0, (0, .ofNat 0))])
def qk149_10 : qCt := ((2, [[(.ofNat 0, .ofNat 0)], [(.ofNat 0, .ofNat 98)], [(.ofNat 0, .ofNat 98)], [(.ofNat 0, .ofNat 98)], [(.ofNat 0, .ofNat 98)]], [(0, .inr (.inr (.ref 71))), (1, .inl (0, .ofNat 108)), (2, .inl (0, .ofNat 9))], [], [((72, 116), .inl (1, .ofNat 0)), ((72, 115), .inl (2, .ofNat 0)), ((72, 114), .inl (3, .ofNat 0)), ((72, 113), .inl (4, .ofNat 0))]), [], [(false, .ofNat 4998, (0, .ofNat 0)), (false, .ofNat 16, (0, .ofNat 9)), (false, .ofNat 9000, (0, .ofNat 0)), (false, .ofNat 0, (0, .ofNat 0))])
def qc149 : List qCt := [qk149_0, qk149_1, qk149_2, qk149_3, qk149_4, qk149_5, qk149_6, qk149_7, qk149_8, qk149_9, qk149_10]
set_option maxRecDepth 100000 in
theorem qe149 : qck0 yT1 [] qP 20000 [] [qk149_6] qs149 = true := by decide +kernel
set_option maxRecDepth 100000 in
theorem qf149_0 : qck1 yT1 [] qP 20000 [] [qk149_1] qs149 qk149_0 = true := by decide +kernel
set_option maxRecDepth 100000 in
theorem qf149_1 : qck1 yT1 [] qP 20000 [] [qk149_2] qs149 qk149_1 = true := by decide +kernel
set_option maxRecDepth 100000 in
theorem qf149_2 : qck1 yT1 [] qP 20000 [] [qk149_3] qs149 qk149_2 = true := by decide +kernel
set_option maxRecDepth 100000 in
theorem qf149_3 : qck1 yT1 [] qP 20000 [] [qk149_4] qs149 qk149_3 = true := by decide +kernel
set_option maxRecDepth 100000 in
theorem qf149_4 : qck1 yT1 [] qP 20000 [] [qk149_5] qs149 qk149_4 = true := by decide +kernel
set_option maxRecDepth 100000 in
theorem qf149_5 : qck1 yT1 [] qP 20000 [] [] qs149 qk149_5 = true := by decide +kernel
set_option maxRecDepth 100000 in
theorem qf149_6 : qck1 yT1 [] qP 20000 [] [qk149_7] qs149 qk149_6 = true := by decide +kernel
set_option maxRecDepth 100000 in
theorem qf149_7 : qck1 yT1 [] qP 20000 [] [qk149_8] qs149 qk149_7 = true := by decide +kernel
set_option maxRecDepth 100000 in
theorem qf149_8 : qck1 yT1 [] qP 20000 [] [qk149_9] qs149 qk149_8 = true := by decide +kernel
set_option maxRecDepth 100000 in
theorem qf149_9 : qck1 yT1 [] qP 20000 [] [qk149_10] qs149 qk149_9 = true := by decide +kernel
set_option maxRecDepth 100000 in
theorem qf149_10 : qck1 yT1 [] qP 20000 [] [qk149_0] qs149 qk149_10 = true := by decide +kernel
set_option maxRecDepth 100000 in
theorem qg149_11 : qHs yT1 [] qP 20000 [] qs149 qc149 [] := qHs_n
set_option maxRecDepth 100000 in
theorem qg149_10 : qHs yT1 [] qP 20000 [] qs149 qc149 [qk149_10] := qHs_c (qsb_c (i := 0) rfl qsb_n) qf149_10 qg149_11
set_option maxRecDepth 100000 in
theorem qg149_9 : qHs yT1 [] qP 20000 [] qs149 qc149 [qk149_9, qk149_10] := qHs_c (qsb_c (i := 10) rfl qsb_n) qf149_9 qg149_10
set_option maxRecDepth 100000 in
theorem qg149_8 : qHs yT1 [] qP 20000 [] qs149 qc149 [qk149_8, qk149_9, qk149_10] := qHs_c (qsb_c (i := 9) rfl qsb_n) qf149_8 qg149_9
set_option maxRecDepth 100000 in
theorem qg149_7 : qHs yT1 [] qP 20000 [] qs149 qc149 [qk149_7, qk149_8, qk149_9, qk149_10] := qHs_c (qsb_c (i := 8) rfl qsb_n) qf149_7 qg149_8
set_option maxRecDepth 100000 in
theorem qg149_6 : qHs yT1 [] qP 20000 [] qs149 qc149 [qk149_6, qk149_7, qk149_8, qk149_9, qk149_10] := qHs_c (qsb_c (i := 7) rfl qsb_n) qf149_6 qg149_7
set_option maxRecDepth 100000 in
theorem qg149_5 : qHs yT1 [] qP 20000 [] qs149 qc149 [qk149_5, qk149_6, qk149_7, qk149_8, qk149_9, qk149_10] := qHs_c qsb_n qf149_5 qg149_6
set_option maxRecDepth 100000 in
theorem qg149_4 : qHs yT1 [] qP 20000 [] qs149 qc149 [qk149_4, qk149_5, qk149_6, qk149_7, qk149_8, qk149_9, qk149_10] := qHs_c (qsb_c (i := 5) rfl qsb_n) qf149_4 qg149_5
set_option maxRecDepth 100000 in
theorem qg149_3 : qHs yT1 [] qP 20000 [] qs149 qc149 [qk149_3, qk149_4, qk149_5, qk149_6, qk149_7, qk149_8, qk149_9, qk149_10] := qHs_c (qsb_c (i := 4) rfl qsb_n) qf149_3 qg149_4
set_option maxRecDepth 100000 in
theorem qg149_2 : qHs yT1 [] qP 20000 [] qs149 qc149 [qk149_2, qk149_3, qk149_4, qk149_5, qk149_6, qk149_7, qk149_8, qk149_9, qk149_10] := qHs_c (qsb_c (i := 3) rfl qsb_n) qf149_2 qg149_3
set_option maxRecDepth 100000 in
theorem qg149_1 : qHs yT1 [] qP 20000 [] qs149 qc149 [qk149_1, qk149_2, qk149_3, qk149_4, qk149_5, qk149_6, qk149_7, qk149_8, qk149_9, qk149_10] := qHs_c (qsb_c (i := 2) rfl qsb_n) qf149_1 qg149_2
set_option maxRecDepth 100000 in
theorem qg149_0 : qHs yT1 [] qP 20000 [] qs149 qc149 [qk149_0, qk149_1, qk149_2, qk149_3, qk149_4, qk149_5, qk149_6, qk149_7, qk149_8, qk149_9, qk149_10] := qHs_c (qsb_c (i := 1) rfl qsb_n) qf149_0 qg149_1
set_option maxRecDepth 100000 in
theorem qo149 : qOK yT1 86 1471 qs149 := qck_ok2 (m := 4) (cuts := qc149) qall_n rfl (qsb_c (i := 6) rfl qsb_n) qe149 qg149_0 (by decide +kernel) (by decide +kernel)
def qc150 : List qCt := [((18, [[(.ofNat 0, .ofNat 0)], [(.negSucc 2147483647, .ofNat 2147483647)], [(.ofNat 0, .ofNat 8)], [(.negSucc 3, .negSucc 3), (.ofNat 0, .ofNat 7)]], [(0, .inr (.inr (.ref 71))), (1, .inl (1, .ofNat 0)), (2, .inl (2, .ofNat 0))], [], [((71, 20), .inl (3, .ofNat 0))]), [], [(false, .ofNat 4982, (0, .ofNat 0)), (false, .ofNat 9, (2, .ofNat 0)), (false, .ofNat 9000, (0, .ofNat 0)), (false, .ofNat 0, (0, .ofNat 0))])]
set_option maxRecDepth 100000 in
theorem qe150 : qck0 yT1 [qs148, qs149] qP 20000 [] qc150 qs150 = true := by decide +kernel
set_option maxRecDepth 100000 in
theorem qf150 : qc150.all (qck1 yT1 [qs148, qs149] qP 20000 [] qc150 qs150) = true := by decide +kernel
set_option maxRecDepth 100000 in
theorem qo150 : qOK yT1 86 1471 qs150 := qck_ok (m := 4) (qall_c qo148 (qall_c qo149 qall_n)) rfl qe150 qf150 (by decide +kernel) (by decide +kernel)
def qc151 : List qCt := [((5, [[(.ofNat 0, .ofNat 0)], [(.negSucc 3, .negSucc 3), (.ofNat 0, .ofNat 99)], [(.ofNat 0, .ofNat 5)]], [(0, .inr (.inr (.ref 71))), (1, .inl (0, .ofNat 108)), (2, .inl (1, .ofNat 0)), (3, .inl (2, .ofNat 0))], [], []), [], [(false, .ofNat 4995, (0, .ofNat 0)), (false, .ofNat 6, (2, .ofNat 0)), (false, .ofNat 9000, (0, .ofNat 0)), (false, .ofNat 0, (0, .ofNat 0))])]
set_option maxRecDepth 100000 in
theorem qe151 : qck0 yT1 [] qP 20000 [] qc151 qs151 = true := by decide +kernel
set_option maxRecDepth 100000 in
theorem qf151 : qc151.all (qck1 yT1 [] qP 20000 [] qc151 qs151) = true := by decide +kernel
set_option maxRecDepth 100000 in
theorem qo151 : qOK yT1 86 1471 qs151 := qck_ok (m := 4) qall_n rfl qe151 qf151 (by decide +kernel) (by decide +kernel)
def qc152 : List qCt := []
set_option maxRecDepth 100000 in
theorem qe152 : qck0 yT1 [qs134, qs146, qs150, qs151] qP 20000 [] qc152 qs152 = true := by decide +kernel
set_option maxRecDepth 100000 in
theorem qf152 : qc152.all (qck1 yT1 [qs134, qs146, qs150, qs151] qP 20000 [] qc152 qs152) = true := by decide +kernel
set_option maxRecDepth 100000 in
theorem qo152 : qOK yT1 86 1471 qs152 := qck_ok (m := 0) (qall_c qo134 (qall_c qo146 (qall_c qo150 (qall_c qo151 qall_n)))) rfl qe152 qf152 (by decide +kernel) (by decide +kernel)
def qc153 : List qCt := []
set_option maxRecDepth 100000 in
theorem qe153 : qck0 yT1 [qs146, qs150] qP 20000 [] qc153 qs153 = true := by decide +kernel
set_option maxRecDepth 100000 in
theorem qf153 : qc153.all (qck1 yT1 [qs146, qs150] qP 20000 [] qc153 qs153) = true := by decide +kernel
set_option maxRecDepth 100000 in
theorem qo153 : qOK yT1 86 1471 qs153 := qck_ok (m := 0) (qall_c qo146 (qall_c qo150 qall_n)) rfl qe153 qf153 (by decide +kernel) (by decide +kernel)
def qc154 : List qCt := [((9, [[(.ofNat 0, .ofNat 0)], [(.ofNat 1, .ofNat 61)]], [(0, .inr (.inr (.ref 71))), (1, .inl (1, .ofNat 0))], [], []), [], [(false, .ofNat 4991, (0, .ofNat 0)), (false, .ofNat 62, (1, .ofNat 0)), (false, .ofNat 9000, (0, .ofNat 0)), (false, .ofNat 0, (0, .ofNat 0))])]
set_option maxRecDepth 100000 in
theorem qe154 : qck0 yT1 [qs146, qs150] qP 20000 [] qc154 qs154 = true := by decide +kernel
set_option maxRecDepth 100000 in
theorem qf154 : qc154.all (qck1 yT1 [qs146, qs150] qP 20000 [] qc154 qs154) = true := by decide +kernel
set_option maxRecDepth 100000 in
theorem qo154 : qOK yT1 86 1471 qs154 := qck_ok (m := 4) (qall_c qo146 (qall_c qo150 qall_n)) rfl qe154 qf154 (by decide +kernel) (by decide +kernel)
def qc155 : List qCt := []
set_option maxRecDepth 100000 in
theorem qe155 : qck0 yT1 [] qP 20000 [] qc155 qs155 = true := by decide +kernel
set_option maxRecDepth 100000 in
theorem qf155 : qc155.all (qck1 yT1 [] qP 20000 [] qc155 qs155) = true := by decide +kernel
set_option maxRecDepth 100000 in
theorem qo155 : qOK yT1 86 1471 qs155 := qck_ok (m := 0) qall_n rfl qe155 qf155 (by decide +kernel) (by decide +kernel)
def qc156 : List qCt := []
set_option maxRecDepth 100000 in
theorem qe156 : qck0 yT1 [] qP 20000 [] qc156 qs156 = true := by decide +kernel
set_option maxRecDepth 100000 in
theorem qf156 : qc156.all (qck1 yT1 [] qP 20000 [] qc156 qs156) = true := by decide +kernel
set_option maxRecDepth 100000 in
theorem qo156 : qOK yT1 86 1471 qs156 := qck_ok (m := 0) qall_n rfl qe156 qf156 (by decide +kernel) (by decide +kernel)
def qc157 : List qCt := []
set_option maxRecDepth 100000 in
theorem qe157 : qck0 yT1 [] qP 20000 [] qc157 qs157 = true := by decide +kernel
set_option maxRecDepth 100000 in
theorem qf157 : qc157.all (qck1 yT1 [] qP 20000 [] qc157 qs157) = true := by decide +kernel
set_option maxRecDepth 100000 in
theorem qo157 : qOK yT1 86 1471 qs157 := qck_ok (m := 0) qall_n rfl qe157 qf157 (by decide +kernel) (by decide +kernel)
def qk158_0 : qCt := ((48, [[(.ofNat 0, .ofNat 0)], [(.ofNat 1, .ofNat 31)], [(.ofNat 0, .ofNat 0), (.ofNat 10, .ofNat 14)], [(.ofNat 1, .ofNat 31)], [(.ofNat 0, .ofNat 5)], [(.negSucc 0, .ofNat 2147483647)], [(.ofNat 0, .ofNat 3124)], [(.ofNat 0, .ofNat 3125)]], [(0, .inr (.inr (.ref 71))), (1, .inl (3, .ofNat 0)), (2, .inl (2, .ofNat 0)), (3, .inl (4, .ofNat 0)), (4, .inl (5, .ofNat 0)), (5, .inl (6, .ofNat 0)), (6, .inl (7, .ofNat 0))], [], []), [], [(false, .ofNat 4952, (0, .ofNat 0)), (false, .ofNat 3126, (7, .ofNat 0)), (false, .ofNat 9000, (0, .ofNat 0)), (false, .ofNat 0, (0, .ofNat 0)), (false, .ofNat 9000, (0, .ofNat 0)), (false, .ofNat 0, (0, .ofNat 0))])
def qk158_1 : qCt := ((63, [[(.ofNat 0, .ofNat 0)], [(.ofNat 1, .ofNat 31)], [(.ofNat 0, .ofNat 0), (.ofNat 10, .ofNat 14)], [(.ofNat 1, .ofNat 31)], [(.ofNat 0, .ofNat 5)], [(.negSucc 0, .ofNat 2147483647)], [(.ofNat 0, .ofNat 3124)], [(.ofNat 0, .ofNat 3124)], [(.ofNat 0, .ofNat 31)], [(.ofNat 0, .ofNat 5)]], [(0, .inr (.inr (.ref 71))), (1, .inl (3, .ofNat 0)), (2, .inl (2, .ofNat 0)), (3, .inl (4, .ofNat 0)), (4, .inl (5, .ofNat 0)), (5, .inl (6, .ofNat 0)), (6, .inl (7, .ofNat 0)), (7, .inl (8, .ofNat 0)), (8, .inl (9, .ofNat 0))], [], []), [], [(false, .ofNat 4952, (0, .ofNat 0)), (false, .ofNat 3126, (7, .ofNat 0)), (false, .ofNat 4937, (0, .ofNat 0)), (false, .ofNat 6, (9, .ofNat 0)), (false, .ofNat 9000, (0, .ofNat 0)), (false, .ofNat 0, (0, .ofNat 0))])
def qk158_2 : qCt := ((109, [[(.ofNat 0, .ofNat 0)], [(.ofNat 1, .ofNat 31)], [(.ofNat 0, .ofNat 0), (.ofNat 10, .ofNat 14)], [(.ofNat 1, .ofNat 31)], [(.ofNat 0, .ofNat 5)], [(.negSucc 0, .ofNat 2147483647)], [(.ofNat 0, .ofNat 3124)], [(.ofNat 0, .ofNat 3124)], [(.ofNat 1, .ofNat 31)], [(.negSucc 2147483647, .ofNat 2147483647)], [(.ofNat 0, .ofNat 5)]], [(0, .inr (.inr (.ref 71))), (1, .inl (3, .ofNat 0)), (2, .inl (2, .ofNat 0)), (3, .inl (4, .ofNat 0)), (4, .inl (5, .ofNat 0)), (5, .inl (6, .ofNat 0)), (6, .inl (7, .ofNat 0)), (7, .inl (8, .ofNat 0)), (8, .inl (9, .ofNat 0)), (9, .inl (10, .ofNat 0))], [], []), [], [(false, .ofNat 4952, (0, .ofNat 0)), (false, .ofNat 3126, (7, .ofNat 0)), (false, .ofNat 4891, (0, .ofNat 0)), (false, .ofNat 6, (10, .ofNat 0)), (false, .ofNat 9000, (0, .ofNat 0)), (false, .ofNat 0, (0, .ofNat 0))])
def qc158 : List qCt := [qk158_0, qk158_1, qk158_2]
set_option maxRecDepth 100000 in
theorem qe158 : qck0 yT1 [qs155, qs156, qs157, qs146, qs148] qP 20000 [] [qk158_0] qs158 = true := by decide +kernel
set_option maxRecDepth 100000 in
theorem qf158_0 : qck1 yT1 [qs155, qs156, qs157, qs146, qs148] qP 20000 [] [qk158_1] qs158 qk158_0 = true := by decide +kernel
set_option maxRecDepth 100000 in
theorem qf158_1 : qck1 yT1 [qs155, qs156, qs157, qs146, qs148] qP 20000 [] [qk158_0, qk158_2, qk158_1] qs158 qk158_1 = true := by decide +kernel
set_option maxRecDepth 100000 in
theorem qf158_2 : qck1 yT1 [qs155, qs156, qs157, qs146, qs148] qP 20000 [] [qk158_0, qk158_2] qs158 qk158_2 = true := by decide +kernel
set_option maxRecDepth 100000 in
theorem qg158_3 : qHs yT1 [qs155, qs156, qs157, qs146, qs148] qP 20000 [] qs158 qc158 [] := qHs_n
set_option maxRecDepth 100000 in
theorem qg158_2 : qHs yT1 [qs155, qs156, qs157, qs146, qs148] qP 20000 [] qs158 qc158 [qk158_2] := qHs_c (qsb_c (i := 0) rfl (qsb_c (i := 2) rfl qsb_n)) qf158_2 qg158_3
set_option maxRecDepth 100000 in
theorem qg158_1 : qHs yT1 [qs155, qs156, qs157, qs146, qs148] qP 20000 [] qs158 qc158 [qk158_1, qk158_2] := qHs_c (qsb_c (i := 0) rfl (qsb_c (i := 2) rfl (qsb_c (i := 1) rfl qsb_n))) qf158_1 qg158_2
set_option maxRecDepth 100000 in
theorem qg158_0 : qHs yT1 [qs155, qs156, qs157, qs146, qs148] qP 20000 [] qs158 qc158 [qk158_0, qk158_1, qk158_2] := qHs_c (qsb_c (i := 1) rfl qsb_n) qf158_0 qg158_1
set_option maxRecDepth 100000 in
theorem qo158 : qOK yT1 86 1471 qs158 := qck_ok2 (m := 6) (cuts := qc158) (qall_c qo155 (qall_c qo156 (qall_c qo157 (qall_c qo146 (qall_c qo148 qall_n))))) rfl (qsb_c (i := 0) rfl qsb_n) qe158 qg158_0 (by decide +kernel) (by decide +kernel)
def qc159 : List qCt := []
set_option maxRecDepth 100000 in
theorem qe159 : qck0 yT1 [] qP 20000 [] qc159 qs159 = true := by decide +kernel
set_option maxRecDepth 100000 in
theorem qf159 : qc159.all (qck1 yT1 [] qP 20000 [] qc159 qs159) = true := by decide +kernel
set_option maxRecDepth 100000 in
theorem qo159 : qOK yT1 86 1471 qs159 := qck_ok (m := 0) qall_n rfl qe159 qf159 (by decide +kernel) (by decide +kernel)
def qc160 : List qCt := [((13, [[(.ofNat 0, .ofNat 0)], [(.ofNat 0, .ofNat 4)], [(.ofNat 0, .ofNat 3124)], [(.ofNat 0, .ofNat 5)], [(.ofNat 0, .ofNat 1)], [(.ofNat 0, .ofNat 5)]], [(0, .inr (.inr (.ref 71))), (1, .inl (1, .ofNat 0)), (2, .inl (2, .ofNat 0)), (3, .inl (3, .ofNat 0)), (4, .inl (4, .ofNat 0)), (5, .inl (5, .ofNat 0))], [], []), [], [(false, .ofNat 4987, (0, .ofNat 0)), (false, .ofNat 6, (5, .ofNat 0)), (false, .ofNat 9000, (0, .ofNat 0)), (false, .ofNat 0, (0, .ofNat 0))])]
set_option maxRecDepth 100000 in
theorem qe160 : qck0 yT1 [qs146, qs147, qs157, qs148] qP 20000 [] qc160 qs160 = true := by decide +kernel
set_option maxRecDepth 100000 in
theorem qf160 : qc160.all (qck1 yT1 [qs146, qs147, qs157, qs148] qP 20000 [] qc160 qs160) = true := by decide +kernel
set_option maxRecDepth 100000 in
theorem qo160 : qOK yT1 86 1471 qs160 := qck_ok (m := 4) (qall_c qo146 (qall_c qo147 (qall_c qo157 (qall_c qo148 qall_n)))) rfl qe160 qf160 (by decide +kernel) (by decide +kernel)
def qc161 : List qCt := [((30, [[(.ofNat 0, .ofNat 0)], [(.ofNat 0, .ofNat 4)], [(.ofNat 0, .ofNat 0), (.ofNat 10, .ofNat 13)], [(.ofNat 0, .ofNat 5)], [(.ofNat 1, .ofNat 5)]], [(0, .inr (.inr (.ref 71))), (1, .inl (1, .ofNat 0)), (2, .inl (2, .ofNat 0)), (3, .inl (3, .ofNat 0))], [], [((71, 2), .inl (4, .ofNat 0))]), [], [(false, .ofNat 4970, (0, .ofNat 0)), (false, .ofNat 6, (3, .ofNat 0)), (false, .ofNat 9000, (0, .ofNat 0)), (false, .ofNat 0, (0, .ofNat 0)), (false, .ofNat 9000, (0, .ofNat 0)), (false, .ofNat 0, (0, .ofNat 0))]),
  ((38, [[(.ofNat 0, .ofNat 0)], [(.ofNat 0, .ofNat 4)], [(.ofNat 0, .ofNat 0), (.ofNat 10, .ofNat 13)], [(.ofNat 0, .ofNat 4)], [(.ofNat 0, .ofNat 3125)], [(.ofNat 1, .ofNat 5)]], [(0, .inr (.inr (.ref 71))), (1, .inl (1, .ofNat 0)), (2, .inl (2, .ofNat 0)), (3, .inl (3, .ofNat 0)), (4, .inl (4, .ofNat 0))], [], [((71, 2), .inl (5, .ofNat 0))]), [], [(false, .ofNat 4970, (0, .ofNat 0)), (false, .ofNat 6, (3, .ofNat 0)), (false, .ofNat 4962, (0, .ofNat 0)), (false, .ofNat 3126, (4, .ofNat 0)), (false, .ofNat 9000, (0, .ofNat 0)), (false, .ofNat 0, (0, .ofNat 0))])]
set_option maxRecDepth 100000 in
theorem qe161 : qck0 yT1 [qs159, qs157, qs160] qP 20000 [] qc161 qs161 = true := by decide +kernel
set_option maxRecDepth 100000 in
theorem qf161 : qc161.all (qck1 yT1 [qs159, qs157, qs160] qP 20000 [] qc161 qs161) = true := by decide +kernel
set_option maxRecDepth 100000 in
theorem qo161 : qOK yT1 86 1471 qs161 := qck_ok (m := 6) (qall_c qo159 (qall_c qo157 (qall_c qo160 qall_n))) rfl qe161 qf161 (by decide +kernel) (by decide +kernel)
def qc162 : List qCt := [((19, [[(.ofNat 0, .ofNat 0)], [(.ofNat 0, .ofNat 1)], [(.negSucc 0, .ofNat 2147483647)], [(.ofNat 0, .ofNat 31)], [(.ofNat 0, .ofNat 32)]], [(0, .inr (.inr (.ref 71))), (1, .inl (1, .ofNat 0)), (2, .inl (2, .ofNat 0)), (3, .inl (3, .ofNat 0)), (4, .inl (4, .ofNat 0))], [], []), [], [(false, .ofNat 4981, (0, .ofNat 0)), (false, .ofNat 33, (4, .ofNat 0)), (false, .ofNat 9000, (0, .ofNat 0)), (false, .ofNat 0, (0, .ofNat 0))])]
set_option maxRecDepth 100000 in
theorem qe162 : qck0 yT1 [qs135, qs146, qs150] qP 20000 [] qc162 qs162 = true := by decide +kernel
set_option maxRecDepth 100000 in
theorem qf162 : qc162.all (qck1 yT1 [qs135, qs146, qs150] qP 20000 [] qc162 qs162) = true := by decide +kernel
set_option maxRecDepth 100000 in
theorem qo162 : qOK yT1 86 1471 qs162 := qck_ok (m := 4) (qall_c qo135 (qall_c qo146 (qall_c qo150 qall_n))) rfl qe162 qf162 (by decide +kernel) (by decide +kernel)
