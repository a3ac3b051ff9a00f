/-! the methods are as their summaries say, 8 -/
def qc138 : List qCt := []
set_option maxRecDepth 100000 in
theorem qe138 : qck0 yT1 [qs133, qs117, qs134, qs135, qs136, qs137] qP 20000 [] qc138 qs138 = true := by decide +kernel
set_option maxRecDepth 100000 in
theorem qf138 : qc138.all (qck1 yT1 [qs133, qs117, qs134, qs135, qs136, qs137] qP 20000 [] qc138 qs138) = true := by decide +kernel
set_option maxRecDepth 100000 in
theorem qo138 : qOK yT1 86 1471 qs138 := qck_ok (m := 0) (qall_c qo133 (qall_c qo117 (qall_c qo134 (qall_c qo135 (qall_c qo136 (qall_c qo137 qall_n)))))) rfl qe138 qf138 (by decide +kernel) (by decide +kernel)
def qc139 : List qCt := []
set_option maxRecDepth 100000 in
theorem qe139 : qck0 yT1 [qs121] qP 20000 [] qc139 qs139 = true := by decide +kernel
set_option maxRecDepth 100000 in
theorem qf139 : qc139.all (qck1 yT1 [qs121] qP 20000 [] qc139 qs139) = true := by decide +kernel
set_option maxRecDepth 100000 in
theorem qo139 : qOK yT1 86 1471 qs139 := qck_ok (m := 0) (qall_c qo121 qall_n) rfl qe139 qf139 (by decide +kernel) (by decide +kernel)
def qc140 : List qCt := []
set_option maxRecDepth 100000 in
theorem qe140 : qck0 yT1 [] qP 20000 [] qc140 qs140 = true := by decide +kernel
set_option maxRecDepth 100000 in
theorem qf140 : qc140.all (qck1 yT1 [] qP 20000 [] qc140 qs140) = true := by decide +kernel
set_option maxRecDepth 100000 in
theorem qo140 : qOK yT1 86 1471 qs140 := qck_ok (m := 0) qall_n rfl qe140 qf140 (by decide +kernel) (by decide +kernel)
def qc141 : List qCt := []
set_option maxRecDepth 100000 in
theorem qe141 : qck0 yT1 [] qP 20000 [] qc141 qs141 = true := by decide +kernel
set_option maxRecDepth 100000 in
theorem qf141 : qc141.all (qck1 yT1 [] qP 20000 [] qc141 qs141) = true := by decide +kernel
set_option maxRecDepth 100000 in
theorem qo141 : qOK yT1 86 1471 qs141 := qck_ok (m := 0) qall_n rfl qe141 qf141 (by decide +kernel) (by decide +kernel)
def qc142 : List qCt := [((11, [[(.ofNat 0, .ofNat 0)], [(.negSucc 2147483647, .ofNat 2147483647)], [(.negSucc 3, .negSucc 3), (.ofNat 0, .ofNat 4)], [(.negSucc 0, .ofNat 4)]], [(0, .inr (.inr (.ref 71))), (1, .inl (0, .ofNat 0)), (2, .inl (1, .ofNat 0)), (3, .inl (2, .ofNat 0)), (4, .inl (3, .ofNat 0))], [], []), [], [(false, .ofNat 4989, (0, .ofNat 0)), (true, .negSucc 1, (3, .ofNat 0)), (false, .ofNat 9000, (0, .ofNat 0)), (false, .ofNat 0, (0, .ofNat 0))])]
set_option maxRecDepth 100000 in
theorem qe142 : qck0 yT1 [qs129] qP 20000 [] qc142 qs142 = true := by decide +kernel
set_option maxRecDepth 100000 in
theorem qf142 : qc142.all (qck1 yT1 [qs129] qP 20000 [] qc142 qs142) = true := by decide +kernel
set_option maxRecDepth 100000 in
theorem qo142 : qOK yT1 86 1471 qs142 := qck_ok (m := 4) (qall_c qo129 qall_n) rfl qe142 qf142 (by decide +kernel) (by decide +kernel)
def qc143 : List qCt := []
set_option maxRecDepth 100000 in
theorem qe143 : qck0 yT1 [qs142] qP 20000 [] qc143 qs143 = true := by decide +kernel
set_option maxRecDepth 100000 in
theorem qf143 : qc143.all (qck1 yT1 [qs142] qP 20000 [] qc143 qs143) = true := by decide +kernel
set_option maxRecDepth 100000 in
theorem qo143 : qOK yT1 86 1471 qs143 := qck_ok (m := 0) (qall_c qo142 qall_n) rfl qe143 qf143 (by decide +kernel) (by decide +kernel)
def qc144 : List qCt := []
set_option maxRecDepth 100000 in
theorem qe144 : qck0 yT1 [qs143] qP 20000 [] qc144 qs144 = true := by decide +kernel
set_option maxRecDepth 100000 in
theorem qf144 : qc144.all (qck1 yT1 [qs143] qP 20000 [] qc144 qs144) = true := by decide +kernel
set_option maxRecDepth 100000 in
theorem qo144 : qOK yT1 86 1471 qs144 := qck_ok (m := 0) (qall_c qo143 qall_n) rfl qe144 qf144 (by decide +kernel) (by decide +kernel)
def qk145_0 : qCt := ((2, [[(.ofNat 0, .ofNat 0)], [(.ofNat 0, .ofNat 98)], [(.ofNat 0, .ofNat 98)], [(.ofNat 0, .ofNat 98)], [(.ofNat 0, .ofNat 98)], [(.ofNat 0, .ofNat 98)]], [(0, .inr (.inr (.ref 71))), (1, .inl (0, .ofNat 0)), (2, .inl (0, .ofNat 10))], [], [((72, 9), .inl (1, .ofNat 0)), ((72, 8), .inl (2, .ofNat 0)), ((72, 7), .inl (3, .ofNat 0)), ((72, 6), .inl (4, .ofNat 0)), ((72, 5), .inl (5, .ofNat 0))]), [], [(false, .ofNat 4998, (0, .ofNat 0)), (false, .ofNat 16, (0, .ofNat 10)), (false, .ofNat 9000, (0, .ofNat 0)), (false, .ofNat 0, (0, .ofNat 0))])
def qk145_1 : qCt := ((2, [[(.ofNat 0, .ofNat 0)], [(.ofNat 0, .ofNat 98)], [(.ofNat 0, .ofNat 98)], [(.ofNat 0, .ofNat 98)], [(.ofNat 0, .ofNat 98)], [(.ofNat 0, .ofNat 98)], [(.ofNat 0, .ofNat 98)]], [(0, .inr (.inr (.ref 71))), (1, .inl (0, .ofNat 0)), (2, .inl (0, .ofNat 11))], [], [((72, 10), .inl (1, .ofNat 0)), ((72, 9), .inl (2, .ofNat 0)), ((72, 8), .inl (3, .ofNat 0)), ((72, 7), .inl (4, .ofNat 0)), ((72, 6), .inl (5, .ofNat 0)), ((72, 5), .inl (6, .ofNat 0))]), [], [(false, .ofNat 4998, (0, .ofNat 0)), (false, .ofNat 16, (0, .ofNat 11)), (false, .ofNat 9000, (0, .ofNat 0)), (false, .ofNat 0, (0, .ofNat 0))])
def qk145_2 : qCt := ((2, [[(.ofNat 0, .ofNat 0)], [(.ofNat 0, .ofNat 98)], [(.ofNat 0, .ofNat 98)], [(.ofNat 0, .ofNat 98)], [(.ofNat 0, .ofNat 98)], [(.ofNat 0, .ofNat 98)], [(.ofNat 0, .ofNat 98)], [(.ofNat 0, .ofNat 98)]], [(0, .inr (.inr (.ref 71))), (1, .inl (0, .ofNat 0)), (2, .inl (0, .ofNat 12))], [], [((72, 11), .inl (1, .ofNat 0)), ((72, 10), .inl (2, .ofNat 0)), ((72, 9), .inl (3, .ofNat 0)), ((72, 8), .inl (4, .ofNat 0)), ((72, 7), .inl (5, .ofNat 0)), ((72, 6), .inl (6, .ofNat 0)), ((72, 5), .inl (7, .ofNat 0))]), [], [(false, .ofNat 4998, (0, .ofNat 0)), (false, .ofNat 16, (0, .ofNat 12)), (false, .ofNat 9000, (0, .ofNat 0)), (false, .ofNat 0, (0, .ofNat 0))])
def qk145_3 : qCt := ((2, [[(.ofNat 0, .ofNat 0)], [(.ofNat 0, .ofNat 98)], [(.ofNat 0, .ofNat 98)], [(.ofNat 0, .ofNat 98)], [(.ofNat 0, .ofNat 98)], [(.ofNat 0, .ofNat 98)], [(.ofNat 0, .ofNat 98)], [(.ofNat 0, .ofNat 98)], [(.ofNat 0, .ofNat 98)]], [(0, .inr (.inr (.ref 71))), (1, .inl (0, .ofNat 0)), (2, .inl (0, .ofNat 13))], [], [((72, 12), .inl (1, .ofNat 0)), ((72, 11), .inl (2, .ofNat 0)), ((72, 10), .inl (3, .ofNat 0)), ((72, 9), .inl (4, .ofNat 0)), ((72, 8), .inl (5, .ofNat 0)), ((72, 7), .inl (6, .ofNat 0)), ((72, 6), .inl (7, .ofNat 0)), ((72, 5), .inl (8, .ofNat 0))]), [], [(false, .ofNat 4998, (0, .ofNat 0)), (false, .ofNat 16, (0, .ofNat 13)), (false, .ofNat 9000, (0, .ofNat 0)), (false, .ofNat 0, (0, .ofNat 0))])
def qk145_4 : qCt := ((2, [[(.ofNat 0, .ofNat 0)], [(.ofNat 0, .ofNat 98)], [(.ofNat 0, .ofNat 98)], [(.ofNat 0, .ofNat 98)], [(.ofNat 0, .ofNat 98)], [(.ofNat 0, .ofNat 98)], [(.ofNat 0, .ofNat 98)], [(.ofNat 0, .ofNat 98)], [(.ofNat 0, .ofNat 98)], [(.ofNat 0, .ofNat 98)]], [(0, .inr (.inr (.ref 71))), (1, .inl (0, .ofNat 0)), (2, .inl (0, .ofNat 14))], [], [((72, 13), .inl (1, .ofNat 0)), ((72, 12), .inl (2, .ofNat 0)), ((72, 11), .inl (3, .ofNat 0)), ((72, 10), .inl (4, .ofNat 0)), ((72, 9), .inl (5, .ofNat 0)), ((72, 8), .inl (6, .ofNat 0)), ((72, 7), .inl (7, .ofNat 0)), ((72, 6), .inl (8, .ofNat 0)), ((72, 5), .inl (9, .ofNat 0))]), [], [(false, .ofNat 4998, (0, .ofNat 0)), (false, .ofNat 16, (0, .ofNat 14)), (false, .ofNat 9000, (0, .ofNat 0)), (false, .ofNat 0, (0, .ofNat 0))])
def qk145_5 : qCt := ((2, [[(.ofNat 0, .ofNat 0)], [(.ofNat 0, .ofNat 98)], [(.ofNat 0, .ofNat 98)], [(.ofNat 0, .ofNat 98)], [(.ofNat 0, .ofNat 98)], [(.ofNat 0, .ofNat 98)], [(.ofNat 0, .ofNat 98)], [(.ofNat 0, .ofNat 98)], [(.ofNat 0, .ofNat 98)], [(.ofNat 0, .ofNat 98)], [(.ofNat 0, .ofNat 98)]], [(0, .inr (.inr (.ref 71))), (1, .inl (0, .ofNat 0)), (2, .inl (0, .ofNat 15))], [], [((72, 14), .inl (1, .ofNat 0)), ((72, 13), .inl (2, .ofNat 0)), ((72, 12), .inl (3, .ofNat 0)), ((72, 11), .inl (4, .ofNat 0)), ((72, 10), .inl (5, .ofNat 0)), ((72, 9), .inl (6, .ofNat 0)), ((72, 8), .inl (7, .ofNat 0)), ((72, 7), .inl (8, .ofNat 0)), ((72, 6), .inl (9, .ofNat 0)), ((72, 5), .inl (10, .ofNat 0))]), [], [(false, .ofNat 4998, (0, .ofNat 0)), (false, .ofNat 16, (0, .ofNat 15)), (false, .ofNat 9000, (0, .ofNat 0)), (false, .ofNat 0, (0, .ofNat 0))])
def qk145_6 : qCt := ((2, [[(.ofNat 0, .ofNat 0)]], [(0, .inr (.inr (.ref 71))), (1, .inl (0, .ofNat 0)), (2, .inl (0, .ofNat 5))], [], []), [], [(false, .ofNat 4998, (0, .ofNat 0)), (false, .ofNat 16, (0, .ofNat 5)), (false, .ofNat 9000, (0, .ofNat 0)), (false, .ofNat 0, (0, .ofNat 0))])
def qk145_7 : qCt := ((2, [[(.ofNat 0, .ofNat 0)], [(.ofNat 0, .ofNat 98)]], [(0, .inr (.inr (.ref 71))), (1, .inl (0, .ofNat 0)), (2, .inl (0, .ofNat 6))], [], [((72, 5), .inl (1, .ofNat 0))]), [], [(false, .ofNat 4998, (0, .ofNat 0)), (false, .ofNat 16, (0, .ofNat 6)), (false, .ofNat 9000, (0, .ofNat 0)), (false, .ofNat 0, (0, .ofNat 0))])
def qk145_8 : qCt := ((2, [[(.ofNat 0, .ofNat 0)], [(.ofNat 0, .ofNat 98)], [(.ofNat 0, .ofNat 98)]], [(0, .inr (.inr (.ref 71))), (1, .inl (0, .ofNat 0)), (2, .inl (0, .ofNat 7))], [], [((72, 6), .inl (1, .ofNat 0)), ((72, 5), .inl (2, .ofNat 0))]), [], [(false, .ofNat 4998, (0, .ofNat 0)), (false, .ofNat 16, (0, .ofNat 7)), (false, .ofNat 9000, (0, .ofNat 0)), (false, .ofNat 0, (0, .ofNat 0))])
def qk145_9 : qCt := ((2, [[(.ofNat 0, .ofNat 0)], [(.ofNat 0, .ofNat 98)], [(.ofNat 0, .ofNat 98)], [(.ofNat 0, .ofNat 98)]], [(0, .inr (.inr (.ref 71))), (1, .inl (0, .ofNat 0)), (2, .inl (0, .ofNat 8))], [], [((72, 7), .inl (1, .ofNat 0)), ((72, 6), .inl (2, .ofNat 0)), ((72, 5), .inl (3, .ofNat 0))]), [], [(false, .ofNat 4998, (0, .ofNat 0)), (false, .ofNat 16, (0, .ofNat 8)), (false, .ofNat 9000, (0, .ofNat 0)), (false, .ofNat 0, (0, .ofNat 0))])
def qk145_10 : qCt := ((2, [[(.ofNat 0, .ofNat 0)], [(.ofNat 0, .ofNat 98)], [(.ofNat 0, .ofNat 98)], [(.ofNat 0, .ofNat 98)], [(.ofNat 0, .ofNat 98)]], [(0, .inr (.inr (.ref 71))), (1, .inl (0, .ofNat 0)), (2, .inl (0, .ofNat 9))], [], [((72, 8), .inl (1, .ofNat 0)), ((72, 7), .inl (2, .ofNat 0)), ((72, 6), .inl (3, .ofNat 0)), ((72, 5), .inl (4, .ofNat 0))]), [], [(false, .ofNat 4998, (0, .ofNat 0)), (false, .ofNat 16, (0, .ofNat 9)), (false, .ofNat 9000, (0, .ofNat 0)), (false, .ofNat 0, (0, .ofNat 0))])
def qc145 : List qCt := [qk145_0, qk145_1, qk145_2, qk145_3, qk145_4, qk145_5, qk145_6, qk145_7, qk145_8, qk145_9, qk145_10]
set_option maxRecDepth 100000 in
theorem qe145 : qck0 yT1 [] qP 20000 [] [qk145_6] qs145 = true := by decide +kernel
set_option maxRecDepth 100000 in
theorem qf145_0 : qck1 yT1 [] qP 20000 [] [qk145_1] qs145 qk145_0 = true := by decide +kernel
set_option maxRecDepth 100000 in
theorem qf145_1 : qck1 yT1 [] qP 20000 [] [qk145_2] qs145 qk145_1 = true := by decide +kernel
set_option maxRecDepth 100000 in
theorem qf145_2 : qck1 yT1 [] qP 20000 [] [qk145_3] qs145 qk145_2 = true := by decide +kernel
set_option maxRecDepth 100000 in
theorem qf145_3 : qck1 yT1 [] qP 20000 [] [qk145_4] qs145 qk145_3 = true := by decide +kernel
set_option maxRecDepth 100000 in
theorem qf145_4 : qck1 yT1 [] qP 20000 [] [qk145_5] qs145 qk145_4 = true := by decide +kernel
set_option maxRecDepth 100000 in
theorem qf145_5 : qck1 yT1 [] qP 20000 [] [] qs145 qk145_5 = true := by decide +kernel
set_option maxRecDepth 100000 in
theorem qf145_6 : qck1 yT1 [] qP 20000 [] [qk145_7] qs145 qk145_6 = true := by decide +kernel
set_option maxRecDepth 100000 in
theorem qf145_7 : qck1 yT1 [] qP 20000 [] [qk145_8] qs145 qk145_7 = true := by decide +kernel
set_option maxRecDepth 100000 in
theorem qf145_8 : qck1 yT1 [] qP 20000 [] [qk145_9] qs145 qk145_8 = true := by decide +kernel
set_option maxRecDepth 100000 in
theorem qf145_9 : qck1 yT1 [] qP 20000 [] [qk145_10] qs145 qk145_9 = true := by decide +kernel
set_option maxRecDepth 100000 in
theorem qf145_10 : qck1 yT1 [] qP 20000 [] [qk145_0] qs145 qk145_10 = true := by decide +kernel
set_option maxRecDepth 100000 in
theorem qg145_11 : qHs yT1 [] qP 20000 [] qs145 qc145 [] := qHs_n
set_option maxRecDepth 100000 in
theorem qg145_10 : qHs yT1 [] qP 20000 [] qs145 qc145 [qk145_10] := qHs_c (qsb_c (i := 0) rfl qsb_n) qf145_10 qg145_11
set_option maxRecDepth 100000 in
theorem qg145_9 : qHs yT1 [] qP 20000 [] qs145 qc145 [qk145_9, qk145_10] := qHs_c (qsb_c (i := 10) rfl qsb_n) qf145_9 qg145_10
set_option maxRecDepth 100000 in
theorem qg145_8 : qHs yT1 [] qP 20000 [] qs145 qc145 [qk145_8, qk145_9, qk145_10] := qHs_c (qsb_c (i := 9) rfl qsb_n) qf145_8 qg145_9
set_option maxRecDepth 100000 in
theorem qg145_7 : qHs yT1 [] qP 20000 [] qs145 qc145 [qk145_7, qk145_8, qk145_9, qk145_10] := qHs_c (qsb_c (i := 8) rfl qsb_n) qf145_7 qg145_8
set_option maxRecDepth 100000 in
theorem qg145_6 : qHs yT1 [] qP 20000 [] qs145 qc145 [qk145_6, qk145_7, qk145_8, qk145_9, qk145_10] := qHs_c (qsb_c (i := 7) rfl qsb_n) qf145_6 qg145_7
set_option maxRecDepth 100000 in
theorem qg145_5 : qHs yT1 [] qP 20000 [] qs145 qc145 [qk145_5, qk145_6, qk145_7, qk145_8, qk145_9, qk145_10] := qHs_c qsb_n qf145_5 qg145_6
set_option maxRecDepth 100000 in
theorem qg145_4 : qHs yT1 [] qP 20000 [] qs145 qc145 [qk145_4, qk145_5, qk145_6, qk145_7, qk145_8, qk145_9, qk145_10] := qHs_c (qsb_c (i := 5) rfl qsb_n) qf145_4 qg145_5
set_option maxRecDepth 100000 in
theorem qg145_3 : qHs yT1 [] qP 20000 [] qs145 qc145 [qk145_3, qk145_4, qk145_5, qk145_6, qk145_7, qk145_8, qk145_9, qk145_10] := qHs_c (qsb_c (i := 4) rfl qsb_n) qf145_3 qg145_4
set_option maxRecDepth 100000 in
theorem qg145_2 : qHs yT1 [] qP 20000 [] qs145 qc145 [qk145_2, qk145_3, qk145_4, qk145_5, qk145_6, qk145_7, qk145_8, qk145_9, qk145_10] := qHs_c (qsb_c (i := 3) rfl qsb_n) qf145_2 qg145_3
set_option maxRecDepth 100000 in
theorem qg145_1 : qHs yT1 [] qP 20000 [] qs145 qc145 [qk145_1, qk145_2, qk145_3, qk145_4, qk145_5, qk145_6, qk145_7, qk145_8, qk145_9, qk145_10] := qHs_c (qsb_c (i := 2) rfl qsb_n) qf145_1 qg145_2
set_option maxRecDepth 100000 in
theorem qg145_0 : qHs yT1 [] qP 20000 [] qs145 qc145 [qk145_0, qk145_1, qk145_2, qk145_3, qk145_4, qk145_5, qk145_6, qk145_7, qk145_8, qk145_9, qk145_10] := qHs_c (qsb_c (i := 1) rfl qsb_n) qf145_0 qg145_1
set_option maxRecDepth 100000 in
theorem qo145 : qOK yT1 86 1471 qs145 := qck_ok2 (m := 4) (cuts := qc145) qall_n rfl (qsb_c (i := 6) rfl qsb_n) qe145 qg145_0 (by decide +kernel) (by decide +kernel)
def qc146 : List qCt := [((16, [[(.ofNat 0, .ofNat 0)], [(.ofNat 0, .ofNat 99)], [(.ofNat 0, .ofNat 99)]], [(0, .inr (.inr (.ref 71))), (1, .inl (1, .ofNat 0)), (2, .inl (2, .ofNat 0))], [], []), [], [(false, .ofNat 4984, (0, .ofNat 0)), (false, .ofNat 100, (2, .ofNat 0)), (false, .ofNat 9000, (0, .ofNat 0)), (false, .ofNat 0, (0, .ofNat 0))])]
set_option maxRecDepth 100000 in
theorem qe146 : qck0 yT1 [qs117, qs129, qs145] qP 20000 [] qc146 qs146 = true := by decide +kernel
set_option maxRecDepth 100000 in
theorem qf146 : qc146.all (qck1 yT1 [qs117, qs129, qs145] qP 20000 [] qc146 qs146) = true := by decide +kernel
set_option maxRecDepth 100000 in
theorem qo146 : qOK yT1 86 1471 qs146 := qck_ok (m := 4) (qall_c qo117 (qall_c qo129 (qall_c qo145 qall_n))) rfl qe146 qf146 (by decide +kernel) (by decide +kernel)
def qc147 : List qCt := []
set_option maxRecDepth 100000 in
theorem qe147 : qck0 yT1 [] qP 20000 [] qc147 qs147 = true := by decide +kernel
set_option maxRecDepth 100000 in
theorem qf147 : qc147.all (qck1 yT1 [] qP 20000 [] qc147 qs147) = true := by decide +kernel
set_option maxRecDepth 100000 in
theorem qo147 : qOK yT1 86 1471 qs147 := qck_ok (m := 0) qall_n rfl qe147 qf147 (by decide +kernel) (by decide +kernel)
def qc148 : List qCt := [((5, [[(.ofNat 0, .ofNat 0)], [(.negSucc 3, .negSucc 3), (.ofNat 0, .ofNat 99)], [(.ofNat 0, .ofNat 5)]], [(0, .inr (.inr (.ref 71))), (1, .inl (0, .ofNat 108)), (2, .inl (1, .ofNat 0)), (3, .inl (2, .ofNat 0))], [], []), [], [(false, .ofNat 4995, (0, .ofNat 0)), (false, .ofNat 6, (2, .ofNat 0)), (false, .ofNat 9000, (0, .ofNat 0)), (false, .ofNat 0, (0, .ofNat 0))])]
set_option maxRecDepth 100000 in
theorem qe148 : qck0 yT1 [] qP 20000 [] qc148 qs148 = true := by decide +kernel
set_option maxRecDepth 100000 in
theorem qf148 : qc148.all (qck1 yT1 [] qP 20000 [] qc148 qs148) = true := by decide +kernel
set_option maxRecDepth 100000 in
theorem qo148 : qOK yT1 86 1471 qs148 := qck_ok (m := 4) qall_n rfl qe148 qf148 (by decide +kernel) (by decide +kernel)
def qc149 : List qCt := [((11, [[(.ofNat 0, .ofNat 0)], [(.negSucc 2147483647, .ofNat 2147483647)], [(.negSucc 3, .negSucc 3), (.ofNat 0, .ofNat 4)], [(.negSucc 0, .ofNat 4)]], [(0, .inr (.inr (.ref 71))), (1, .inl (0, .ofNat 108)), (2, .inl (1, .ofNat 0)), (3, .inl (2, .ofNat 0)), (4, .inl (3, .ofNat 0))], [], []), [], [(false, .ofNat 4989, (0, .ofNat 0)), (true, .negSucc 1, (3, .ofNat 0)), (false, .ofNat 9000, (0, .ofNat 0)), (false, .ofNat 0, (0, .ofNat 0))])]
set_option maxRecDepth 100000 in
theorem qe149 : qck0 yT1 [qs148] qP 20000 [] qc149 qs149 = true := by decide +kernel
set_option maxRecDepth 100000 in
theorem qf149 : qc149.all (qck1 yT1 [qs148] qP 20000 [] qc149 qs149) = true := by decide +kernel
set_option maxRecDepth 100000 in
theorem qo149 : qOK yT1 86 1471 qs149 := qck_ok (m := 4) (qall_c qo148 qall_n) rfl qe149 qf149 (by decide +kernel) (by decide +kernel)
def qk150_0 : qCt := ((2, [[(.ofNat 0, .ofNat 0)], [(.ofNat 0, .ofNat 98)], [(.ofNat 0, .ofNat 98)], [(.ofNat 0, .ofNat 98)], [(.ofNat 0, .ofNat 98)], [(.ofNat 0, .ofNat 98)]], [(0, .inr (.inr (.ref 71))), (1, .inl (0, .ofNat 108)), (2, .inl (0, .ofNat 10))], [], [((72, 117), .inl (1, .ofNat 0)), ((72, 116), .inl (2, .ofNat 0)), ((72, 115), .inl (3, .ofNat 0)), ((72, 114), .inl (4, .ofNat 0)), ((72, 113), .inl (5, .ofNat 0))]), [], [(false, .ofNat 4998, (0, .ofNat 0)), (false, .ofNat 16, (0, .ofNat 10)), (false, .ofNat 9000, (0, .ofNat 0)), (false, .ofNat 0, (0, .ofNat 0))])
def qk150_1 : qCt := ((2, [[(.ofNat 0, .ofNat 0)], [(.ofNat 0, .ofNat 98)], [(.ofNat 0, .ofNat 98)], [(.ofNat 0, .ofNat 98)], [(.ofNat 0, .ofNat 98)], [(.ofNat 0, .ofNat 98)], [(.ofNat 0, .ofNat 98)]], [(0, .inr (.inr (.ref 71))), (1, .inl (0, .ofNat 108)), (2, .inl (0, .ofNat 11))], [], [((72, 118), .inl (1, .ofNat 0)), ((72, 117), .inl (2, .ofNat 0)), ((72, 116), .inl (3, .ofNat 0)), ((72, 115), .inl (4, .ofNat 0)), ((72, 114), .inl (5, .ofNat 0)), ((72, 113), .inl (6, .ofNat 0))]), [], [(false, .ofNat 4998, (0, .ofNat 0)), (false, .ofNat 16, (0, .ofNat 11)), (false, .ofNat 9000, (0, .ofNat 0)), (false, .ofNat 0, (0, .ofNat 0))])
def qk150_2 : qCt := ((2, [[(.ofNat 0, .ofNat 0)], [(.ofNat 0, .ofNat 98)], [(.ofNat 0, .ofNat 98)], [(.ofNat 0, .ofNat 98)], [(.ofNat 0, .ofNat 98)], [(.ofNat 0, .ofNat 98)], [(.ofNat 0, .ofNat 98)], [(.ofNat 0, .ofNat 98)]], [(0, .inr (.inr (.ref 71))), (1, .inl (0, .ofNat 108)), (2, .inl (0, .ofNat 12))], [], [((72, 119), .inl (1, .ofNat 0)), ((72, 118), .inl (2, .ofNat 0)), ((72, 117), .inl (3, .ofNat 0)), ((72, 116), .inl (4, .ofNat 0)), ((72, 115), .inl (5, .ofNat 0)), ((72, 114), .inl (6, .ofNat 0)), ((72, 113), .inl (7, .ofNat 0))]), [], [(false, .ofNat 4998, (0, .ofNat 0)), (false, .ofNat 16, (0, .ofNat 12)), (false, .ofNat 9000, (0, .ofNat 0)), (false, .ofNat 0, (0, .ofNat 0))])
def qk150_3 : qCt := ((2, [[(.ofNat 0, .ofNat 0)], [(.ofNat 0, .ofNat 98)], [(.ofNat 0, .ofNat 98)], [(.ofNat 0, .ofNat 98)], [(.ofNat 0, .ofNat 98)], [(.ofNat 0, .ofNat 98)], [(.ofNat 0, .ofNat 98)], [(.ofNat 0, .ofNat 98)], [(.ofNat 0, .ofNat 98)]], [(0, .inr (.inr (.ref 71))), (1, .inl (0, .ofNat 108)), (2, .inl (0, .ofNat 13))], [], [((72, 120), .inl (1, .ofNat 0)), ((72, 119), .inl (2, .ofNat 0)), ((72, 118), .inl (3, .ofNat 0)), ((72, 117), .inl (4, .ofNat 0)), ((72, 116), .inl (5, .ofNat 0)), ((72, 115), .inl (6, .ofNat 0)), ((72, 114), .inl (7, .ofNat 0)), ((72, 113), .inl (8, .ofNat 0))]), [], [(false, .ofNat 4998, (0, .ofNat 0)), (false, .ofNat 16, (0, .ofNat 13)), (false, .ofNat 9000, (0, .ofNat 0)), (false, .ofNat 0, (0, .ofNat 0))])
def qk150_4 : qCt := ((2, [[(.ofNat 0, .ofNat 0)], [(.ofNat 0, .ofNat 98)], [(.ofNat 0, .ofNat 98)], [(.ofNat 0, .ofNat 98)], [(.ofNat 0, .ofNat 98)], [(.ofNat 0, .ofNat 98)], [(.ofNat 0, .ofNat 98)], [(.ofNat 0, .ofNat 98)], [(.ofNat 0, .ofNat 98)], [(.ofNat 0, .ofNat 98)]], [(0, .inr (.inr (.ref 71))), (1, .inl (0, .ofNat 108)), (2, .inl (0, .ofNat 14))], [], [((72, 121), .inl (1, .ofNat 0)), ((72, 120), .inl (2, .ofNat 0)), ((72, 119), .inl (3, .ofNat 0)), ((72, 118), .inl (4, .ofNat 0)), ((72, 117), .inl (5, .ofNat 0)), ((72, 116), .inl (6, .ofNat 0)), ((72, 115), .inl (7, .ofNat 0)), ((72, 114), .inl (8, .ofNat 0)), ((72, 113), .inl (9, .ofNat 0))]), [], [(false, .ofNat 4998, (0, .ofNat 0)), (false, .ofNat 16, (0, .ofNat 14)), (false, .ofNat 9000, (0, .ofNat 0)), (false, .ofNat 0, (0, .ofNat 0))])
def qk150_5 : qCt := ((2, [[(.ofNat 0, .ofNat 0)], [(.ofNat 0, .ofNat 98)], [(.ofNat 0, .ofNat 98)], [(.ofNat 0, .ofNat 98)], [(.ofNat 0, .ofNat 98)], [(.ofNat 0, .ofNat 98)], [(.ofNat 0, .ofNat 98)], [(.ofNat 0, .ofNat 98)], [(.ofNat 0, .ofNat 98)], [(.ofNat 0, .ofNat 98)], [(.ofNat 0, .ofNat 98)]], [(0, .inr (.inr (.ref 71))), (1, .inl (0, .ofNat 108)), (2, .inl (0, .ofNat 15))], [], [((72, 122), .inl (1, .ofNat 0)), ((72, 121), .inl (2, .ofNat 0)), ((72, 120), .inl (3, .ofNat 0)), ((72, 119), .inl (4, .ofNat 0)), ((72, 118), .inl (5, .ofNat 0)), ((72, 117), .inl (6, .ofNat 0)), ((72, 116), .inl (7, .ofNat 0)), ((72, 115), .inl (8, .ofNat 0)), ((72, 114), .inl (9, .ofNat 0)), ((72, 113), .inl (10, .ofNat 0))]), [], [(false, .ofNat 4998, (0, .ofNat 0)), (false, .ofNat 16, (0, .ofNat 15)), (false, .ofNat 9000, (0, .ofNat 0)), (false, .ofNat 0, (0, .ofNat 0))])
def qk150_6 : qCt := ((2, [[(.ofNat 0, .ofNat 0)]], [(0, .inr (.inr (.ref 71))), (1, .inl (0, .ofNat 108)), (2, .inl (0, .ofNat 5))], [], []), [], [(false, .ofNat 4998, (0, .ofNat 0)), (false, .ofNat 16, (0, .ofNat 5)), (false, .ofNat 9000, (0, .ofNat 0)), (false, .ofNat 0, (0, .ofNat 0))])
def qk150_7 : qCt := ((2, [[(.ofNat 0, .ofNat 0)], [(.ofNat 0, .ofNat 98)]], [(0, .inr (.inr (.ref 71))), (1, .inl (0, .ofNat 108)), (2, .inl (0, .ofNat 6))], [], [((72, 113), .inl (1, .ofNat 0))]), [], [(false, .ofNat 4998, (0, .ofNat 0)), (false, .ofNat 16, (0, .ofNat 6)), (false, .ofNat 9000, (0, .ofNat 0)), (false, .ofNat 0, (0, .ofNat 0))])
def qk150_8 : qCt := ((2, [[(.ofNat 0, .ofNat 0)], [(.ofNat 0, .ofNat 98)], [(.ofNat 0, .ofNat 98)]], [(0, .inr (.inr (.ref 71))), (1, .inl (0, .ofNat 108)), (2, .inl (0, .ofNat 7))], [], [((72, 114), .inl (1, .ofNat 0)), ((72, 113), .inl (2, .ofNat 0))]), [], [(false, .ofNat 4998, (0, .ofNat 0)), (false, .ofNat 16, (0, .ofNat 7)), (false, .ofNat 9000, (0, .ofNat 0)), (false, .ofNat 0, (0, .ofNat 0))])
def qk150_9 : qCt := ((2, [[(.ofNat 0, .ofNat 0)], [(.ofNat 0, .ofNat 98)], [(.ofNat 0, .ofNat 98)], [(.ofNat 0, .ofNat 98)]], [(0, .inr (.inr (.ref 71))), (1, .inl (0, .ofNat 108)), (2, .inl (0, .ofNat 8))], [], [((72, 115), .inl (1, .ofNat 0)), ((72, 114), .inl (2, .ofNat 0)), ((72, 113), .inl (3, .ofNat 0))]), [], [(false, .ofNat 4998, (0, .ofNat 0)), (false, .ofNat 16, (0, .ofNat 8)), (false, .ofNat 9000, (0, .ofNat 0)), (false, .ofNat 0, (0, .ofNat 0))])
def qk150_10 : qCt := ((2, [[(.ofNat 0, .ofNat 0)], [(.ofNat 0, .ofNat 98)], [(.ofNat 0, .ofNat 98)], [(.ofNat 0, .ofNat 98)], [(.ofNat 0, .ofNat 98)]], [(0, .inr (.inr (.ref 71))), (1, .inl (0, .ofNat 108)), (2, .inl (0, .ofNat 9))], [], [((72, 116), .inl (1, .ofNat 0)), ((72, 115), .inl (2, .ofNat 0)), ((72, 114), .inl (3, .ofNat 0)), ((72, 113), .inl (4, .ofNat 0))]), [], [(false, .ofNat 4998, (0, .ofNat 0)), (false, .ofNat 16, (0, .ofNat 9)), (false, .ofNat 9000, (0, .ofNat 0)), (false, .ofNat 0, (0, .ofNat 0))])
def qc150 : List qCt := [qk150_0, qk150_1, qk150_2, qk150_3, qk150_4, qk150_5, qk150_6, qk150_7, qk150_8, qk150_9, qk150_10]
set_option maxRecDepth 100000 in
theorem qe150 : qck0 yT1 [] qP 20000 [] [qk150_6] qs150 = true := by decide +kernel
set_option maxRecDepth 100000 in
theorem qf150_0 : qck1 yT1 [] qP 20000 [] [qk150_1] qs150 qk150_0 = true := by decide +kernel
set_option maxRecDepth 100000 in
theorem qf150_1 : qck1 yT1 [] qP 20000 [] [qk150_2] qs150 qk150_1 = true := by decide +kernel
set_option maxRecDepth 100000 in
theorem qf150_2 : qck1 yT1 [] qP 20000 [] [qk150_3] qs150 qk150_2 = true := by decide +kernel
set_option maxRecDepth 100000 in
theorem qf150_3 : qck1 yT1 [] qP 20000 [] [qk150_4] qs150 qk150_3 = true := by decide +kernel
set_option maxRecDepth 100000 in
theorem qf150_4 : qck1 yT1 [] qP 20000 [] [qk150_5] qs150 qk150_4 = true := by decide +kernel
set_option maxRecDepth 100000 in
theorem qf150_5 : qck1 yT1 [] qP 20000 [] [] qs150 qk150_5 = true := by decide +kernel
set_option maxRecDepth 100000 in
theorem qf150_6 : qck1 yT1 [] qP 20000 [] [qk150_7] qs150 qk150_6 = true := by decide +kernel
set_option maxRecDepth 100000 in
theorem qf150_7 : qck1 yT1 [] qP 20000 [] [qk150_8] qs150 qk150_7 = true := by decide +kernel
set_option maxRecDepth 100000 in
theorem qf150_8 : qck1 yT1 [] qP 20000 [] [qk150_9] qs150 qk150_8 = true := by decide +kernel
set_option maxRecDepth 100000 in
theorem qf150_9 : qck1 yT1 [] qP 20000 [] [qk150_10] qs150 qk150_9 = true := by decide +kernel
set_option maxRecDepth 100000 in
theorem qf150_10 : qck1 yT1 [] qP 20000 [] [qk150_0] qs150 qk150_10 = true := by decide +kernel
set_option maxRecDepth 100000 in
theorem qg150_11 : qHs yT1 [] qP 20000 [] qs150 qc150 [] := qHs_n
set_option maxRecDepth 100000 in
theorem qg150_10 : qHs yT1 [] qP 20000 [] qs150 qc150 [qk150_10] := qHs_c (qsb_c (i := 0) rfl qsb_n) qf150_10 qg150_11
set_option maxRecDepth 100000 in
theorem qg150_9 : qHs yT1 [] qP 20000 [] qs150 qc150 [qk150_9, qk150_10] := qHs_c (qsb_c (i := 10) rfl qsb_n) qf150_9 qg150_10
set_option maxRecDepth 100000 in
theorem qg150_8 : qHs yT1 [] qP 20000 [] qs150 qc150 [qk150_8, qk150_9, qk150_10] := qHs_c (qsb_c (i := 9) rfl qsb_n) qf150_8 qg150_9
set_option maxRecDepth 100000 in
theorem qg150_7 : qHs yT1 [] qP 20000 [] qs150 qc150 [qk150_7, qk150_8, qk150_9, qk150_10] := qHs_c (qsb_c (i := 8) rfl qsb_n) qf150_7 qg150_8
set_option maxRecDepth 100000 in
theorem qg150_6 : qHs yT1 [] qP 20000 [] qs150 qc150 [qk150_6, qk150_7, qk150_8, qk150_9, qk150_10] := qHs_c (qsb_c (i := 7) rfl qsb_n) qf150_6 qg150_7
set_option maxRecDepth 100000 in
theorem qg150_5 : qHs yT1 [] qP 20000 [] qs150 qc150 [qk150_5, qk150_6, qk150_7, qk150_8, qk150_9, qk150_10] := qHs_c qsb_n qf150_5 qg150_6
set_option maxRecDepth 100000 in
theorem qg150_4 : qHs yT1 [] qP 20000 [] qs150 qc150 [qk150_4, qk150_5, qk150_6, qk150_7, qk150_8, qk150_9, qk150_10] := qHs_c (qsb_c (i := 5) rfl qsb_n) qf150_4 qg150_5
set_option maxRecDepth 100000 in
theorem qg150_3 : qHs yT1 [] qP 20000 [] qs150 qc150 [qk150_3, qk150_4, qk150_5, qk150_6, qk150_7, qk150_8, qk150_9, qk150_10] := qHs_c (qsb_c (i := 4) rfl qsb_n) qf150_3 qg150_4
set_option maxRecDepth 100000 in
theorem qg150_2 : qHs yT1 [] qP 20000 [] qs150 qc150 [qk150_2, qk150_3, qk150_4, qk150_5, qk150_6, qk150_7, qk150_8, qk150_9, qk150_10] := qHs_c (qsb_c (i := 3) rfl qsb_n) qf150_2 qg150_3
set_option maxRecDepth 100000 in
theorem qg150_1 : qHs yT1 [] qP 20000 [] qs150 qc150 [qk150_1, qk150_2, qk150_3, qk150_4, qk150_5, qk150_6, qk150_7, qk150_8, qk150_9, qk150_10] := qHs_c (qsb_c (i := 2) rfl qsb_n) qf150_1 qg150_2
set_option maxRecDepth 100000 in
theorem qg150_0 : qHs yT1 [] qP 20000 [] qs150 qc150 [qk150_0, qk150_1, qk150_2, qk150_3, qk150_4, qk150_5, qk150_6, qk150_7, qk150_8, qk150_9, qk150_10] := qHs_c (qsb_c (i := 1) rfl qsb_n) qf150_0 qg150_1
set_option maxRecDepth 100000 in
theorem qo150 : qOK yT1 86 1471 qs150 := qck_ok2 (m := 4) (cuts := qc150) qall_n rfl (qsb_c (i := 6) rfl qsb_n) qe150 qg150_0 (by decide +kernel) (by decide +kernel)
def qc151 : List qCt := [((18, [[(.ofNat 0, .ofNat 0)], [(.negSucc 2147483647, .ofNat 2147483647)], [(.ofNat 0, .ofNat 8)], [(.negSucc 3, .negSucc 3), (.ofNat 0, .ofNat 7)]], [(0, .inr (.inr (.ref 71))), (1, .inl (1, .ofNat 0)), (2, .inl (2, .ofNat 0))], [], [((71, 20), .inl (3, .ofNat 0))]), [], [(false, .ofNat 4982, (0, .ofNat 0)), (false, .ofNat 9, (2, .ofNat 0)), (false, .ofNat 9000, (0, .ofNat 0)), (false, .ofNat 0, (0, .ofNat 0))])]
set_option maxRecDepth 100000 in
theorem qe151 : qck0 yT1 [qs149, qs150] qP 20000 [] qc151 qs151 = true := by decide +kernel
set_option maxRecDepth 100000 in
theorem qf151 : qc151.all (qck1 yT1 [qs149, qs150] qP 20000 [] qc151 qs151) = true := by decide +kernel
set_option maxRecDepth 100000 in
theorem qo151 : qOK yT1 86 1471 qs151 := qck_ok (m := 4) (qall_c qo149 (qall_c qo150 qall_n)) rfl qe151 qf151 (by decide +kernel) (by decide +kernel)
def qc152 : List qCt := [((5, [[(.ofNat 0, .ofNat 0)], [(.negSucc 3, .negSucc 3), (.ofNat 0, .ofNat 99)], [(.ofNat 0, .ofNat 5)]], [(0, .inr (.inr (.ref 71))), (1, .inl (0, .ofNat 108)), (2, .inl (1, .ofNat 0)), (3, .inl (2, .ofNat 0))], [], []), [], [(false, .ofNat 4995, (0, .ofNat 0)), (false, .ofNat 6, (2, .ofNat 0)), (false, .ofNat 9000, (0, .ofNat 0)), (false, .ofNat 0, (0, .ofNat 0))])]
set_option maxRecDepth 100000 in
theorem qe152 : qck0 yT1 [] qP 20000 [] qc152 qs152 = true := by decide +kernel
set_option maxRecDepth 100000 in
theorem qf152 : qc152.all (qck1 yT1 [] qP 20000 [] qc152 qs152) = true := by decide +kernel
set_option maxRecDepth 100000 in
theorem qo152 : qOK yT1 86 1471 qs152 := qck_ok (m := 4) qall_n rfl qe152 qf152 (by decide +kernel) (by decide +kernel)
def qc153 : List qCt := []
set_option maxRecDepth 100000 in
theorem qe153 : qck0 yT1 [qs134, qs147, qs151, qs152] qP 20000 [] qc153 qs153 = true := by decide +kernel
set_option maxRecDepth 100000 in
theorem qf153 : qc153.all (qck1 yT1 [qs134, qs147, qs151, qs152] qP 20000 [] qc153 qs153) = true := by decide +kernel
set_option maxRecDepth 100000 in
theorem qo153 : qOK yT1 86 1471 qs153 := qck_ok (m := 0) (qall_c qo134 (qall_c qo147 (qall_c qo151 (qall_c qo152 qall_n)))) rfl qe153 qf153 (by decide +kernel) (by decide +kernel)
def qc154 : List qCt := []
set_option maxRecDepth 100000 in
theorem qe154 : qck0 yT1 [qs147, qs151] qP 20000 [] qc154 qs154 = true := by decide +kernel
set_option maxRecDepth 100000 in
theorem qf154 : qc154.all (qck1 yT1 [qs147, qs151] qP 20000 [] qc154 qs154) = true := by decide +kernel
set_option maxRecDepth 100000 in
theorem qo154 : qOK yT1 86 1471 qs154 := qck_ok (m := 0) (qall_c qo147 (qall_c qo151 qall_n)) rfl qe154 qf154 (by decide +kernel) (by decide +kernel)
def qc155 : List qCt := [((9, [[(.ofNat 0, .ofNat 0)], [(.ofNat 1, .ofNat 61)]], [(0, .inr (.inr (.ref 71))), (1, .inl (1, .ofNat 0))], [], []), [], [(false, .ofNat 4991, (0, .ofNat 0)), (false, .ofNat 62, (1, .ofNat 0)), (false, .ofNat 9000, (0, .ofNat 0)), (false, .ofNat 0, (0, .ofNat 0))])]
set_option maxRecDepth 100000 in
theorem qe155 : qck0 yT1 [qs147, qs151] qP 20000 [] qc155 qs155 = true := by decide +kernel
set_option maxRecDepth 100000 in
theorem qf155 : qc155.all (qck1 yT1 [qs147, qs151] qP 20000 [] qc155 qs155) = true := by decide +kernel
set_option maxRecDepth 100000 in
theorem qo155 : qOK yT1 86 1471 qs155 := qck_ok (m := 4) (qall_c qo147 (qall_c qo151 qall_n)) rfl qe155 qf155 (by decide +kernel) (by decide +kernel)
def qc156 : List qCt := []
set_option maxRecDepth 100000 in
theorem qe156 : qck0 yT1 [] qP 20000 [] qc156 qs156 = true := by decide +kernel
set_option maxRecDepth 100000 in
theorem qf156 : qc156.all (qck1 yT1 [] qP 20000 [] qc156 qs156) = true := by decide +kernel
set_option maxRecDepth 100000 in
theorem qo156 : qOK yT1 86 1471 qs156 := qck_ok (m := 0) qall_n rfl qe156 qf156 (by decide +kernel) (by decide +kernel)
def qc157 : List qCt := []
set_option maxRecDepth 100000 in
theorem qe157 : qck0 yT1 [] qP 20000 [] qc157 qs157 = true := by decide +kernel
set_option maxRecDepth 100000 in
theorem qf157 : qc157.all (qck1 yT1 [] qP 20000 [] qc157 qs157) = true := by decide +kernel
set_option maxRecDepth 100000 in
theorem qo157 : qOK yT1 86 1471 qs157 := qck_ok (m := 0) qall_n rfl qe157 qf157 (by decide +kernel) (by decide +kernel)
def qc158 : List qCt := []
set_option maxRecDepth 100000 in
theorem qe158 : qck0 yT1 [] qP 20000 [] qc158 qs158 = true := by decide +kernel
set_option maxRecDepth 100000 in
theorem qf158 : qc158.all (qck1 yT1 [] qP 20000 [] qc158 qs158) = true := by decide +kernel
set_option maxRecDepth 100000 in
theorem qo158 : qOK yT1 86 1471 qs158 := qck_ok (m := 0) qall_n rfl qe158 qf158 (by decide +kernel) (by decide +kernel)
def qk159_0 : qCt := ((48, [[(.ofNat 0, .ofNat 0)], [(.ofNat 1, .ofNat 31)], [(.ofNat 0, .ofNat 0), (.ofNat 10, .ofNat 14)], [(.ofNat 1, .ofNat 31)], [(.ofNat 0, .ofNat 5)], [(.negSucc 0, .ofNat 2147483647)], [(.ofNat 0, .ofNat 3124)], [(.ofNat 0, .ofNat 3125)]], [(0, .inr (.inr (.ref 71))), (1, .inl (3, .ofNat 0)), (2, .inl (2, .ofNat 0)), (3, .inl (4, .ofNat 0)), (4, .inl (5, .ofNat 0)), (5, .inl (6, .ofNat 0)), (6, .inl (7, .ofNat 0))], [], []), [], [(false, .ofNat 4952, (0, .ofNat 0)), (false, .ofNat 3126, (7, .ofNat 0)), (false, .ofNat 9000, (0, .ofNat 0)), (false, .ofNat 0, (0, .ofNat 0)), (false, .ofNat 9000, (0, .ofNat 0)), (false, .ofNat 0, (0, .ofNat 0))])
def qk159_1 : qCt := ((63, [[(.ofNat 0, .ofNat 0)], [(.ofNat 1, .ofNat 31)], [(.ofNat 0, .ofNat 0), (.ofNat 10, .ofNat 14)], [(.ofNat 1, .ofNat 31)], [(.ofNat 0, .ofNat 5)], [(.negSucc 0, .ofNat 2147483647)], [(.ofNat 0, .ofNat 3124)], [(.ofNat 0, .ofNat 3124)], [(.ofNat 0, .ofNat 31)], [(.ofNat 0, .ofNat 5)]], [(0, .inr (.inr (.ref 71))), (1, .inl (3, .ofNat 0)), (2, .inl (2, .ofNat 0)), (3, .inl (4, .ofNat 0)), (4, .inl (5, .ofNat 0)), (5, .inl (6, .ofNat 0)), (6, .inl (7, .ofNat 0)), (7, .inl (8, .ofNat 0)), (8, .inl (9, .ofNat 0))], [], []), [], [(false, .ofNat 4952, (0, .ofNat 0)), (false, .ofNat 3126, (7, .ofNat 0)), (false, .ofNat 4937, (0, .ofNat 0)), (false, .ofNat 6, (9, .ofNat 0)), (false, .ofNat 9000, (0, .ofNat 0)), (false, .ofNat 0, (0, .ofNat 0))])
def qk159_2 : qCt := ((109, [[(.ofNat 0, .ofNat 0)], [(.ofNat 1, .ofNat 31)], [(.ofNat 0, .ofNat 0), (.ofNat 10, .ofNat 14)], [(.ofNat 1, .ofNat 31)], [(.ofNat 0, .ofNat 5)], [(.negSucc 0, .ofNat 2147483647)], [(.ofNat 0, .ofNat 3124)], [(.ofNat 0, .ofNat 3124)], [(.ofNat 1, .ofNat 31)], [(.negSucc 2147483647, .ofNat 2147483647)], [(.ofNat 0, .ofNat 5)]], [(0, .inr (.inr (.ref 71))), (1, .inl (3, .ofNat 0)), (2, .inl (2, .ofNat 0)), (3, .inl (4, .ofNat 0)), (4, .inl (5, .ofNat 0)), (5, .inl (6, .ofNat 0)), (6, .inl (7, .ofNat 0)), (7, .inl (8, .ofNat 0)), (8, .inl (9, .ofNat 0)), (9, .inl (10, .ofNat 0))], [], []), [], [(false, .ofNat 4952, (0, .ofNat 0)), (false, .ofNat 3126, (7, .ofNat 0)), (false, .ofNat 4891, (0, .ofNat 0)), (false, .ofNat 6, (10, .ofNat 0)), (false, .ofNat 9000, (0, .ofNat 0)), (false, .ofNat 0, (0, .ofNat 0))])
def qc159 : List qCt := [qk159_0, qk159_1, qk159_2]
set_option maxRecDepth 100000 in
theorem qe159 : qck0 yT1 [qs156, qs157, qs158, qs147, qs149] qP 20000 [] [qk159_0] qs159 = true := by decide +kernel
set_option maxRecDepth 100000 in
theorem qf159_0 : qck1 yT1 [qs156, qs157, qs158, qs147, qs149] qP 20000 [] [qk159_1] qs159 qk159_0 = true := by decide +kernel
set_option maxRecDepth 100000 in
theorem qf159_1 : qck1 yT1 [qs156, qs157, qs158, qs147, qs149] qP 20000 [] [qk159_0, qk159_2, qk159_1] qs159 qk159_1 = true := by decide +kernel
set_option maxRecDepth 100000 in
theorem qf159_2 : qck1 yT1 [qs156, qs157, qs158, qs147, qs149] qP 20000 [] [qk159_0, qk159_2] qs159 qk159_2 = true := by decide +kernel
set_option maxRecDepth 100000 in
theorem qg159_3 : qHs yT1 [qs156, qs157, qs158, qs147, qs149] qP 20000 [] qs159 qc159 [] := qHs_n
set_option maxRecDepth 100000 in
theorem qg159_2 : qHs yT1 [qs156, qs157, qs158, qs147, qs149] qP 20000 [] qs159 qc159 [qk159_2] := qHs_c (qsb_c (i := 0) rfl (qsb_c (i := 2) rfl qsb_n)) qf159_2 qg159_3
set_option maxRecDepth 100000 in
theorem qg159_1 : qHs yT1 [qs156, qs157, qs158, qs147, qs149] qP 20000 [] qs159 qc159 [qk159_1, qk159_2] := qHs_c (qsb_c (i := 0) rfl (qsb_c (i := 2) rfl (qsb_c (i := 1) rfl qsb_n))) qf159_1 qg159_2
set_option maxRecDepth 100000 in
theorem qg159_0 : qHs yT1 [qs156, qs157, qs158, qs147, qs149] qP 20000 [] qs159 qc159 [qk159_0, qk159_1, qk159_2] := qHs_c (qsb_c (i := 1) rfl qsb_n) qf159_0 qg159_1
set_option maxRecDepth 100000 in
theorem qo159 : qOK yT1 86 1471 qs159 := qck_ok2 (m := 6) (cuts := qc159) (qall_c qo156 (qall_c qo157 (qall_c qo158 (qall_c qo147 (qall_c qo149 qall_n))))) rfl (qsb_c (i := 0) rfl qsb_n) qe159 qg159_0 (by decide +kernel) (by decide +kernel)
def qc160 : List qCt := []
set_option maxRecDepth 100000 in
theorem qe160 : qck0 yT1 [] qP 20000 [] qc160 qs160 = true := by decide +kernel
set_option maxRecDepth 100000 in
theorem qf160 : qc160.all (qck1 yT1 [] qP 20000 [] qc160 qs160) = true := by decide +kernel
set_option maxRecDepth 100000 in
theorem qo160 : qOK yT1 86 1471 qs160 := qck_ok (m := 0) qall_n rfl qe160 qf160 (by decide +kernel) (by decide +kernel)
