/-! the methods are as their summaries say, 0 -/
def qc0 : List qCt := []
set_option maxRecDepth 100000 in
theorem qe0 : qck0 yT1 [] qP 20000 [] qc0 qs0 = true := by decide +kernel
set_option maxRecDepth 100000 in
theorem qf0 : qc0.all (qck1 yT1 [] qP 20000 [] qc0 qs0) = true := by decide +kernel
set_option maxRecDepth 100000 in
theorem qo0 : qOK yT1 86 1471 qs0 := qck_ok (m := 0) qall_n rfl qe0 qf0 (by decide +kernel) (by decide +kernel)
def qc1 : List qCt := []
set_option maxRecDepth 100000 in
theorem qe1 : qck0 yT1 [] qP 20000 [] qc1 qs1 = true := by decide +kernel
set_option maxRecDepth 100000 in
theorem qf1 : qc1.all (qck1 yT1 [] qP 20000 [] qc1 qs1) = true := by decide +kernel
set_option maxRecDepth 100000 in
theorem qo1 : qOK yT1 86 1471 qs1 := qck_ok (m := 0) qall_n rfl qe1 qf1 (by decide +kernel) (by decide +kernel)
def qk2_0 : qCt := ((0, [[(.ofNat 0, .ofNat 0)], [(.ofNat 1, .ofNat 160)], [(.ofNat 1, .ofNat 160)]], [(0, .inr (.inr (.ref 1)))], [], [((1, 6), .inl (1, .ofNat 0)), ((1, 2), .inl (2, .ofNat 0))]), [], [(false, .ofNat 5000, (0, .ofNat 0)), (false, .ofNat 161, (1, .ofNat 0)), (false, .ofNat 9000, (0, .ofNat 0)), (false, .ofNat 0, (0, .ofNat 0))])
def qk2_1 : qCt := ((95, [[(.ofNat 0, .ofNat 0)], [(.ofNat 97, .ofNat 122)], [(.ofNat 1, .ofNat 160)], [(.ofNat 0, .ofNat 159)], [(.ofNat 1, .ofNat 160)]], [(0, .inr (.inr (.ref 1))), (1, .inl (1, .ofNat 0))], [], [((1, 6), .inl (2, .ofNat 0)), ((1, 9), .inl (0, .ofNat 0)), ((1, 8), .inl (3, .ofNat 0)), ((1, 2), .inl (4, .ofNat 0))]), [], [(false, .ofNat 4905, (0, .ofNat 0)), (false, .ofNat 161, (2, .ofNat 0)), (false, .ofNat 9000, (0, .ofNat 0)), (false, .ofNat 0, (0, .ofNat 0))])
def qk2_2 : qCt := ((157, [[(.ofNat 0, .ofNat 0)], [(.ofNat 48, .ofNat 57)], [(.ofNat 3, .ofNat 160)], [(.ofNat 0, .ofNat 157)], [(.ofNat 3, .ofNat 160)]], [(0, .inr (.inr (.ref 1))), (1, .inl (1, .ofNat 0))], [], [((1, 6), .inl (2, .ofNat 0)), ((1, 8), .inl (3, .ofNat 0)), ((1, 2), .inl (4, .ofNat 0))]), [.inl (2, 3, .ofNat 3)], [(false, .ofNat 4843, (0, .ofNat 0)), (false, .ofNat 161, (2, .ofNat 0)), (false, .ofNat 9000, (0, .ofNat 0)), (false, .ofNat 0, (0, .ofNat 0))])
def qk2_3 : qCt := ((157, [[(.ofNat 0, .ofNat 0)], [(.ofNat 48, .ofNat 57)], [(.ofNat 1, .ofNat 160)], [(.ofNat 1, .ofNat 160)]], [(0, .inr (.inr (.ref 1))), (1, .inl (1, .ofNat 0))], [], [((1, 9), .inl (1, .negSucc 47)), ((1, 6), .inl (2, .ofNat 0)), ((1, 8), .inl (2, .negSucc 0)), ((1, 2), .inl (3, .ofNat 0))]), [], [(false, .ofNat 4843, (0, .ofNat 0)), (false, .ofNat 161, (2, .ofNat 0)), (false, .ofNat 9000, (0, .ofNat 0)), (false, .ofNat 0, (0, .ofNat 0))])
def qk2_4 : qCt := ((157, [[(.ofNat 0, .ofNat 0)], [(.ofNat 48, .ofNat 57)], [(.ofNat 2, .ofNat 160)], [(.ofNat 0, .ofNat 99)], [(.ofNat 2, .ofNat 160)]], [(0, .inr (.inr (.ref 1))), (1, .inl (1, .ofNat 0))], [], [((1, 6), .inl (2, .ofNat 0)), ((1, 9), .inl (3, .ofNat 0)), ((1, 8), .inl (2, .negSucc 1)), ((1, 2), .inl (4, .ofNat 0))]), [], [(false, .ofNat 4843, (0, .ofNat 0)), (false, .ofNat 161, (2, .ofNat 0)), (false, .ofNat 9000, (0, .ofNat 0)), (false, .ofNat 0, (0, .ofNat 0))])
def qc2 : List qCt := [qk2_0, qk2_1, qk2_2, qk2_3, qk2_4]
set_option maxRecDepth 100000 in
theorem qe2 : qck0 yT1 [] qP 20000 [] [qk2_3, qk2_1, qk2_0] qs2 = true := by decide +kernel
set_option maxRecDepth 100000 in
theorem qf2_0 : qck1 yT1 [] qP 20000 [] [qk2_3, qk2_1, qk2_0] qs2 qk2_0 = true := by decide +kernel
set_option maxRecDepth 100000 in
theorem qf2_1 : qck1 yT1 [] qP 20000 [] [qk2_1] qs2 qk2_1 = true := by decide +kernel
set_option maxRecDepth 100000 in
theorem qf2_2 : qck1 yT1 [] qP 20000 [] [qk2_2] qs2 qk2_2 = true := by decide +kernel
set_option maxRecDepth 100000 in
theorem qf2_3 : qck1 yT1 [] qP 20000 [] [qk2_4] qs2 qk2_3 = true := by decide +kernel
set_option maxRecDepth 100000 in
theorem qf2_4 : qck1 yT1 [] qP 20000 [] [qk2_2] qs2 qk2_4 = true := by decide +kernel
set_option maxRecDepth 100000 in
theorem qg2_5 : qHs yT1 [] qP 20000 [] qs2 qc2 [] := qHs_n
set_option maxRecDepth 100000 in
theorem qg2_4 : qHs yT1 [] qP 20000 [] qs2 qc2 [qk2_4] := qHs_c (qsb_c (i := 2) rfl qsb_n) qf2_4 qg2_5
set_option maxRecDepth 100000 in
theorem qg2_3 : qHs yT1 [] qP 20000 [] qs2 qc2 [qk2_3, qk2_4] := qHs_c (qsb_c (i := 4) rfl qsb_n) qf2_3 qg2_4
set_option maxRecDepth 100000 in
theorem qg2_2 : qHs yT1 [] qP 20000 [] qs2 qc2 [qk2_2, qk2_3, qk2_4] := qHs_c (qsb_c (i := 2) rfl qsb_n) qf2_2 qg2_3
set_option maxRecDepth 100000 in
theorem qg2_1 : qHs yT1 [] qP 20000 [] qs2 qc2 [qk2_1, qk2_2, qk2_3, qk2_4] := qHs_c (qsb_c (i := 1) rfl qsb_n) qf2_1 qg2_2
set_option maxRecDepth 100000 in
theorem qg2_0 : qHs yT1 [] qP 20000 [] qs2 qc2 [qk2_0, qk2_1, qk2_2, qk2_3, qk2_4] := qHs_c (qsb_c (i := 3) rfl (qsb_c (i := 1) rfl (qsb_c (i := 0) rfl qsb_n))) qf2_0 qg2_1
set_option maxRecDepth 100000 in
theorem qo2 : qOK yT1 86 1471 qs2 := qck_ok2 (m := 4) (cuts := qc2) qall_n rfl (qsb_c (i := 3) rfl (qsb_c (i := 1) rfl (qsb_c (i := 0) rfl qsb_n))) qe2 qg2_0 (by decide +kernel) (by decide +kernel)
def qc3 : List qCt := [((2, [[(.ofNat 0, .ofNat 0)], [(.negSucc 2147483647, .ofNat 2147483647)], [(.ofNat 0, .ofNat 5)]], [(0, .inr (.inr (.ref 3))), (1, .inl (1, .ofNat 0)), (2, .inl (2, .ofNat 0))], [], []), [], [(false, .ofNat 4998, (0, .ofNat 0)), (false, .ofNat 6, (2, .ofNat 0)), (false, .ofNat 9000, (0, .ofNat 0)), (false, .ofNat 0, (0, .ofNat 0))])]
set_option maxRecDepth 100000 in
theorem qe3 : qck0 yT1 [] qP 20000 [] qc3 qs3 = true := by decide +kernel
set_option maxRecDepth 100000 in
theorem qf3 : qc3.all (qck1 yT1 [] qP 20000 [] qc3 qs3) = true := by decide +kernel
set_option maxRecDepth 100000 in
theorem qo3 : qOK yT1 86 1471 qs3 := qck_ok (m := 4) qall_n rfl qe3 qf3 (by decide +kernel) (by decide +kernel)
def qc4 : List qCt := [((7, [[(.ofNat 0, .ofNat 0)], [(.negSucc 2147483647, .ofNat 2147483647)], [(.ofNat 0, .ofNat 8)]], [(0, .inr (.inr (.ref 1))), (1, .inl (1, .ofNat 0)), (2, .inl (2, .ofNat 0))], [], []), [], [(false, .ofNat 4993, (0, .ofNat 0)), (false, .ofNat 9, (2, .ofNat 0)), (false, .ofNat 9000, (0, .ofNat 0)), (false, .ofNat 0, (0, .ofNat 0))])]
set_option maxRecDepth 100000 in
theorem qe4 : qck0 yT1 [qs3] qP 20000 [] qc4 qs4 = true := by decide +kernel
set_option maxRecDepth 100000 in
theorem qf4 : qc4.all (qck1 yT1 [qs3] qP 20000 [] qc4 qs4) = true := by decide +kernel
set_option maxRecDepth 100000 in
theorem qo4 : qOK yT1 86 1471 qs4 := qck_ok (m := 4) (qall_c qo3 qall_n) rfl qe4 qf4 (by decide +kernel) (by decide +kernel)
def qc5 : List qCt := []
set_option maxRecDepth 100000 in
theorem qe5 : qck0 yT1 [] qP 20000 [] qc5 qs5 = true := by decide +kernel
set_option maxRecDepth 100000 in
theorem qf5 : qc5.all (qck1 yT1 [] qP 20000 [] qc5 qs5) = true := by decide +kernel
set_option maxRecDepth 100000 in
theorem qo5 : qOK yT1 86 1471 qs5 := qck_ok (m := 0) qall_n rfl qe5 qf5 (by decide +kernel) (by decide +kernel)
def qc6 : List qCt := []
set_option maxRecDepth 100000 in
theorem qe6 : qck0 yT1 [] qP 20000 [] qc6 qs6 = true := by decide +kernel
set_option maxRecDepth 100000 in
theorem qf6 : qc6.all (qck1 yT1 [] qP 20000 [] qc6 qs6) = true := by decide +kernel
set_option maxRecDepth 100000 in
theorem qo6 : qOK yT1 86 1471 qs6 := qck_ok (m := 0) qall_n rfl qe6 qf6 (by decide +kernel) (by decide +kernel)
def qc7 : List qCt := []
set_option maxRecDepth 100000 in
theorem qe7 : qck0 yT1 [] qP 20000 [] qc7 qs7 = true := by decide +kernel
set_option maxRecDepth 100000 in
theorem qf7 : qc7.all (qck1 yT1 [] qP 20000 [] qc7 qs7) = true := by decide +kernel
set_option maxRecDepth 100000 in
theorem qo7 : qOK yT1 86 1471 qs7 := qck_ok (m := 0) qall_n rfl qe7 qf7 (by decide +kernel) (by decide +kernel)
def qc8 : List qCt := []
set_option maxRecDepth 100000 in
theorem qe8 : qck0 yT1 [] qP 20000 [] qc8 qs8 = true := by decide +kernel
set_option maxRecDepth 100000 in
theorem qf8 : qc8.all (qck1 yT1 [] qP 20000 [] qc8 qs8) = true := by decide +kernel
set_option maxRecDepth 100000 in
theorem qo8 : qOK yT1 86 1471 qs8 := qck_ok (m := 0) qall_n rfl qe8 qf8 (by decide +kernel) (by decide +kernel)
def qc9 : List qCt := []
set_option maxRecDepth 100000 in
theorem qe9 : qck0 yT1 [] qP 20000 [] qc9 qs9 = true := by decide +kernel
set_option maxRecDepth 100000 in
theorem qf9 : qc9.all (qck1 yT1 [] qP 20000 [] qc9 qs9) = true := by decide +kernel
set_option maxRecDepth 100000 in
theorem qo9 : qOK yT1 86 1471 qs9 := qck_ok (m := 0) qall_n rfl qe9 qf9 (by decide +kernel) (by decide +kernel)
def qc10 : List qCt := []
set_option maxRecDepth 100000 in
theorem qe10 : qck0 yT1 [] qP 20000 [] qc10 qs10 = true := by decide +kernel
set_option maxRecDepth 100000 in
theorem qf10 : qc10.all (qck1 yT1 [] qP 20000 [] qc10 qs10) = true := by decide +kernel
set_option maxRecDepth 100000 in
theorem qo10 : qOK yT1 86 1471 qs10 := qck_ok (m := 0) qall_n rfl qe10 qf10 (by decide +kernel) (by decide +kernel)
def qc11 : List qCt := []
set_option maxRecDepth 100000 in
theorem qe11 : qck0 yT1 [] qP 20000 [] qc11 qs11 = true := by decide +kernel
set_option maxRecDepth 100000 in
theorem qf11 : qc11.all (qck1 yT1 [] qP 20000 [] qc11 qs11) = true := by decide +kernel
set_option maxRecDepth 100000 in
theorem qo11 : qOK yT1 86 1471 qs11 := qck_ok (m := 0) qall_n rfl qe11 qf11 (by decide +kernel) (by decide +kernel)
def qc12 : List qCt := []
set_option maxRecDepth 100000 in
theorem qe12 : qck0 yT1 [qs5, qs6, qs7, qs8, qs9, qs10, qs11] qP 20000 [] qc12 qs12 = true := by decide +kernel
set_option maxRecDepth 100000 in
theorem qf12 : qc12.all (qck1 yT1 [qs5, qs6, qs7, qs8, qs9, qs10, qs11] qP 20000 [] qc12 qs12) = true := by decide +kernel
set_option maxRecDepth 100000 in
theorem qo12 : qOK yT1 86 1471 qs12 := qck_ok (m := 0) (qall_c qo5 (qall_c qo6 (qall_c qo7 (qall_c qo8 (qall_c qo9 (qall_c qo10 (qall_c qo11 qall_n))))))) rfl qe12 qf12 (by decide +kernel) (by decide +kernel)
def qc13 : List qCt := []
set_option maxRecDepth 100000 in
theorem qe13 : qck0 yT1 [qs2] qP 20000 [] qc13 qs13 = true := by decide +kernel
set_option maxRecDepth 100000 in
theorem qf13 : qc13.all (qck1 yT1 [qs2] qP 20000 [] qc13 qs13) = true := by decide +kernel
set_option maxRecDepth 100000 in
theorem qo13 : qOK yT1 86 1471 qs13 := qck_ok (m := 0) (qall_c qo2 qall_n) rfl qe13 qf13 (by decide +kernel) (by decide +kernel)
def qc14 : List qCt := []
set_option maxRecDepth 100000 in
theorem qe14 : qck0 yT1 [qs2] qP 20000 [] qc14 qs14 = true := by decide +kernel
set_option maxRecDepth 100000 in
theorem qf14 : qc14.all (qck1 yT1 [qs2] qP 20000 [] qc14 qs14) = true := by decide +kernel
set_option maxRecDepth 100000 in
theorem qo14 : qOK yT1 86 1471 qs14 := qck_ok (m := 0) (qall_c qo2 qall_n) rfl qe14 qf14 (by decide +kernel) (by decide +kernel)
def qc15 : List qCt := []
set_option maxRecDepth 100000 in
theorem qe15 : qck0 yT1 [qs2] qP 20000 [] qc15 qs15 = true := by decide +kernel
set_option maxRecDepth 100000 in
theorem qf15 : qc15.all (qck1 yT1 [qs2] qP 20000 [] qc15 qs15) = true := by decide +kernel
set_option maxRecDepth 100000 in
theorem qo15 : qOK yT1 86 1471 qs15 := qck_ok (m := 0) (qall_c qo2 qall_n) rfl qe15 qf15 (by decide +kernel) (by decide +kernel)
def qc16 : List qCt := []
set_option maxRecDepth 100000 in
theorem qe16 : qck0 yT1 [qs2] qP 20000 [] qc16 qs16 = true := by decide +kernel
set_option maxRecDepth 100000 in
theorem qf16 : qc16.all (qck1 yT1 [qs2] qP 20000 [] qc16 qs16) = true := by decide +kernel
set_option maxRecDepth 100000 in
theorem qo16 : qOK yT1 86 1471 qs16 := qck_ok (m := 0) (qall_c qo2 qall_n) rfl qe16 qf16 (by decide +kernel) (by decide +kernel)
def qc17 : List qCt := [((24, [[(.ofNat 0, .ofNat 0)], [(.ofNat 0, .ofNat 8)]], [(0, .inr (.inr (.ref 1))), (1, .inl (1, .ofNat 0))], [], [((1, 12), .inl (0, .ofNat 1))]), [], [(false, .ofNat 4976, (0, .ofNat 0)), (false, .ofNat 9, (1, .ofNat 0)), (false, .ofNat 9000, (0, .ofNat 0)), (false, .ofNat 0, (0, .ofNat 0))])]
set_option maxRecDepth 100000 in
theorem qe17 : qck0 yT1 [qs2] qP 20000 [] qc17 qs17 = true := by decide +kernel
set_option maxRecDepth 100000 in
theorem qf17 : qc17.all (qck1 yT1 [qs2] qP 20000 [] qc17 qs17) = true := by decide +kernel
set_option maxRecDepth 100000 in
theorem qo17 : qOK yT1 86 1471 qs17 := qck_ok (m := 4) (qall_c qo2 qall_n) rfl qe17 qf17 (by decide +kernel) (by decide +kernel)
def qc18 : List qCt := []
set_option maxRecDepth 100000 in
theorem qe18 : qck0 yT1 [qs12, qs13, qs14, qs15, qs16, qs17] qP 20000 [] qc18 qs18 = true := by decide +kernel
set_option maxRecDepth 100000 in
theorem qf18 : qc18.all (qck1 yT1 [qs12, qs13, qs14, qs15, qs16, qs17] qP 20000 [] qc18 qs18) = true := by decide +kernel
set_option maxRecDepth 100000 in
theorem qo18 : qOK yT1 86 1471 qs18 := qck_ok (m := 0) (qall_c qo12 (qall_c qo13 (qall_c qo14 (qall_c qo15 (qall_c qo16 (qall_c qo17 qall_n)))))) rfl qe18 qf18 (by decide +kernel) (by decide +kernel)
def qc19 : List qCt := [((44, [[(.ofNat 0, .ofNat 0)], [(.ofNat 0, .ofNat 161)]], [(0, .inr (.inr (.ref 1))), (1, .inl (1, .ofNat 0))], [], [((1, 3), .inl (1, .ofNat 0)), ((3, 5), .inl (0, .ofNat 0))]), [], [(false, .ofNat 4956, (0, .ofNat 0)), (false, .ofNat 162, (1, .ofNat 0)), (false, .ofNat 9000, (0, .ofNat 0)), (false, .ofNat 0, (0, .ofNat 0))])]
set_option maxRecDepth 100000 in
theorem qe19 : qck0 yT1 [qs2, qs4, qs18] qP 20000 [] qc19 qs19 = true := by decide +kernel
set_option maxRecDepth 100000 in
theorem qf19 : qc19.all (qck1 yT1 [qs2, qs4, qs18] qP 20000 [] qc19 qs19) = true := by decide +kernel
set_option maxRecDepth 100000 in
theorem qo19 : qOK yT1 86 1471 qs19 := qck_ok (m := 4) (qall_c qo2 (qall_c qo4 (qall_c qo18 qall_n))) rfl qe19 qf19 (by decide +kernel) (by decide +kernel)
def qc20 : List qCt := [((10, [[(.ofNat 0, .ofNat 0)], [(.ofNat 0, .ofNat 5)], [(.ofNat 0, .ofNat 5)]], [(0, .inr (.inr (.ref 11))), (1, .inr (.inr (.ref 3))), (2, .inl (1, .ofNat 0))], [], [((11, 2), .inl (2, .ofNat 0)), ((3, 2), .inl (2, .ofNat 0))]), [], [(false, .ofNat 4990, (0, .ofNat 0)), (false, .ofNat 6, (1, .ofNat 0)), (false, .ofNat 9000, (0, .ofNat 0)), (false, .ofNat 0, (0, .ofNat 0))]),
  ((49, [[(.ofNat 0, .ofNat 0)], [(.ofNat 0, .ofNat 8)], [(.ofNat 0, .ofNat 8)], [(.ofNat 0, .ofNat 5)]], [(0, .inr (.inr (.ref 11))), (1, .inr (.inr (.ref 3))), (2, .inl (1, .ofNat 0))], [], [((11, 3), .inl (2, .ofNat 0)), ((3, 3), .inl (2, .ofNat 0)), ((11, 2), .inl (3, .ofNat 0)), ((3, 2), .inl (3, .ofNat 0))]), [], [(false, .ofNat 4951, (0, .ofNat 0)), (false, .ofNat 9, (1, .ofNat 0)), (false, .ofNat 9000, (0, .ofNat 0)), (false, .ofNat 0, (0, .ofNat 0))])]
set_option maxRecDepth 100000 in
theorem qe20 : qck0 yT1 [] qP 20000 [] qc20 qs20 = true := by decide +kernel
set_option maxRecDepth 100000 in
theorem qf20 : qc20.all (qck1 yT1 [] qP 20000 [] qc20 qs20) = true := by decide +kernel
set_option maxRecDepth 100000 in
theorem qo20 : qOK yT1 86 1471 qs20 := qck_ok (m := 4) qall_n rfl qe20 qf20 (by decide +kernel) (by decide +kernel)
def qc21 : List qCt := [((55, [[(.ofNat 0, .ofNat 0)], [(.ofNat 0, .ofNat 2)]], [(0, .inr (.inr (.ref 0))), (1, .inl (0, .ofNat 1)), (2, .inl (1, .ofNat 0))], [], [((40, 3), .inl (0, .ofNat 0)), ((1, 2), .inl (0, .ofNat 0))]), [], [(false, .ofNat 4945, (0, .ofNat 0)), (false, .ofNat 3, (1, .ofNat 0)), (false, .ofNat 9000, (0, .ofNat 0)), (false, .ofNat 0, (0, .ofNat 0))])]
set_option maxRecDepth 100000 in
theorem qe21 : qck0 yT1 [qs19, qs20] qP 20000 [] qc21 qs21 = true := by decide +kernel
set_option maxRecDepth 100000 in
theorem qf21 : qc21.all (qck1 yT1 [qs19, qs20] qP 20000 [] qc21 qs21) = true := by decide +kernel
set_option maxRecDepth 100000 in
theorem qo21 : qOK yT1 86 1471 qs21 := qck_ok (m := 4) (qall_c qo19 (qall_c qo20 qall_n)) rfl qe21 qf21 (by decide +kernel) (by decide +kernel)
def qc22 : List qCt := []
set_option maxRecDepth 100000 in
theorem qe22 : qck0 yT1 [] qP 20000 [] qc22 qs22 = true := by decide +kernel
set_option maxRecDepth 100000 in
theorem qf22 : qc22.all (qck1 yT1 [] qP 20000 [] qc22 qs22) = true := by decide +kernel
set_option maxRecDepth 100000 in
theorem qo22 : qOK yT1 86 1471 qs22 := qck_ok (m := 0) qall_n rfl qe22 qf22 (by decide +kernel) (by decide +kernel)
def qc23 : List qCt := [((4, [[(.ofNat 0, .ofNat 0)], [(.ofNat 0, .ofNat 31)], [(.ofNat 0, .ofNat 5)]], [(0, .inr (.inr (.ref 11))), (1, .inl (1, .ofNat 0)), (2, .inl (2, .ofNat 0))], [], []), [], [(false, .ofNat 4996, (0, .ofNat 0)), (false, .ofNat 6, (2, .ofNat 0)), (false, .ofNat 9000, (0, .ofNat 0)), (false, .ofNat 0, (0, .ofNat 0))])]
set_option maxRecDepth 100000 in
theorem qe23 : qck0 yT1 [] qP 20000 [] qc23 qs23 = true := by decide +kernel
set_option maxRecDepth 100000 in
theorem qf23 : qc23.all (qck1 yT1 [] qP 20000 [] qc23 qs23) = true := by decide +kernel
set_option maxRecDepth 100000 in
theorem qo23 : qOK yT1 86 1471 qs23 := qck_ok (m := 4) qall_n rfl qe23 qf23 (by decide +kernel) (by decide +kernel)
def qc24 : List qCt := [((5, [[(.ofNat 0, .ofNat 0)], [(.negSucc 3, .ofNat 99)], [(.ofNat 0, .ofNat 5)]], [(0, .inr (.inr (.ref 11))), (1, .inl (1, .ofNat 0)), (2, .inl (2, .ofNat 0))], [], []), [], [(false, .ofNat 4995, (0, .ofNat 0)), (false, .ofNat 6, (2, .ofNat 0)), (false, .ofNat 9000, (0, .ofNat 0)), (false, .ofNat 0, (0, .ofNat 0))])]
set_option maxRecDepth 100000 in
theorem qe24 : qck0 yT1 [] qP 20000 [] qc24 qs24 = true := by decide +kernel
set_option maxRecDepth 100000 in
theorem qf24 : qc24.all (qck1 yT1 [] qP 20000 [] qc24 qs24) = true := by decide +kernel
set_option maxRecDepth 100000 in
theorem qo24 : qOK yT1 86 1471 qs24 := qck_ok (m := 4) qall_n rfl qe24 qf24 (by decide +kernel) (by decide +kernel)
def qc25 : List qCt := []
set_option maxRecDepth 100000 in
theorem qe25 : qck0 yT1 [qs24] qP 20000 [] qc25 qs25 = true := by decide +kernel
set_option maxRecDepth 100000 in
theorem qf25 : qc25.all (qck1 yT1 [qs24] qP 20000 [] qc25 qs25) = true := by decide +kernel
set_option maxRecDepth 100000 in
theorem qo25 : qOK yT1 86 1471 qs25 := qck_ok (m := 0) (qall_c qo24 qall_n) rfl qe25 qf25 (by decide +kernel) (by decide +kernel)
def qc26 : List qCt := [((4, [[(.ofNat 0, .ofNat 0)], [(.ofNat 0, .ofNat 31)], [(.ofNat 0, .ofNat 5)]], [(0, .inr (.inr (.ref 11))), (1, .inl (1, .ofNat 0)), (2, .inl (2, .ofNat 0))], [], []), [], [(false, .ofNat 4996, (0, .ofNat 0)), (false, .ofNat 6, (2, .ofNat 0)), (false, .ofNat 9000, (0, .ofNat 0)), (false, .ofNat 0, (0, .ofNat 0))])]
set_option maxRecDepth 100000 in
theorem qe26 : qck0 yT1 [qs25] qP 20000 [] qc26 qs26 = true := by decide +kernel
set_option maxRecDepth 100000 in
theorem qf26 : qc26.all (qck1 yT1 [qs25] qP 20000 [] qc26 qs26) = true := by decide +kernel
set_option maxRecDepth 100000 in
theorem qo26 : qOK yT1 86 1471 qs26 := qck_ok (m := 4) (qall_c qo25 qall_n) rfl qe26 qf26 (by decide +kernel) (by decide +kernel)
def qc27 : List qCt := []
set_option maxRecDepth 100000 in
theorem qe27 : qck0 yT1 [qs23, qs24, qs26] qP 20000 [] qc27 qs27 = true := by decide +kernel
set_option maxRecDepth 100000 in
theorem qf27 : qc27.all (qck1 yT1 [qs23, qs24, qs26] qP 20000 [] qc27 qs27) = true := by decide +kernel
set_option maxRecDepth 100000 in
theorem qo27 : qOK yT1 86 1471 qs27 := qck_ok (m := 0) (qall_c qo23 (qall_c qo24 (qall_c qo26 qall_n))) rfl qe27 qf27 (by decide +kernel) (by decide +kernel)
