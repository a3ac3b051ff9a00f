/-! the methods are as their summaries say, 0 -/
def qc0 : List qCt := []
set_option maxRecDepth 100000 in
theorem qe0 : qck0 yT1 [] qP 20000 [] qc0 qs0 = true := by decide +kernel
set_option maxRecDepth 100000 in
theorem qo0 : qOK yT1 86 1471 qs0 := qck_ok (m := 0) qall_n rfl qe0 rfl (by decide +kernel) (by decide +kernel)
def qc1 : List qCt := []
set_option maxRecDepth 100000 in
theorem qe1 : qck0 yT1 [] qP 20000 [] qc1 qs1 = true := by decide +kernel
set_option maxRecDepth 100000 in
theorem qo1 : qOK yT1 86 1471 qs1 := qck_ok (m := 0) qall_n rfl qe1 rfl (by decide +kernel) (by decide +kernel)
def qc2_0 : List qCt := [((0, [[(0, 0)], [(1, 160)], [(1, 160)]], [(0, .inr (.inr (.ref 1)))], [], [((1, 6), .inl (1, 0)), ((1, 2), .inl (2, 0))]), [], [(false, 5000, (0, 0)), (false, 161, (1, 0)), (false, 9000, (0, 0)), (false, 0, (0, 0))]),
  ((95, [[(0, 0)], [(97, 122)], [(1, 160)], [(0, 159)], [(1, 160)]], [(0, .inr (.inr (.ref 1))), (1, .inl (1, 0))], [], [((1, 6), .inl (2, 0)), ((1, 9), .inl (0, 0)), ((1, 8), .inl (3, 0)), ((1, 2), .inl (4, 0))]), [], [(false, 4905, (0, 0)), (false, 161, (2, 0)), (false, 9000, (0, 0)), (false, 0, (0, 0))]),
  ((157, [[(0, 0)], [(48, 57)], [(3, 160)], [(0, 157)], [(3, 160)]], [(0, .inr (.inr (.ref 1))), (1, .inl (1, 0))], [], [((1, 6), .inl (2, 0)), ((1, 8), .inl (3, 0)), ((1, 2), .inl (4, 0))]), [.inl (2, 3, 3)], [(false, 4843, (0, 0)), (false, 161, (2, 0)), (false, 9000, (0, 0)), (false, 0, (0, 0))]),
  ((157, [[(0, 0)], [(48, 57)], [(1, 160)], [(1, 160)]], [(0, .inr (.inr (.ref 1))), (1, .inl (1, 0))], [], [((1, 9), .inl (1, (-48))), ((1, 6), .inl (2, 0)), ((1, 8), .inl (2, (-1))), ((1, 2), .inl (3, 0))]), [], [(false, 4843, (0, 0)), (false, 161, (2, 0)), (false, 9000, (0, 0)), (false, 0, (0, 0))]),
  ((157, [[(0, 0)], [(48, 57)], [(2, 160)], [(0, 99)], [(2, 160)]], [(0, .inr (.inr (.ref 1))), (1, .inl (1, 0))], [], [((1, 6), .inl (2, 0)), ((1, 9), .inl (3, 0)), ((1, 8), .inl (2, (-2))), ((1, 2), .inl (4, 0))]), [], [(false, 4843, (0, 0)), (false, 161, (2, 0)), (false, 9000, (0, 0)), (false, 0, (0, 0))])]
def qc2 : List qCt := qc2_0
set_option maxRecDepth 100000 in
theorem qe2 : qck0 yT1 [] qP 20000 [] qc2 qs2 = true := by decide +kernel
set_option maxRecDepth 100000 in
theorem qf2_0 : qc2_0.all (qck1 yT1 [] qP 20000 [] qc2 qs2) = true := by decide +kernel
set_option maxRecDepth 100000 in
theorem qo2 : qOK yT1 86 1471 qs2 := qck_ok (m := 4) qall_n rfl qe2 qf2_0 (by decide +kernel) (by decide +kernel)
def qc3_0 : List qCt := [((2, [[(0, 0)], [((-2147483648), 2147483647)], [(0, 5)]], [(0, .inr (.inr (.ref 3))), (1, .inl (1, 0)), (2, .inl (2, 0))], [], []), [], [(false, 4998, (0, 0)), (false, 6, (2, 0)), (false, 9000, (0, 0)), (false, 0, (0, 0))])]
def qc3 : List qCt := qc3_0
set_option maxRecDepth 100000 in
theorem qe3 : qck0 yT1 [] qP 20000 [] qc3 qs3 = true := by decide +kernel
set_option maxRecDepth 100000 in
theorem qf3_0 : qc3_0.all (qck1 yT1 [] qP 20000 [] qc3 qs3) = true := by decide +kernel
set_option maxRecDepth 100000 in
theorem qo3 : qOK yT1 86 1471 qs3 := qck_ok (m := 4) qall_n rfl qe3 qf3_0 (by decide +kernel) (by decide +kernel)
def qc4_0 : List qCt := [((7, [[(0, 0)], [((-2147483648), 2147483647)], [(0, 8)]], [(0, .inr (.inr (.ref 1))), (1, .inl (1, 0)), (2, .inl (2, 0))], [], []), [], [(false, 4993, (0, 0)), (false, 9, (2, 0)), (false, 9000, (0, 0)), (false, 0, (0, 0))])]
def qc4 : List qCt := qc4_0
set_option maxRecDepth 100000 in
theorem qe4 : qck0 yT1 [qs3] qP 20000 [] qc4 qs4 = true := by decide +kernel
set_option maxRecDepth 100000 in
theorem qf4_0 : qc4_0.all (qck1 yT1 [qs3] qP 20000 [] qc4 qs4) = true := by decide +kernel
set_option maxRecDepth 100000 in
theorem qo4 : qOK yT1 86 1471 qs4 := qck_ok (m := 4) (qall_c qo3 qall_n) rfl qe4 qf4_0 (by decide +kernel) (by decide +kernel)
def qc5 : List qCt := []
set_option maxRecDepth 100000 in
theorem qe5 : qck0 yT1 [] qP 20000 [] qc5 qs5 = true := by decide +kernel
set_option maxRecDepth 100000 in
theorem qo5 : qOK yT1 86 1471 qs5 := qck_ok (m := 0) qall_n rfl qe5 rfl (by decide +kernel) (by decide +kernel)
def qc6 : List qCt := []
set_option maxRecDepth 100000 in
theorem qe6 : qck0 yT1 [] qP 20000 [] qc6 qs6 = true := by decide +kernel
set_option maxRecDepth 100000 in
theorem qo6 : qOK yT1 86 1471 qs6 := qck_ok (m := 0) qall_n rfl qe6 rfl (by decide +kernel) (by decide +kernel)
def qc7 : List qCt := []
set_option maxRecDepth 100000 in
theorem qe7 : qck0 yT1 [] qP 20000 [] qc7 qs7 = true := by decide +kernel
set_option maxRecDepth 100000 in
theorem qo7 : qOK yT1 86 1471 qs7 := qck_ok (m := 0) qall_n rfl qe7 rfl (by decide +kernel) (by decide +kernel)
def qc8 : List qCt := []
set_option maxRecDepth 100000 in
theorem qe8 : qck0 yT1 [] qP 20000 [] qc8 qs8 = true := by decide +kernel
set_option maxRecDepth 100000 in
theorem qo8 : qOK yT1 86 1471 qs8 := qck_ok (m := 0) qall_n rfl qe8 rfl (by decide +kernel) (by decide +kernel)
def qc9 : List qCt := []
set_option maxRecDepth 100000 in
theorem qe9 : qck0 yT1 [] qP 20000 [] qc9 qs9 = true := by decide +kernel
set_option maxRecDepth 100000 in
theorem qo9 : qOK yT1 86 1471 qs9 := qck_ok (m := 0) qall_n rfl qe9 rfl (by decide +kernel) (by decide +kernel)
def qc10 : List qCt := []
set_option maxRecDepth 100000 in
theorem qe10 : qck0 yT1 [] qP 20000 [] qc10 qs10 = true := by decide +kernel
set_option maxRecDepth 100000 in
theorem qo10 : qOK yT1 86 1471 qs10 := qck_ok (m := 0) qall_n rfl qe10 rfl (by decide +kernel) (by decide +kernel)
def qc11 : List qCt := []
set_option maxRecDepth 100000 in
theorem qe11 : qck0 yT1 [] qP 20000 [] qc11 qs11 = true := by decide +kernel
set_option maxRecDepth 100000 in
theorem qo11 : qOK yT1 86 1471 qs11 := qck_ok (m := 0) qall_n rfl qe11 rfl (by decide +kernel) (by decide +kernel)
def qc12 : List qCt := []
set_option maxRecDepth 100000 in
theorem qe12 : qck0 yT1 [qs5, qs6, qs7, qs8, qs9, qs10, qs11] qP 20000 [] qc12 qs12 = true := by decide +kernel
set_option maxRecDepth 100000 in
theorem qo12 : qOK yT1 86 1471 qs12 := qck_ok (m := 0) (qall_c qo5 (qall_c qo6 (qall_c qo7 (qall_c qo8 (qall_c qo9 (qall_c qo10 (qall_c qo11 qall_n))))))) rfl qe12 rfl (by decide +kernel) (by decide +kernel)
def qc13_0 : List qCt := [((24, [[(0, 0)], [(0, 8)]], [(0, .inr (.inr (.ref 1))), (1, .inl (1, 0))], [], [((1, 12), .inl (0, 1))]), [], [(false, 4976, (0, 0)), (false, 9, (1, 0)), (false, 9000, (0, 0)), (false, 0, (0, 0))])]
def qc13 : List qCt := qc13_0
set_option maxRecDepth 100000 in
theorem qe13 : qck0 yT1 [qs2] qP 20000 [] qc13 qs13 = true := by decide +kernel
set_option maxRecDepth 100000 in
theorem qf13_0 : qc13_0.all (qck1 yT1 [qs2] qP 20000 [] qc13 qs13) = true := by decide +kernel
set_option maxRecDepth 100000 in
theorem qo13 : qOK yT1 86 1471 qs13 := qck_ok (m := 4) (qall_c qo2 qall_n) rfl qe13 qf13_0 (by decide +kernel) (by decide +kernel)
def qc14_0 : List qCt := [((44, [[(0, 0)], [(0, 161)], [(0, 31)]], [(0, .inr (.inr (.ref 1))), (1, .inl (1, 0))], [], [((1, 3), .inl (1, 0)), ((1, 10), .inl (2, 0)), ((3, 5), .inl (0, 0))]), [], [(false, 4956, (0, 0)), (false, 162, (1, 0)), (false, 9000, (0, 0)), (false, 0, (0, 0))])]
def qc14 : List qCt := qc14_0
set_option maxRecDepth 100000 in
theorem qe14 : qck0 yT1 [qs2, qs4, qs12, qs13] qP 20000 [] qc14 qs14 = true := by decide +kernel
set_option maxRecDepth 100000 in
theorem qf14_0 : qc14_0.all (qck1 yT1 [qs2, qs4, qs12, qs13] qP 20000 [] qc14 qs14) = true := by decide +kernel
set_option maxRecDepth 100000 in
theorem qo14 : qOK yT1 86 1471 qs14 := qck_ok (m := 4) (qall_c qo2 (qall_c qo4 (qall_c qo12 (qall_c qo13 qall_n)))) rfl qe14 qf14_0 (by decide +kernel) (by decide +kernel)
def qc15_0 : List qCt := [((10, [[(0, 0)], [(0, 5)], [(0, 5)]], [(0, .inr (.inr (.ref 11))), (1, .inr (.inr (.ref 3))), (2, .inl (1, 0))], [], [((11, 2), .inl (2, 0)), ((3, 2), .inl (2, 0))]), [], [(false, 4990, (0, 0)), (false, 6, (1, 0)), (false, 9000, (0, 0)), (false, 0, (0, 0))]),
  ((49, [[(0, 0)], [(0, 8)], [(0, 8)], [(0, 5)]], [(0, .inr (.inr (.ref 11))), (1, .inr (.inr (.ref 3))), (2, .inl (1, 0))], [], [((11, 3), .inl (2, 0)), ((3, 3), .inl (2, 0)), ((11, 2), .inl (3, 0)), ((3, 2), .inl (3, 0))]), [], [(false, 4951, (0, 0)), (false, 9, (1, 0)), (false, 9000, (0, 0)), (false, 0, (0, 0))])]
def qc15 : List qCt := qc15_0
set_option maxRecDepth 100000 in
theorem qe15 : qck0 yT1 [] qP 20000 [] qc15 qs15 = true := by decide +kernel
set_option maxRecDepth 100000 in
theorem qf15_0 : qc15_0.all (qck1 yT1 [] qP 20000 [] qc15 qs15) = true := by decide +kernel
set_option maxRecDepth 100000 in
theorem qo15 : qOK yT1 86 1471 qs15 := qck_ok (m := 4) qall_n rfl qe15 qf15_0 (by decide +kernel) (by decide +kernel)
def qc16_0 : List qCt := [((55, [[(0, 0)], [(0, 2)]], [(0, .inr (.inr (.ref 0))), (1, .inl (0, 1)), (2, .inl (1, 0))], [], [((40, 3), .inl (0, 0)), ((1, 2), .inl (0, 0))]), [], [(false, 4945, (0, 0)), (false, 3, (1, 0)), (false, 9000, (0, 0)), (false, 0, (0, 0))])]
def qc16 : List qCt := qc16_0
set_option maxRecDepth 100000 in
theorem qe16 : qck0 yT1 [qs14, qs15] qP 20000 [] qc16 qs16 = true := by decide +kernel
set_option maxRecDepth 100000 in
theorem qf16_0 : qc16_0.all (qck1 yT1 [qs14, qs15] qP 20000 [] qc16 qs16) = true := by decide +kernel
set_option maxRecDepth 100000 in
theorem qo16 : qOK yT1 86 1471 qs16 := qck_ok (m := 4) (qall_c qo14 (qall_c qo15 qall_n)) rfl qe16 qf16_0 (by decide +kernel) (by decide +kernel)
def qc17 : List qCt := []
set_option maxRecDepth 100000 in
theorem qe17 : qck0 yT1 [] qP 20000 [] qc17 qs17 = true := by decide +kernel
set_option maxRecDepth 100000 in
theorem qo17 : qOK yT1 86 1471 qs17 := qck_ok (m := 0) qall_n rfl qe17 rfl (by decide +kernel) (by decide +kernel)
def qc18_0 : List qCt := [((4, [[(0, 0)], [(0, 31)], [(0, 5)]], [(0, .inr (.inr (.ref 11))), (1, .inl (1, 0)), (2, .inl (2, 0))], [], []), [], [(false, 4996, (0, 0)), (false, 6, (2, 0)), (false, 9000, (0, 0)), (false, 0, (0, 0))])]
def qc18 : List qCt := qc18_0
set_option maxRecDepth 100000 in
theorem qe18 : qck0 yT1 [] qP 20000 [] qc18 qs18 = true := by decide +kernel
set_option maxRecDepth 100000 in
theorem qf18_0 : qc18_0.all (qck1 yT1 [] qP 20000 [] qc18 qs18) = true := by decide +kernel
set_option maxRecDepth 100000 in
theorem qo18 : qOK yT1 86 1471 qs18 := qck_ok (m := 4) qall_n rfl qe18 qf18_0 (by decide +kernel) (by decide +kernel)
def qc19_0 : List qCt := [((5, [[(0, 0)], [((-4), 99)], [(0, 5)]], [(0, .inr (.inr (.ref 11))), (1, .inl (1, 0)), (2, .inl (2, 0))], [], []), [], [(false, 4995, (0, 0)), (false, 6, (2, 0)), (false, 9000, (0, 0)), (false, 0, (0, 0))])]
def qc19 : List qCt := qc19_0
set_option maxRecDepth 100000 in
theorem qe19 : qck0 yT1 [] qP 20000 [] qc19 qs19 = true := by decide +kernel
set_option maxRecDepth 100000 in
theorem qf19_0 : qc19_0.all (qck1 yT1 [] qP 20000 [] qc19 qs19) = true := by decide +kernel
set_option maxRecDepth 100000 in
theorem qo19 : qOK yT1 86 1471 qs19 := qck_ok (m := 4) qall_n rfl qe19 qf19_0 (by decide +kernel) (by decide +kernel)
def qc20_0 : List qCt := [((4, [[(0, 0)], [(0, 31)], [(0, 5)]], [(0, .inr (.inr (.ref 11))), (1, .inl (1, 0)), (2, .inl (2, 0))], [], []), [], [(false, 4996, (0, 0)), (false, 6, (2, 0)), (false, 9000, (0, 0)), (false, 0, (0, 0))])]
def qc20 : List qCt := qc20_0
set_option maxRecDepth 100000 in
theorem qe20 : qck0 yT1 [qs19] qP 20000 [] qc20 qs20 = true := by decide +kernel
set_option maxRecDepth 100000 in
theorem qf20_0 : qc20_0.all (qck1 yT1 [qs19] qP 20000 [] qc20 qs20) = true := by decide +kernel
set_option maxRecDepth 100000 in
theorem qo20 : qOK yT1 86 1471 qs20 := qck_ok (m := 4) (qall_c qo19 qall_n) rfl qe20 qf20_0 (by decide +kernel) (by decide +kernel)
def qc21 : List qCt := []
set_option maxRecDepth 100000 in
theorem qe21 : qck0 yT1 [qs18, qs19, qs20] qP 20000 [] qc21 qs21 = true := by decide +kernel
set_option maxRecDepth 100000 in
theorem qo21 : qOK yT1 86 1471 qs21 := qck_ok (m := 0) (qall_c qo18 (qall_c qo19 (qall_c qo20 qall_n))) rfl qe21 rfl (by decide +kernel) (by decide +kernel)
def qc22 : List qCt := []
set_option maxRecDepth 100000 in
theorem qe22 : qck0 yT1 [] qP 20000 [] qc22 qs22 = true := by decide +kernel
set_option maxRecDepth 100000 in
theorem qo22 : qOK yT1 86 1471 qs22 := qck_ok (m := 0) qall_n rfl qe22 rfl (by decide +kernel) (by decide +kernel)
def qc23 : List qCt := []
set_option maxRecDepth 100000 in
theorem qe23 : qck0 yT1 [] qP 20000 [] qc23 qs23 = true := by decide +kernel
set_option maxRecDepth 100000 in
theorem qo23 : qOK yT1 86 1471 qs23 := qck_ok (m := 0) qall_n rfl qe23 rfl (by decide +kernel) (by decide +kernel)
def qc24 : List qCt := []
set_option maxRecDepth 100000 in
theorem qe24 : qck0 yT1 [qs22] qP 20000 [] qc24 qs24 = true := by decide +kernel
set_option maxRecDepth 100000 in
theorem qo24 : qOK yT1 86 1471 qs24 := qck_ok (m := 0) (qall_c qo22 qall_n) rfl qe24 rfl (by decide +kernel) (by decide +kernel)
def qc25 : List qCt := []
set_option maxRecDepth 100000 in
theorem qe25 : qck0 yT1 [] qP 20000 [] qc25 qs25 = true := by decide +kernel
set_option maxRecDepth 100000 in
theorem qo25 : qOK yT1 86 1471 qs25 := qck_ok (m := 0) qall_n rfl qe25 rfl (by decide +kernel) (by decide +kernel)
def qc26 : List qCt := []
set_option maxRecDepth 100000 in
theorem qe26 : qck0 yT1 [] qP 20000 [] qc26 qs26 = true := by decide +kernel
set_option maxRecDepth 100000 in
theorem qo26 : qOK yT1 86 1471 qs26 := qck_ok (m := 0) qall_n rfl qe26 rfl (by decide +kernel) (by decide +kernel)
def qc27 : List qCt := []
set_option maxRecDepth 100000 in
theorem qe27 : qck0 yT1 [] qP 20000 [] qc27 qs27 = true := by decide +kernel
set_option maxRecDepth 100000 in
theorem qo27 : qOK yT1 86 1471 qs27 := qck_ok (m := 0) qall_n rfl qe27 rfl (by decide +kernel) (by decide +kernel)
def qc28_0 : List qCt := [((5, [[(0, 0)], [((-2147483648), 2147483647)], [((-4), (-4)), (0, 4)], [(0, 5)]], [(0, .inr (.inr (.ref 11))), (1, .inl (1, 0)), (2, .inl (2, 0)), (3, .inl (3, 0))], [], []), [], [(false, 4995, (0, 0)), (false, 6, (3, 0)), (false, 9000, (0, 0)), (false, 0, (0, 0))])]
def qc28 : List qCt := qc28_0
set_option maxRecDepth 100000 in
theorem qe28 : qck0 yT1 [] qP 20000 [] qc28 qs28 = true := by decide +kernel
set_option maxRecDepth 100000 in
theorem qf28_0 : qc28_0.all (qck1 yT1 [] qP 20000 [] qc28 qs28) = true := by decide +kernel
set_option maxRecDepth 100000 in
theorem qo28 : qOK yT1 86 1471 qs28 := qck_ok (m := 4) qall_n rfl qe28 qf28_0 (by decide +kernel) (by decide +kernel)
def qc29 : List qCt := []
set_option maxRecDepth 100000 in
theorem qe29 : qck0 yT1 [qs28, qs19] qP 20000 [] qc29 qs29 = true := by decide +kernel
set_option maxRecDepth 100000 in
theorem qo29 : qOK yT1 86 1471 qs29 := qck_ok (m := 0) (qall_c qo28 (qall_c qo19 qall_n)) rfl qe29 rfl (by decide +kernel) (by decide +kernel)
def qc30_0 : List qCt := [((2, [[(0, 0)], [(0, 5)]], [(0, .inr (.inr (.ref 11))), (1, .inl (1, 0))], [], []), [], [(false, 4998, (0, 0)), (false, 6, (1, 0)), (false, 9000, (0, 0)), (false, 0, (0, 0))])]
def qc30 : List qCt := qc30_0
set_option maxRecDepth 100000 in
theorem qe30 : qck0 yT1 [] qP 20000 [] qc30 qs30 = true := by decide +kernel
set_option maxRecDepth 100000 in
theorem qf30_0 : qc30_0.all (qck1 yT1 [] qP 20000 [] qc30 qs30) = true := by decide +kernel
set_option maxRecDepth 100000 in
theorem qo30 : qOK yT1 86 1471 qs30 := qck_ok (m := 4) qall_n rfl qe30 qf30_0 (by decide +kernel) (by decide +kernel)
def qc31_0 : List qCt := [((14, [[(0, 0)], [(0, 99)], [(0, 99)]], [(0, .inr (.inr (.ref 0))), (1, .inl (1, 0)), (2, .inl (2, 0))], [], []), [], [(false, 4986, (0, 0)), (false, 100, (2, 0)), (false, 9000, (0, 0)), (false, 0, (0, 0))])]
def qc31 : List qCt := qc31_0
set_option maxRecDepth 100000 in
theorem qe31 : qck0 yT1 [qs19, qs30] qP 20000 [] qc31 qs31 = true := by decide +kernel
set_option maxRecDepth 100000 in
theorem qf31_0 : qc31_0.all (qck1 yT1 [qs19, qs30] qP 20000 [] qc31 qs31) = true := by decide +kernel
set_option maxRecDepth 100000 in
theorem qo31 : qOK yT1 86 1471 qs31 := qck_ok (m := 4) (qall_c qo19 (qall_c qo30 qall_n)) rfl qe31 qf31_0 (by decide +kernel) (by decide +kernel)
def qc32_0 : List qCt := [((10, [[(0, 0)], [(0, 5)], [(0, 5)]], [(0, .inr (.inr (.ref 20))), (1, .inr (.inr (.ref 11))), (2, .inl (1, 0))], [], [((20, 2), .inl (2, 0)), ((11, 2), .inl (2, 0))]), [], [(false, 4990, (0, 0)), (false, 6, (1, 0)), (false, 9000, (0, 0)), (false, 0, (0, 0))]),
  ((49, [[(0, 0)], [(0, 8)], [(0, 8)], [(0, 5)]], [(0, .inr (.inr (.ref 20))), (1, .inr (.inr (.ref 11))), (2, .inl (1, 0))], [], [((20, 3), .inl (2, 0)), ((11, 3), .inl (2, 0)), ((20, 2), .inl (3, 0)), ((11, 2), .inl (3, 0))]), [], [(false, 4951, (0, 0)), (false, 9, (1, 0)), (false, 9000, (0, 0)), (false, 0, (0, 0))])]
def qc32 : List qCt := qc32_0
set_option maxRecDepth 100000 in
theorem qe32 : qck0 yT1 [] qP 20000 [] qc32 qs32 = true := by decide +kernel
set_option maxRecDepth 100000 in
theorem qf32_0 : qc32_0.all (qck1 yT1 [] qP 20000 [] qc32 qs32) = true := by decide +kernel
set_option maxRecDepth 100000 in
theorem qo32 : qOK yT1 86 1471 qs32 := qck_ok (m := 4) qall_n rfl qe32 qf32_0 (by decide +kernel) (by decide +kernel)
def qc33_0 : List qCt := [((5, [[(0, 0)], [(0, 8)]], [(0, .inr (.inr (.ref 28))), (1, .inl (0, (-4))), (2, .inl (1, 0)), (3, .inl (0, 8))], [], []), [], [(false, 4995, (0, 0)), (false, 9, (1, 0)), (false, 9000, (0, 0)), (false, 0, (0, 0))])]
def qc33 : List qCt := qc33_0
set_option maxRecDepth 100000 in
theorem qe33 : qck0 yT1 [] qP 20000 [] qc33 qs33 = true := by decide +kernel
set_option maxRecDepth 100000 in
theorem qf33_0 : qc33_0.all (qck1 yT1 [] qP 20000 [] qc33 qs33) = true := by decide +kernel
set_option maxRecDepth 100000 in
theorem qo33 : qOK yT1 86 1471 qs33 := qck_ok (m := 4) qall_n rfl qe33 qf33_0 (by decide +kernel) (by decide +kernel)
def qc34_0 : List qCt := [((5, [[(0, 0)], [((-2147483648), 2147483647)], [((-4), (-4)), (0, 4)], [(0, 5)]], [(0, .inr (.inr (.ref 20))), (1, .inl (1, 0)), (2, .inl (2, 0)), (3, .inl (3, 0))], [], []), [], [(false, 4995, (0, 0)), (false, 6, (3, 0)), (false, 9000, (0, 0)), (false, 0, (0, 0))])]
def qc34 : List qCt := qc34_0
set_option maxRecDepth 100000 in
theorem qe34 : qck0 yT1 [] qP 20000 [] qc34 qs34 = true := by decide +kernel
set_option maxRecDepth 100000 in
theorem qf34_0 : qc34_0.all (qck1 yT1 [] qP 20000 [] qc34 qs34) = true := by decide +kernel
set_option maxRecDepth 100000 in
theorem qo34 : qOK yT1 86 1471 qs34 := qck_ok (m := 4) qall_n rfl qe34 qf34_0 (by decide +kernel) (by decide +kernel)
def qc35_0 : List qCt := [((5, [[(0, 0)], [((-4), 99)], [(0, 5)]], [(0, .inr (.inr (.ref 20))), (1, .inl (1, 0)), (2, .inl (2, 0))], [], []), [], [(false, 4995, (0, 0)), (false, 6, (2, 0)), (false, 9000, (0, 0)), (false, 0, (0, 0))])]
def qc35 : List qCt := qc35_0
set_option maxRecDepth 100000 in
theorem qe35 : qck0 yT1 [] qP 20000 [] qc35 qs35 = true := by decide +kernel
set_option maxRecDepth 100000 in
theorem qf35_0 : qc35_0.all (qck1 yT1 [] qP 20000 [] qc35 qs35) = true := by decide +kernel
set_option maxRecDepth 100000 in
theorem qo35 : qOK yT1 86 1471 qs35 := qck_ok (m := 4) qall_n rfl qe35 qf35_0 (by decide +kernel) (by decide +kernel)
def qc36_0 : List qCt := [((2, [[(0, 0)], [(0, 5)]], [(0, .inr (.inr (.ref 20))), (1, .inl (1, 0))], [], []), [], [(false, 4998, (0, 0)), (false, 6, (1, 0)), (false, 9000, (0, 0)), (false, 0, (0, 0))])]
def qc36 : List qCt := qc36_0
set_option maxRecDepth 100000 in
theorem qe36 : qck0 yT1 [] qP 20000 [] qc36 qs36 = true := by decide +kernel
set_option maxRecDepth 100000 in
theorem qf36_0 : qc36_0.all (qck1 yT1 [] qP 20000 [] qc36 qs36) = true := by decide +kernel
set_option maxRecDepth 100000 in
theorem qo36 : qOK yT1 86 1471 qs36 := qck_ok (m := 4) qall_n rfl qe36 qf36_0 (by decide +kernel) (by decide +kernel)
