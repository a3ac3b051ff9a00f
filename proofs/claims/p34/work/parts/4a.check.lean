/-! the methods are as their summaries say, 0 -/
def qc0 : List qCt := []
set_option maxRecDepth 100000 in
theorem qe0 : qck0 yT1 [] qP 20000 [] qc0 qs0 = true := by decide +kernel
set_option maxRecDepth 100000 in
theorem qo0 : qOK yT1 86 1471 qs0 := qck_ok (m := 0) qall_n rfl qe0 rfl (by decide +kernel) (by decide +kernel)
def qc1 : List qCt := []
set_option maxRecDepth 100000 in
theorem qe1 : qck0 yT1 [] qP 20000 [] qc1 qs1 = true := by decide +kernel
set_option maxRecDepth 100000 in
theorem qo1 : qOK yT1 86 1471 qs1 := qck_ok (m := 0) qall_n rfl qe1 rfl (by decide +kernel) (by decide +kernel)
def qc2_0 : List qCt := [((0, [[(.ofNat 0, .ofNat 0)], [(.ofNat 1, .ofNat 160)], [(.ofNat 1, .ofNat 160)]], [(0, .inr (.inr (.ref 1)))], [], [((1, 6), .inl (1, .ofNat 0)), ((1, 2), .inl (2, .ofNat 0))]), [], [(false, .ofNat 5000, (0, .ofNat 0)), (false, .ofNat 161, (1, .ofNat 0)), (false, .ofNat 9000, (0, .ofNat 0)), (false, .ofNat 0, (0, .ofNat 0))]),
  ((95, [[(.ofNat 0, .ofNat 0)], [(.ofNat 97, .ofNat 122)], [(.ofNat 1, .ofNat 160)], [(.ofNat 0, .ofNat 159)], [(.ofNat 1, .ofNat 160)]], [(0, .inr (.inr (.ref 1))), (1, .inl (1, .ofNat 0))], [], [((1, 6), .inl (2, .ofNat 0)), ((1, 9), .inl (0, .ofNat 0)), ((1, 8), .inl (3, .ofNat 0)), ((1, 2), .inl (4, .ofNat 0))]), [], [(false, .ofNat 4905, (0, .ofNat 0)), (false, .ofNat 161, (2, .ofNat 0)), (false, .ofNat 9000, (0, .ofNat 0)), (false, .ofNat 0, (0, .ofNat 0))]),
  ((157, [[(.ofNat 0, .ofNat 0)], [(.ofNat 48, .ofNat 57)], [(.ofNat 3, .ofNat 160)], [(.ofNat 0, .ofNat 157)], [(.ofNat 3, .ofNat 160)]], [(0, .inr (.inr (.ref 1))), (1, .inl (1, .ofNat 0))], [], [((1, 6), .inl (2, .ofNat 0)), ((1, 8), .inl (3, .ofNat 0)), ((1, 2), .inl (4, .ofNat 0))]), [.inl (2, 3, .ofNat 3)], [(false, .ofNat 4843, (0, .ofNat 0)), (false, .ofNat 161, (2, .ofNat 0)), (false, .ofNat 9000, (0, .ofNat 0)), (false, .ofNat 0, (0, .ofNat 0))]),
  ((157, [[(.ofNat 0, .ofNat 0)], [(.ofNat 48, .ofNat 57)], [(.ofNat 1, .ofNat 160)], [(.ofNat 1, .ofNat 160)]], [(0, .inr (.inr (.ref 1))), (1, .inl (1, .ofNat 0))], [], [((1, 9), .inl (1, .negSucc 47)), ((1, 6), .inl (2, .ofNat 0)), ((1, 8), .inl (2, .negSucc 0)), ((1, 2), .inl (3, .ofNat 0))]), [], [(false, .ofNat 4843, (0, .ofNat 0)), (false, .ofNat 161, (2, .ofNat 0)), (false, .ofNat 9000, (0, .ofNat 0)), (false, .ofNat 0, (0, .ofNat 0))]),
  ((157, [[(.ofNat 0, .ofNat 0)], [(.ofNat 48, .ofNat 57)], [(.ofNat 2, .ofNat 160)], [(.ofNat 0, .ofNat 99)], [(.ofNat 2, .ofNat 160)]], [(0, .inr (.inr (.ref 1))), (1, .inl (1, .ofNat 0))], [], [((1, 6), .inl (2, .ofNat 0)), ((1, 9), .inl (3, .ofNat 0)), ((1, 8), .inl (2, .negSucc 1)), ((1, 2), .inl (4, .ofNat 0))]), [], [(false, .ofNat 4843, (0, .ofNat 0)), (false, .ofNat 161, (2, .ofNat 0)), (false, .ofNat 9000, (0, .ofNat 0)), (false, .ofNat 0, (0, .ofNat 0))])]
def qc2 : List qCt := qc2_0
set_option maxRecDepth 100000 in
theorem qe2 : qck0 yT1 [] qP 20000 [] qc2 qs2 = true := by decide +kernel
set_option maxRecDepth 100000 in
theorem qf2_0 : qc2_0.all (qck1 yT1 [] qP 20000 [] qc2 qs2) = true := by decide +kernel
set_option maxRecDepth 100000 in
theorem qo2 : qOK yT1 86 1471 qs2 := qck_ok (m := 4) qall_n rfl qe2 qf2_0 (by decide +kernel) (by decide +kernel)
def qc3_0 : List qCt := [((2, [[(.ofNat 0, .ofNat 0)], [(.negSucc 2147483647, .ofNat 2147483647)], [(.ofNat 0, .ofNat 5)]], [(0, .inr (.inr (.ref 3))), (1, .inl (1, .ofNat 0)), (2, .inl (2, .ofNat 0))], [], []), [], [(false, .ofNat 4998, (0, .ofNat 0)), (false, .ofNat 6, (2, .ofNat 0)), (false, .ofNat 9000, (0, .ofNat 0)), (false, .ofNat 0, (0, .ofNat 0))])]
def qc3 : List qCt := qc3_0
set_option maxRecDepth 100000 in
theorem qe3 : qck0 yT1 [] qP 20000 [] qc3 qs3 = true := by decide +kernel
set_option maxRecDepth 100000 in
theorem qf3_0 : qc3_0.all (qck1 yT1 [] qP 20000 [] qc3 qs3) = true := by decide +kernel
set_option maxRecDepth 100000 in
theorem qo3 : qOK yT1 86 1471 qs3 := qck_ok (m := 4) qall_n rfl qe3 qf3_0 (by decide +kernel) (by decide +kernel)
def qc4_0 : List qCt := [((7, [[(.ofNat 0, .ofNat 0)], [(.negSucc 2147483647, .ofNat 2147483647)], [(.ofNat 0, .ofNat 8)]], [(0, .inr (.inr (.ref 1))), (1, .inl (1, .ofNat 0)), (2, .inl (2, .ofNat 0))], [], []), [], [(false, .ofNat 4993, (0, .ofNat 0)), (false, .ofNat 9, (2, .ofNat 0)), (false, .ofNat 9000, (0, .ofNat 0)), (false, .ofNat 0, (0, .ofNat 0))])]
def qc4 : List qCt := qc4_0
set_option maxRecDepth 100000 in
theorem qe4 : qck0 yT1 [qs3] qP 20000 [] qc4 qs4 = true := by decide +kernel
set_option maxRecDepth 100000 in
theorem qf4_0 : qc4_0.all (qck1 yT1 [qs3] qP 20000 [] qc4 qs4) = true := by decide +kernel
set_option maxRecDepth 100000 in
theorem qo4 : qOK yT1 86 1471 qs4 := qck_ok (m := 4) (qall_c qo3 qall_n) rfl qe4 qf4_0 (by decide +kernel) (by decide +kernel)
def qc5 : List qCt := []
set_option maxRecDepth 100000 in
theorem qe5 : qck0 yT1 [] qP 20000 [] qc5 qs5 = true := by decide +kernel
set_option maxRecDepth 100000 in
theorem qo5 : qOK yT1 86 1471 qs5 := qck_ok (m := 0) qall_n rfl qe5 rfl (by decide +kernel) (by decide +kernel)
def qc6 : List qCt := []
set_option maxRecDepth 100000 in
theorem qe6 : qck0 yT1 [] qP 20000 [] qc6 qs6 = true := by decide +kernel
set_option maxRecDepth 100000 in
theorem qo6 : qOK yT1 86 1471 qs6 := qck_ok (m := 0) qall_n rfl qe6 rfl (by decide +kernel) (by decide +kernel)
def qc7 : List qCt := []
set_option maxRecDepth 100000 in
theorem qe7 : qck0 yT1 [] qP 20000 [] qc7 qs7 = true := by decide +kernel
set_option maxRecDepth 100000 in
theorem qo7 : qOK yT1 86 1471 qs7 := qck_ok (m := 0) qall_n rfl qe7 rfl (by decide +kernel) (by decide +kernel)
def qc8 : List qCt := []
set_option maxRecDepth 100000 in
theorem qe8 : qck0 yT1 [] qP 20000 [] qc8 qs8 = true := by decide +kernel
set_option maxRecDepth 100000 in
theorem qo8 : qOK yT1 86 1471 qs8 := qck_ok (m := 0) qall_n rfl qe8 rfl (by decide +kernel) (by decide +kernel)
def qc9 : List qCt := []
set_option maxRecDepth 100000 in
theorem qe9 : qck0 yT1 [] qP 20000 [] qc9 qs9 = true := by decide +kernel
set_option maxRecDepth 100000 in
theorem qo9 : qOK yT1 86 1471 qs9 := qck_ok (m := 0) qall_n rfl qe9 rfl (by decide +kernel) (by decide +kernel)
def qc10 : List qCt := []
set_option maxRecDepth 100000 in
theorem qe10 : qck0 yT1 [] qP 20000 [] qc10 qs10 = true := by decide +kernel
set_option maxRecDepth 100000 in
theorem qo10 : qOK yT1 86 1471 qs10 := qck_ok (m := 0) qall_n rfl qe10 rfl (by decide +kernel) (by decide +kernel)
def qc11 : List qCt := []
set_option maxRecDepth 100000 in
theorem qe11 : qck0 yT1 [] qP 20000 [] qc11 qs11 = true := by decide +kernel
set_option maxRecDepth 100000 in
theorem qo11 : qOK yT1 86 1471 qs11 := qck_ok (m := 0) qall_n rfl qe11 rfl (by decide +kernel) (by decide +kernel)
def qc12 : List qCt := []
set_option maxRecDepth 100000 in
theorem qe12 : qck0 yT1 [qs5, qs6, qs7, qs8, qs9, qs10, qs11] qP 20000 [] qc12 qs12 = true := by decide +kernel
set_option maxRecDepth 100000 in
theorem qo12 : qOK yT1 86 1471 qs12 := qck_ok (m := 0) (qall_c qo5 (qall_c qo6 (qall_c qo7 (qall_c qo8 (qall_c qo9 (qall_c qo10 (qall_c qo11 qall_n))))))) rfl qe12 rfl (by decide +kernel) (by decide +kernel)
def qc13 : List qCt := []
set_option maxRecDepth 100000 in
theorem qe13 : qck0 yT1 [qs2] qP 20000 [] qc13 qs13 = true := by decide +kernel
set_option maxRecDepth 100000 in
theorem qo13 : qOK yT1 86 1471 qs13 := qck_ok (m := 0) (qall_c qo2 qall_n) rfl qe13 rfl (by decide +kernel) (by decide +kernel)
def qc14 : List qCt := []
set_option maxRecDepth 100000 in
theorem qe14 : qck0 yT1 [qs2] qP 20000 [] qc14 qs14 = true := by decide +kernel
set_option maxRecDepth 100000 in
theorem qo14 : qOK yT1 86 1471 qs14 := qck_ok (m := 0) (qall_c qo2 qall_n) rfl qe14 rfl (by decide +kernel) (by decide +kernel)
def qc15 : List qCt := []
set_option maxRecDepth 100000 in
theorem qe15 : qck0 yT1 [qs2] qP 20000 [] qc15 qs15 = true := by decide +kernel
set_option maxRecDepth 100000 in
theorem qo15 : qOK yT1 86 1471 qs15 := qck_ok (m := 0) (qall_c qo2 qall_n) rfl qe15 rfl (by decide +kernel) (by decide +kernel)
def qc16 : List qCt := []
set_option maxRecDepth 100000 in
theorem qe16 : qck0 yT1 [qs2] qP 20000 [] qc16 qs16 = true := by decide +kernel
set_option maxRecDepth 100000 in
theorem qo16 : qOK yT1 86 1471 qs16 := qck_ok (m := 0) (qall_c qo2 qall_n) rfl qe16 rfl (by decide +kernel) (by decide +kernel)
def qc17_0 : List qCt := [((24, [[(.ofNat 0, .ofNat 0)], [(.ofNat 0, .ofNat 8)]], [(0, .inr (.inr (.ref 1))), (1, .inl (1, .ofNat 0))], [], [((1, 12), .inl (0, .ofNat 1))]), [], [(false, .ofNat 4976, (0, .ofNat 0)), (false, .ofNat 9, (1, .ofNat 0)), (false, .ofNat 9000, (0, .ofNat 0)), (false, .ofNat 0, (0, .ofNat 0))])]
def qc17 : List qCt := qc17_0
set_option maxRecDepth 100000 in
theorem qe17 : qck0 yT1 [qs2] qP 20000 [] qc17 qs17 = true := by decide +kernel
set_option maxRecDepth 100000 in
theorem qf17_0 : qc17_0.all (qck1 yT1 [qs2] qP 20000 [] qc17 qs17) = true := by decide +kernel
set_option maxRecDepth 100000 in
theorem qo17 : qOK yT1 86 1471 qs17 := qck_ok (m := 4) (qall_c qo2 qall_n) rfl qe17 qf17_0 (by decide +kernel) (by decide +kernel)
def qc18 : List qCt := []
set_option maxRecDepth 100000 in
theorem qe18 : qck0 yT1 [qs12, qs13, qs14, qs15, qs16, qs17] qP 20000 [] qc18 qs18 = true := by decide +kernel
set_option maxRecDepth 100000 in
theorem qo18 : qOK yT1 86 1471 qs18 := qck_ok (m := 0) (qall_c qo12 (qall_c qo13 (qall_c qo14 (qall_c qo15 (qall_c qo16 (qall_c qo17 qall_n)))))) rfl qe18 rfl (by decide +kernel) (by decide +kernel)
def qc19_0 : List qCt := [((44, [[(.ofNat 0, .ofNat 0)], [(.ofNat 0, .ofNat 161)]], [(0, .inr (.inr (.ref 1))), (1, .inl (1, .ofNat 0))], [], [((1, 3), .inl (1, .ofNat 0)), ((3, 5), .inl (0, .ofNat 0))]), [], [(false, .ofNat 4956, (0, .ofNat 0)), (false, .ofNat 162, (1, .ofNat 0)), (false, .ofNat 9000, (0, .ofNat 0)), (false, .ofNat 0, (0, .ofNat 0))])]
def qc19 : List qCt := qc19_0
set_option maxRecDepth 100000 in
theorem qe19 : qck0 yT1 [qs2, qs4, qs18] qP 20000 [] qc19 qs19 = true := by decide +kernel
set_option maxRecDepth 100000 in
theorem qf19_0 : qc19_0.all (qck1 yT1 [qs2, qs4, qs18] qP 20000 [] qc19 qs19) = true := by decide +kernel
set_option maxRecDepth 100000 in
theorem qo19 : qOK yT1 86 1471 qs19 := qck_ok (m := 4) (qall_c qo2 (qall_c qo4 (qall_c qo18 qall_n))) rfl qe19 qf19_0 (by decide +kernel) (by decide +kernel)
def qc20_0 : List qCt := [((10, [[(.ofNat 0, .ofNat 0)], [(.ofNat 0, .ofNat 5)], [(.ofNat 0, .ofNat 5)]], [(0, .inr (.inr (.ref 11))), (1, .inr (.inr (.ref 3))), (2, .inl (1, .ofNat 0))], [], [((11, 2), .inl (2, .ofNat 0)), ((3, 2), .inl (2, .ofNat 0))]), [], [(false, .ofNat 4990, (0, .ofNat 0)), (false, .ofNat 6, (1, .ofNat 0)), (false, .ofNat 9000, (0, .ofNat 0)), (false, .ofNat 0, (0, .ofNat 0))]),
  ((49, [[(.ofNat 0, .ofNat 0)], [(.ofNat 0, .ofNat 8)], [(.ofNat 0, .ofNat 8)], [(.ofNat 0, .ofNat 5)]], [(0, .inr (.inr (.ref 11))), (1, .inr (.inr (.ref 3))), (2, .inl (1, .ofNat 0))], [], [((11, 3), .inl (2, .ofNat 0)), ((3, 3), .inl (2, .ofNat 0)), ((11, 2), .inl (3, .ofNat 0)), ((3, 2), .inl (3, .ofNat 0))]), [], [(false, .ofNat 4951, (0, .ofNat 0)), (false, .ofNat 9, (1, .ofNat 0)), (false, .ofNat 9000, (0, .ofNat 0)), (false, .ofNat 0, (0, .ofNat 0))])]
def qc20 : List qCt := qc20_0
set_option maxRecDepth 100000 in
theorem qe20 : qck0 yT1 [] qP 20000 [] qc20 qs20 = true := by decide +kernel
set_option maxRecDepth 100000 in
theorem qf20_0 : qc20_0.all (qck1 yT1 [] qP 20000 [] qc20 qs20) = true := by decide +kernel
set_option maxRecDepth 100000 in
theorem qo20 : qOK yT1 86 1471 qs20 := qck_ok (m := 4) qall_n rfl qe20 qf20_0 (by decide +kernel) (by decide +kernel)
def qc21_0 : List qCt := [((55, [[(.ofNat 0, .ofNat 0)], [(.ofNat 0, .ofNat 2)]], [(0, .inr (.inr (.ref 0))), (1, .inl (0, .ofNat 1)), (2, .inl (1, .ofNat 0))], [], [((40, 3), .inl (0, .ofNat 0)), ((1, 2), .inl (0, .ofNat 0))]), [], [(false, .ofNat 4945, (0, .ofNat 0)), (false, .ofNat 3, (1, .ofNat 0)), (false, .ofNat 9000, (0, .ofNat 0)), (false, .ofNat 0, (0, .ofNat 0))])]
def qc21 : List qCt := qc21_0
set_option maxRecDepth 100000 in
theorem qe21 : qck0 yT1 [qs19, qs20] qP 20000 [] qc21 qs21 = true := by decide +kernel
set_option maxRecDepth 100000 in
theorem qf21_0 : qc21_0.all (qck1 yT1 [qs19, qs20] qP 20000 [] qc21 qs21) = true := by decide +kernel
set_option maxRecDepth 100000 in
theorem qo21 : qOK yT1 86 1471 qs21 := qck_ok (m := 4) (qall_c qo19 (qall_c qo20 qall_n)) rfl qe21 qf21_0 (by decide +kernel) (by decide +kernel)
def qc22 : List qCt := []
set_option maxRecDepth 100000 in
theorem qe22 : qck0 yT1 [] qP 20000 [] qc22 qs22 = true := by decide +kernel
set_option maxRecDepth 100000 in
theorem qo22 : qOK yT1 86 1471 qs22 := qck_ok (m := 0) qall_n rfl qe22 rfl (by decide +kernel) (by decide +kernel)
def qc23_0 : List qCt := [((4, [[(.ofNat 0, .ofNat 0)], [(.ofNat 0, .ofNat 31)], [(.ofNat 0, .ofNat 5)]], [(0, .inr (.inr (.ref 11))), (1, .inl (1, .ofNat 0)), (2, .inl (2, .ofNat 0))], [], []), [], [(false, .ofNat 4996, (0, .ofNat 0)), (false, .ofNat 6, (2, .ofNat 0)), (false, .ofNat 9000, (0, .ofNat 0)), (false, .ofNat 0, (0, .ofNat 0))])]
def qc23 : List qCt := qc23_0
set_option maxRecDepth 100000 in
theorem qe23 : qck0 yT1 [] qP 20000 [] qc23 qs23 = true := by decide +kernel
set_option maxRecDepth 100000 in
theorem qf23_0 : qc23_0.all (qck1 yT1 [] qP 20000 [] qc23 qs23) = true := by decide +kernel
set_option maxRecDepth 100000 in
theorem qo23 : qOK yT1 86 1471 qs23 := qck_ok (m := 4) qall_n rfl qe23 qf23_0 (by decide +kernel) (by decide +kernel)
def qc24_0 : List qCt := [((5, [[(.ofNat 0, .ofNat 0)], [(.negSucc 3, .ofNat 99)], [(.ofNat 0, .ofNat 5)]], [(0, .inr (.inr (.ref 11))), (1, .inl (1, .ofNat 0)), (2, .inl (2, .ofNat 0))], [], []), [], [(false, .ofNat 4995, (0, .ofNat 0)), (false, .ofNat 6, (2, .ofNat 0)), (false, .ofNat 9000, (0, .ofNat 0)), (false, .ofNat 0, (0, .ofNat 0))])]
def qc24 : List qCt := qc24_0
set_option maxRecDepth 100000 in
theorem qe24 : qck0 yT1 [] qP 20000 [] qc24 qs24 = true := by decide +kernel
set_option maxRecDepth 100000 in
theorem qf24_0 : qc24_0.all (qck1 yT1 [] qP 20000 [] qc24 qs24) = true := by decide +kernel
set_option maxRecDepth 100000 in
theorem qo24 : qOK yT1 86 1471 qs24 := qck_ok (m := 4) qall_n rfl qe24 qf24_0 (by decide +kernel) (by decide +kernel)
def qc25 : List qCt := []
set_option maxRecDepth 100000 in
theorem qe25 : qck0 yT1 [qs24] qP 20000 [] qc25 qs25 = true := by decide +kernel
set_option maxRecDepth 100000 in
theorem qo25 : qOK yT1 86 1471 qs25 := qck_ok (m := 0) (qall_c qo24 qall_n) rfl qe25 rfl (by decide +kernel) (by decide +kernel)
def qc26_0 : List qCt := [((4, [[(.ofNat 0, .ofNat 0)], [(.ofNat 0, .ofNat 31)], [(.ofNat 0, .ofNat 5)]], [(0, .inr (.inr (.ref 11))), (1, .inl (1, .ofNat 0)), (2, .inl (2, .ofNat 0))], [], []), [], [(false, .ofNat 4996, (0, .ofNat 0)), (false, .ofNat 6, (2, .ofNat 0)), (false, .ofNat 9000, (0, .ofNat 0)), (false, .ofNat 0, (0, .ofNat 0))])]
def qc26 : List qCt := qc26_0
set_option maxRecDepth 100000 in
theorem qe26 : qck0 yT1 [qs25] qP 20000 [] qc26 qs26 = true := by decide +kernel
set_option maxRecDepth 100000 in
theorem qf26_0 : qc26_0.all (qck1 yT1 [qs25] qP 20000 [] qc26 qs26) = true := by decide +kernel
set_option maxRecDepth 100000 in
theorem qo26 : qOK yT1 86 1471 qs26 := qck_ok (m := 4) (qall_c qo25 qall_n) rfl qe26 qf26_0 (by decide +kernel) (by decide +kernel)
def qc27 : List qCt := []
set_option maxRecDepth 100000 in
theorem qe27 : qck0 yT1 [qs23, qs24, qs26] qP 20000 [] qc27 qs27 = true := by decide +kernel
set_option maxRecDepth 100000 in
theorem qo27 : qOK yT1 86 1471 qs27 := qck_ok (m := 0) (qall_c qo23 (qall_c qo24 (qall_c qo26 qall_n))) rfl qe27 rfl (by decide +kernel) (by decide +kernel)
def qc28 : List qCt := []
set_option maxRecDepth 100000 in
theorem qe28 : qck0 yT1 [] qP 20000 [] qc28 qs28 = true := by decide +kernel
set_option maxRecDepth 100000 in
theorem qo28 : qOK yT1 86 1471 qs28 := qck_ok (m := 0) qall_n rfl qe28 rfl (by decide +kernel) (by decide +kernel)
def qc29 : List qCt := []
set_option maxRecDepth 100000 in
theorem qe29 : qck0 yT1 [] qP 20000 [] qc29 qs29 = true := by decide +kernel
set_option maxRecDepth 100000 in
theorem qo29 : qOK yT1 86 1471 qs29 := qck_ok (m := 0) qall_n rfl qe29 rfl (by decide +kernel) (by decide +kernel)
def qc30 : List qCt := []
set_option maxRecDepth 100000 in
theorem qe30 : qck0 yT1 [qs28] qP 20000 [] qc30 qs30 = true := by decide +kernel
set_option maxRecDepth 100000 in
theorem qo30 : qOK yT1 86 1471 qs30 := qck_ok (m := 0) (qall_c qo28 qall_n) rfl qe30 rfl (by decide +kernel) (by decide +kernel)
def qc31 : List qCt := []
set_option maxRecDepth 100000 in
theorem qe31 : qck0 yT1 [] qP 20000 [] qc31 qs31 = true := by decide +kernel
set_option maxRecDepth 100000 in
theorem qo31 : qOK yT1 86 1471 qs31 := qck_ok (m := 0) qall_n rfl qe31 rfl (by decide +kernel) (by decide +kernel)
def qc32 : List qCt := []
set_option maxRecDepth 100000 in
theorem qe32 : qck0 yT1 [] qP 20000 [] qc32 qs32 = true := by decide +kernel
set_option maxRecDepth 100000 in
theorem qo32 : qOK yT1 86 1471 qs32 := qck_ok (m := 0) qall_n rfl qe32 rfl (by decide +kernel) (by decide +kernel)
def qc33 : List qCt := []
set_option maxRecDepth 100000 in
theorem qe33 : qck0 yT1 [] qP 20000 [] qc33 qs33 = true := by decide +kernel
set_option maxRecDepth 100000 in
theorem qo33 : qOK yT1 86 1471 qs33 := qck_ok (m := 0) qall_n rfl qe33 rfl (by decide +kernel) (by decide +kernel)
def qc34_0 : List qCt := [((5, [[(.ofNat 0, .ofNat 0)], [(.negSucc 2147483647, .ofNat 2147483647)], [(.negSucc 3, .negSucc 3), (.ofNat 0, .ofNat 4)], [(.ofNat 0, .ofNat 5)]], [(0, .inr (.inr (.ref 11))), (1, .inl (1, .ofNat 0)), (2, .inl (2, .ofNat 0)), (3, .inl (3, .ofNat 0))], [], []), [], [(false, .ofNat 4995, (0, .ofNat 0)), (false, .ofNat 6, (3, .ofNat 0)), (false, .ofNat 9000, (0, .ofNat 0)), (false, .ofNat 0, (0, .ofNat 0))])]
def qc34 : List qCt := qc34_0
set_option maxRecDepth 100000 in
theorem qe34 : qck0 yT1 [] qP 20000 [] qc34 qs34 = true := by decide +kernel
set_option maxRecDepth 100000 in
theorem qf34_0 : qc34_0.all (qck1 yT1 [] qP 20000 [] qc34 qs34) = true := by decide +kernel
set_option maxRecDepth 100000 in
theorem qo34 : qOK yT1 86 1471 qs34 := qck_ok (m := 4) qall_n rfl qe34 qf34_0 (by decide +kernel) (by decide +kernel)
def qc35 : List qCt := []
set_option maxRecDepth 100000 in
theorem qe35 : qck0 yT1 [qs34, qs24] qP 20000 [] qc35 qs35 = true := by decide +kernel
set_option maxRecDepth 100000 in
theorem qo35 : qOK yT1 86 1471 qs35 := qck_ok (m := 0) (qall_c qo34 (qall_c qo24 qall_n)) rfl qe35 rfl (by decide +kernel) (by decide +kernel)
def qc36 : List qCt := []
set_option maxRecDepth 100000 in
theorem qe36 : qck0 yT1 [qs35] qP 20000 [] qc36 qs36 = true := by decide +kernel
set_option maxRecDepth 100000 in
theorem qo36 : qOK yT1 86 1471 qs36 := qck_ok (m := 0) (qall_c qo35 qall_n) rfl qe36 rfl (by decide +kernel) (by decide +kernel)
def qc37_0 : List qCt := [((2, [[(.ofNat 0, .ofNat 0)], [(.ofNat 0, .ofNat 5)]], [(0, .inr (.inr (.ref 11))), (1, .inl (1, .ofNat 0))], [], []), [], [(false, .ofNat 4998, (0, .ofNat 0)), (false, .ofNat 6, (1, .ofNat 0)), (false, .ofNat 9000, (0, .ofNat 0)), (false, .ofNat 0, (0, .ofNat 0))])]
def qc37 : List qCt := qc37_0
set_option maxRecDepth 100000 in
theorem qe37 : qck0 yT1 [] qP 20000 [] qc37 qs37 = true := by decide +kernel
set_option maxRecDepth 100000 in
theorem qf37_0 : qc37_0.all (qck1 yT1 [] qP 20000 [] qc37 qs37) = true := by decide +kernel
set_option maxRecDepth 100000 in
theorem qo37 : qOK yT1 86 1471 qs37 := qck_ok (m := 4) qall_n rfl qe37 qf37_0 (by decide +kernel) (by decide +kernel)
def qc38_0 : List qCt := [((14, [[(.ofNat 0, .ofNat 0)], [(.ofNat 0, .ofNat 99)], [(.ofNat 0, .ofNat 99)]], [(0, .inr (.inr (.ref 0))), (1, .inl (1, .ofNat 0)), (2, .inl (2, .ofNat 0))], [], []), [], [(false, .ofNat 4986, (0, .ofNat 0)), (false, .ofNat 100, (2, .ofNat 0)), (false, .ofNat 9000, (0, .ofNat 0)), (false, .ofNat 0, (0, .ofNat 0))])]
def qc38 : List qCt := qc38_0
set_option maxRecDepth 100000 in
theorem qe38 : qck0 yT1 [qs24, qs37] qP 20000 [] qc38 qs38 = true := by decide +kernel
set_option maxRecDepth 100000 in
theorem qf38_0 : qc38_0.all (qck1 yT1 [qs24, qs37] qP 20000 [] qc38 qs38) = true := by decide +kernel
set_option maxRecDepth 100000 in
theorem qo38 : qOK yT1 86 1471 qs38 := qck_ok (m := 4) (qall_c qo24 (qall_c qo37 qall_n)) rfl qe38 qf38_0 (by decide +kernel) (by decide +kernel)
def qc39_0 : List qCt := [((10, [[(.ofNat 0, .ofNat 0)], [(.ofNat 0, .ofNat 5)], [(.ofNat 0, .ofNat 5)]], [(0, .inr (.inr (.ref 20))), (1, .inr (.inr (.ref 11))), (2, .inl (1, .ofNat 0))], [], [((20, 2), .inl (2, .ofNat 0)), ((11, 2), .inl (2, .ofNat 0))]), [], [(false, .ofNat 4990, (0, .ofNat 0)), (false, .ofNat 6, (1, .ofNat 0)), (false, .ofNat 9000, (0, .ofNat 0)), (false, .ofNat 0, (0, .ofNat 0))]),
  ((49, [[(.ofNat 0, .ofNat 0)], [(.ofNat 0, .ofNat 8)], [(.ofNat 0, .ofNat 8)], [(.ofNat 0, .ofNat 5)]], [(0, .inr (.inr (.ref 20))), (1, .inr (.inr (.ref 11))), (2, .inl (1, .ofNat 0))], [], [((20, 3), .inl (2, .ofNat 0)), ((11, 3), .inl (2, .ofNat 0)), ((20, 2), .inl (3, .ofNat 0)), ((11, 2), .inl (3, .ofNat 0))]), [], [(false, .ofNat 4951, (0, .ofNat 0)), (false, .ofNat 9, (1, .ofNat 0)), (false, .ofNat 9000, (0, .ofNat 0)), (false, .ofNat 0, (0, .ofNat 0))])]
def qc39 : List qCt := qc39_0
set_option maxRecDepth 100000 in
theorem qe39 : qck0 yT1 [] qP 20000 [] qc39 qs39 = true := by decide +kernel
set_option maxRecDepth 100000 in
theorem qf39_0 : qc39_0.all (qck1 yT1 [] qP 20000 [] qc39 qs39) = true := by decide +kernel
set_option maxRecDepth 100000 in
theorem qo39 : qOK yT1 86 1471 qs39 := qck_ok (m := 4) qall_n rfl qe39 qf39_0 (by decide +kernel) (by decide +kernel)
def qc40_0 : List qCt := [((5, [[(.ofNat 0, .ofNat 0)], [(.ofNat 0, .ofNat 8)]], [(0, .inr (.inr (.ref 28))), (1, .inl (0, .negSucc 3)), (2, .inl (1, .ofNat 0)), (3, .inl (0, .ofNat 8))], [], []), [], [(false, .ofNat 4995, (0, .ofNat 0)), (false, .ofNat 9, (1, .ofNat 0)), (false, .ofNat 9000, (0, .ofNat 0)), (false, .ofNat 0, (0, .ofNat 0))])]
def qc40 : List qCt := qc40_0
set_option maxRecDepth 100000 in
theorem qe40 : qck0 yT1 [] qP 20000 [] qc40 qs40 = true := by decide +kernel
set_option maxRecDepth 100000 in
theorem qf40_0 : qc40_0.all (qck1 yT1 [] qP 20000 [] qc40 qs40) = true := by decide +kernel
set_option maxRecDepth 100000 in
theorem qo40 : qOK yT1 86 1471 qs40 := qck_ok (m := 4) qall_n rfl qe40 qf40_0 (by decide +kernel) (by decide +kernel)
def qc41_0 : List qCt := [((5, [[(.ofNat 0, .ofNat 0)], [(.negSucc 2147483647, .ofNat 2147483647)], [(.negSucc 3, .negSucc 3), (.ofNat 0, .ofNat 4)], [(.ofNat 0, .ofNat 5)]], [(0, .inr (.inr (.ref 20))), (1, .inl (1, .ofNat 0)), (2, .inl (2, .ofNat 0)), (3, .inl (3, .ofNat 0))], [], []), [], [(false, .ofNat 4995, (0, .ofNat 0)), (false, .ofNat 6, (3, .ofNat 0)), (false, .ofNat 9000, (0, .ofNat 0)), (false, .ofNat 0, (0, .ofNat 0))])]
def qc41 : List qCt := qc41_0
set_option maxRecDepth 100000 in
theorem qe41 : qck0 yT1 [] qP 20000 [] qc41 qs41 = true := by decide +kernel
set_option maxRecDepth 100000 in
theorem qf41_0 : qc41_0.all (qck1 yT1 [] qP 20000 [] qc41 qs41) = true := by decide +kernel
set_option maxRecDepth 100000 in
theorem qo41 : qOK yT1 86 1471 qs41 := qck_ok (m := 4) qall_n rfl qe41 qf41_0 (by decide +kernel) (by decide +kernel)
def qc42_0 : List qCt := [((5, [[(.ofNat 0, .ofNat 0)], [(.negSucc 3, .ofNat 99)], [(.ofNat 0, .ofNat 5)]], [(0, .inr (.inr (.ref 20))), (1, .inl (1, .ofNat 0)), (2, .inl (2, .ofNat 0))], [], []), [], [(false, .ofNat 4995, (0, .ofNat 0)), (false, .ofNat 6, (2, .ofNat 0)), (false, .ofNat 9000, (0, .ofNat 0)), (false, .ofNat 0, (0, .ofNat 0))])]
def qc42 : List qCt := qc42_0
set_option maxRecDepth 100000 in
theorem qe42 : qck0 yT1 [] qP 20000 [] qc42 qs42 = true := by decide +kernel
set_option maxRecDepth 100000 in
theorem qf42_0 : qc42_0.all (qck1 yT1 [] qP 20000 [] qc42 qs42) = true := by decide +kernel
set_option maxRecDepth 100000 in
theorem qo42 : qOK yT1 86 1471 qs42 := qck_ok (m := 4) qall_n rfl qe42 qf42_0 (by decide +kernel) (by decide +kernel)
def qc43 : List qCt := []
set_option maxRecDepth 100000 in
theorem qe43 : qck0 yT1 [qs41, qs42] qP 20000 [] qc43 qs43 = true := by decide +kernel
set_option maxRecDepth 100000 in
theorem qo43 : qOK yT1 86 1471 qs43 := qck_ok (m := 0) (qall_c qo41 (qall_c qo42 qall_n)) rfl qe43 rfl (by decide +kernel) (by decide +kernel)
def qc44_0 : List qCt := [((2, [[(.ofNat 0, .ofNat 0)], [(.ofNat 0, .ofNat 5)]], [(0, .inr (.inr (.ref 20))), (1, .inl (1, .ofNat 0))], [], []), [], [(false, .ofNat 4998, (0, .ofNat 0)), (false, .ofNat 6, (1, .ofNat 0)), (false, .ofNat 9000, (0, .ofNat 0)), (false, .ofNat 0, (0, .ofNat 0))])]
def qc44 : List qCt := qc44_0
set_option maxRecDepth 100000 in
theorem qe44 : qck0 yT1 [] qP 20000 [] qc44 qs44 = true := by decide +kernel
set_option maxRecDepth 100000 in
theorem qf44_0 : qc44_0.all (qck1 yT1 [] qP 20000 [] qc44 qs44) = true := by decide +kernel
set_option maxRecDepth 100000 in
theorem qo44 : qOK yT1 86 1471 qs44 := qck_ok (m := 4) qall_n rfl qe44 qf44_0 (by decide +kernel) (by decide +kernel)
def qc45_0 : List qCt := [((27, [[(.ofNat 0, .ofNat 0)], [(.negSucc 2147483647, .ofNat 2147483647)], [(.ofNat 0, .ofNat 8)], [(.negSucc 3, .negSucc 3), (.ofNat 0, .ofNat 7)]], [(0, .inr (.inr (.ref 19))), (1, .inl (1, .ofNat 0)), (2, .inl (2, .ofNat 0))], [], [((19, 4), .inl (3, .ofNat 0))]), [], [(false, .ofNat 4973, (0, .ofNat 0)), (false, .ofNat 9, (2, .ofNat 0)), (false, .ofNat 9000, (0, .ofNat 0)), (false, .ofNat 0, (0, .ofNat 0))])]
def qc45 : List qCt := qc45_0
set_option maxRecDepth 100000 in
theorem qe45 : qck0 yT1 [qs40, qs43, qs44] qP 20000 [] qc45 qs45 = true := by decide +kernel
set_option maxRecDepth 100000 in
theorem qf45_0 : qc45_0.all (qck1 yT1 [qs40, qs43, qs44] qP 20000 [] qc45 qs45) = true := by decide +kernel
set_option maxRecDepth 100000 in
theorem qo45 : qOK yT1 86 1471 qs45 := qck_ok (m := 4) (qall_c qo40 (qall_c qo43 (qall_c qo44 qall_n))) rfl qe45 qf45_0 (by decide +kernel) (by decide +kernel)
def qc46_0 : List qCt := [((5, [[(.ofNat 0, .ofNat 0)], [(.negSucc 3, .negSucc 3), (.ofNat 0, .ofNat 99)], [(.ofNat 0, .ofNat 5)]], [(0, .inr (.inr (.ref 20))), (1, .inl (1, .ofNat 0)), (2, .inl (2, .ofNat 0))], [], []), [], [(false, .ofNat 4995, (0, .ofNat 0)), (false, .ofNat 6, (2, .ofNat 0)), (false, .ofNat 9000, (0, .ofNat 0)), (false, .ofNat 0, (0, .ofNat 0))])]
def qc46 : List qCt := qc46_0
set_option maxRecDepth 100000 in
theorem qe46 : qck0 yT1 [] qP 20000 [] qc46 qs46 = true := by decide +kernel
set_option maxRecDepth 100000 in
theorem qf46_0 : qc46_0.all (qck1 yT1 [] qP 20000 [] qc46 qs46) = true := by decide +kernel
set_option maxRecDepth 100000 in
theorem qo46 : qOK yT1 86 1471 qs46 := qck_ok (m := 4) qall_n rfl qe46 qf46_0 (by decide +kernel) (by decide +kernel)
def qc47 : List qCt := []
set_option maxRecDepth 100000 in
theorem qe47 : qck0 yT1 [qs39, qs45, qs46] qP 20000 [] qc47 qs47 = true := by decide +kernel
set_option maxRecDepth 100000 in
theorem qo47 : qOK yT1 86 1471 qs47 := qck_ok (m := 0) (qall_c qo39 (qall_c qo45 (qall_c qo46 qall_n))) rfl qe47 rfl (by decide +kernel) (by decide +kernel)
def qc48 : List qCt := []
set_option maxRecDepth 100000 in
theorem qe48 : qck0 yT1 [qs39, qs45] qP 20000 [] qc48 qs48 = true := by decide +kernel
set_option maxRecDepth 100000 in
theorem qo48 : qOK yT1 86 1471 qs48 := qck_ok (m := 0) (qall_c qo39 (qall_c qo45 qall_n)) rfl qe48 rfl (by decide +kernel) (by decide +kernel)
def qc49_0 : List qCt := [((16, [[(.ofNat 0, .ofNat 0)], [(.ofNat 1, .ofNat 61)]], [(0, .inr (.inr (.ref 0))), (1, .inl (1, .ofNat 0))], [], []), [], [(false, .ofNat 4984, (0, .ofNat 0)), (false, .ofNat 62, (1, .ofNat 0)), (false, .ofNat 9000, (0, .ofNat 0)), (false, .ofNat 0, (0, .ofNat 0))])]
def qc49 : List qCt := qc49_0
set_option maxRecDepth 100000 in
theorem qe49 : qck0 yT1 [qs39, qs45] qP 20000 [] qc49 qs49 = true := by decide +kernel
set_option maxRecDepth 100000 in
theorem qf49_0 : qc49_0.all (qck1 yT1 [qs39, qs45] qP 20000 [] qc49 qs49) = true := by decide +kernel
set_option maxRecDepth 100000 in
theorem qo49 : qOK yT1 86 1471 qs49 := qck_ok (m := 4) (qall_c qo39 (qall_c qo45 qall_n)) rfl qe49 qf49_0 (by decide +kernel) (by decide +kernel)
def qc50_0 : List qCt := [((10, [[(.ofNat 0, .ofNat 0)], [(.ofNat 0, .ofNat 5)], [(.ofNat 0, .ofNat 5)]], [(0, .inr (.inr (.ref 30))), (1, .inr (.inr (.ref 11))), (2, .inl (1, .ofNat 0))], [], [((30, 2), .inl (2, .ofNat 0)), ((11, 2), .inl (2, .ofNat 0))]), [], [(false, .ofNat 4990, (0, .ofNat 0)), (false, .ofNat 6, (1, .ofNat 0)), (false, .ofNat 9000, (0, .ofNat 0)), (false, .ofNat 0, (0, .ofNat 0))]),
  ((49, [[(.ofNat 0, .ofNat 0)], [(.ofNat 0, .ofNat 8)], [(.ofNat 0, .ofNat 8)], [(.ofNat 0, .ofNat 5)]], [(0, .inr (.inr (.ref 30))), (1, .inr (.inr (.ref 11))), (2, .inl (1, .ofNat 0))], [], [((30, 3), .inl (2, .ofNat 0)), ((11, 3), .inl (2, .ofNat 0)), ((30, 2), .inl (3, .ofNat 0)), ((11, 2), .inl (3, .ofNat 0))]), [], [(false, .ofNat 4951, (0, .ofNat 0)), (false, .ofNat 9, (1, .ofNat 0)), (false, .ofNat 9000, (0, .ofNat 0)), (false, .ofNat 0, (0, .ofNat 0))])]
def qc50 : List qCt := qc50_0
set_option maxRecDepth 100000 in
theorem qe50 : qck0 yT1 [] qP 20000 [] qc50 qs50 = true := by decide +kernel
set_option maxRecDepth 100000 in
theorem qf50_0 : qc50_0.all (qck1 yT1 [] qP 20000 [] qc50 qs50) = true := by decide +kernel
set_option maxRecDepth 100000 in
theorem qo50 : qOK yT1 86 1471 qs50 := qck_ok (m := 4) qall_n rfl qe50 qf50_0 (by decide +kernel) (by decide +kernel)
def qc51 : List qCt := []
set_option maxRecDepth 100000 in
theorem qe51 : qck0 yT1 [] qP 20000 [1] qc51 qs51 = true := by decide +kernel
set_option maxRecDepth 100000 in
theorem qo51 : qOK yT1 86 1471 qs51 := qck_ok (m := 0) qall_n rfl qe51 rfl (by decide +kernel) (by decide +kernel)
def qc52_0 : List qCt := [((15, [[(.ofNat 0, .ofNat 0)], [(.negSucc 2147483646, .ofNat 2147483647)], [(.ofNat 0, .ofNat 5)]], [(0, .inr (.inr (.ref 29))), (1, .inl (1, .ofNat 0)), (2, .inl (2, .ofNat 0))], [], [((29, 4), .inl (1, .ofNat 0))]), [], [(false, .ofNat 4985, (0, .ofNat 0)), (false, .ofNat 6, (2, .ofNat 0)), (false, .ofNat 9000, (0, .ofNat 0)), (false, .ofNat 0, (0, .ofNat 0))])]
def qc52 : List qCt := qc52_0
set_option maxRecDepth 100000 in
theorem qe52 : qck0 yT1 [] qP 20000 [] qc52 qs52 = true := by decide +kernel
set_option maxRecDepth 100000 in
theorem qf52_0 : qc52_0.all (qck1 yT1 [] qP 20000 [] qc52 qs52) = true := by decide +kernel
set_option maxRecDepth 100000 in
theorem qo52 : qOK yT1 86 1471 qs52 := qck_ok (m := 4) qall_n rfl qe52 qf52_0 (by decide +kernel) (by decide +kernel)
def qc53_0 : List qCt := [((5, [[(.ofNat 0, .ofNat 0)], [(.negSucc 2147483647, .ofNat 2147483647)], [(.negSucc 3, .negSucc 3), (.ofNat 0, .ofNat 4)], [(.ofNat 0, .ofNat 5)]], [(0, .inr (.inr (.ref 30))), (1, .inl (1, .ofNat 0)), (2, .inl (2, .ofNat 0)), (3, .inl (3, .ofNat 0))], [], []), [], [(false, .ofNat 4995, (0, .ofNat 0)), (false, .ofNat 6, (3, .ofNat 0)), (false, .ofNat 9000, (0, .ofNat 0)), (false, .ofNat 0, (0, .ofNat 0))])]
def qc53 : List qCt := qc53_0
set_option maxRecDepth 100000 in
theorem qe53 : qck0 yT1 [] qP 20000 [] qc53 qs53 = true := by decide +kernel
set_option maxRecDepth 100000 in
theorem qf53_0 : qc53_0.all (qck1 yT1 [] qP 20000 [] qc53 qs53) = true := by decide +kernel
set_option maxRecDepth 100000 in
theorem qo53 : qOK yT1 86 1471 qs53 := qck_ok (m := 4) qall_n rfl qe53 qf53_0 (by decide +kernel) (by decide +kernel)
def qc54_0 : List qCt := [((5, [[(.ofNat 0, .ofNat 0)], [(.negSucc 3, .ofNat 99)], [(.ofNat 0, .ofNat 5)]], [(0, .inr (.inr (.ref 30))), (1, .inl (1, .ofNat 0)), (2, .inl (2, .ofNat 0))], [], []), [], [(false, .ofNat 4995, (0, .ofNat 0)), (false, .ofNat 6, (2, .ofNat 0)), (false, .ofNat 9000, (0, .ofNat 0)), (false, .ofNat 0, (0, .ofNat 0))])]
def qc54 : List qCt := qc54_0
set_option maxRecDepth 100000 in
theorem qe54 : qck0 yT1 [] qP 20000 [] qc54 qs54 = true := by decide +kernel
set_option maxRecDepth 100000 in
theorem qf54_0 : qc54_0.all (qck1 yT1 [] qP 20000 [] qc54 qs54) = true := by decide +kernel
set_option maxRecDepth 100000 in
theorem qo54 : qOK yT1 86 1471 qs54 := qck_ok (m := 4) qall_n rfl qe54 qf54_0 (by decide +kernel) (by decide +kernel)
def qc55 : List qCt := []
set_option maxRecDepth 100000 in
theorem qe55 : qck0 yT1 [qs53, qs54] qP 20000 [] qc55 qs55 = true := by decide +kernel
set_option maxRecDepth 100000 in
theorem qo55 : qOK yT1 86 1471 qs55 := qck_ok (m := 0) (qall_c qo53 (qall_c qo54 qall_n)) rfl qe55 rfl (by decide +kernel) (by decide +kernel)
def qc56 : List qCt := []
set_option maxRecDepth 100000 in
theorem qe56 : qck0 yT1 [qs52] qP 20000 [] qc56 qs56 = true := by decide +kernel
set_option maxRecDepth 100000 in
theorem qo56 : qOK yT1 86 1471 qs56 := qck_ok (m := 0) (qall_c qo52 qall_n) rfl qe56 rfl (by decide +kernel) (by decide +kernel)
def qc57_0 : List qCt := [((22, [[(.ofNat 0, .ofNat 0)], [(.negSucc 2147483647, .ofNat 2147483647)], [(.negSucc 2147483647, .ofNat 2147483647)], [(.ofNat 0, .ofNat 5)]], [(0, .inr (.inr (.ref 29))), (1, .inl (1, .ofNat 0)), (2, .inl (0, .ofNat 4)), (3, .inl (2, .ofNat 0)), (4, .inl (3, .ofNat 0))], [], [((29, 3), .inl (0, .ofNat 5))]), [], [(false, .ofNat 4978, (0, .ofNat 0)), (false, .ofNat 6, (3, .ofNat 0)), (false, .ofNat 9000, (0, .ofNat 0)), (false, .ofNat 0, (0, .ofNat 0))])]
def qc57 : List qCt := qc57_0
set_option maxRecDepth 100000 in
theorem qe57 : qck0 yT1 [qs52, qs55, qs56] qP 20000 [] qc57 qs57 = true := by decide +kernel
set_option maxRecDepth 100000 in
theorem qf57_0 : qc57_0.all (qck1 yT1 [qs52, qs55, qs56] qP 20000 [] qc57 qs57) = true := by decide +kernel
set_option maxRecDepth 100000 in
theorem qo57 : qOK yT1 86 1471 qs57 := qck_ok (m := 4) (qall_c qo52 (qall_c qo55 (qall_c qo56 qall_n))) rfl qe57 qf57_0 (by decide +kernel) (by decide +kernel)
def qc58_0 : List qCt := [((22, [[(.ofNat 0, .ofNat 0)], [(.negSucc 2147483647, .ofNat 2147483647)], [(.negSucc 2147483647, .ofNat 2147483647)], [(.ofNat 0, .ofNat 5)], [(.ofNat 4, .ofNat 5)]], [(0, .inr (.inr (.ref 29))), (1, .inl (1, .ofNat 0)), (2, .inl (0, .ofNat 3)), (3, .inl (2, .ofNat 0)), (4, .inl (3, .ofNat 0))], [], [((29, 3), .inl (4, .ofNat 0))]), [], [(false, .ofNat 4978, (0, .ofNat 0)), (false, .ofNat 6, (3, .ofNat 0)), (false, .ofNat 9000, (0, .ofNat 0)), (false, .ofNat 0, (0, .ofNat 0))])]
def qc58 : List qCt := qc58_0
set_option maxRecDepth 100000 in
theorem qe58 : qck0 yT1 [qs52, qs55, qs57] qP 20000 [] qc58 qs58 = true := by decide +kernel
set_option maxRecDepth 100000 in
theorem qf58_0 : qc58_0.all (qck1 yT1 [qs52, qs55, qs57] qP 20000 [] qc58 qs58) = true := by decide +kernel
set_option maxRecDepth 100000 in
theorem qo58 : qOK yT1 86 1471 qs58 := qck_ok (m := 4) (qall_c qo52 (qall_c qo55 (qall_c qo57 qall_n))) rfl qe58 qf58_0 (by decide +kernel) (by decide +kernel)
