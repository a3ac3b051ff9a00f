/-! the methods are as their summaries say, 5 -/
def qc63_0 : List qCt := [((22, [[(0, 0)], [(0, 1)], [((-4), (-4)), (0, 4)], [((-2147483648), 2147483647)], [(0, 5)]], [(0, .inr (.inr (.ref 0))), (1, .inl (1, 0)), (2, .inl (2, 0)), (3, .inl (3, 0)), (4, .inl (4, 0))], [], []), [], [(false, 4978, (0, 0)), (false, 6, (4, 0)), (false, 9000, (0, 0)), (false, 0, (0, 0))])]
def qc63 : List qCt := qc63_0
set_option maxRecDepth 100000 in
theorem qe63 : qck0 yT1 [qs32, qs37] qP 20000 [] qc63 qs63 = true := by decide +kernel
set_option maxRecDepth 100000 in
theorem qf63_0 : qc63_0.all (qck1 yT1 [qs32, qs37] qP 20000 [] qc63 qs63) = true := by decide +kernel
set_option maxRecDepth 100000 in
theorem qo63 : qOK yT1 86 1471 qs63 := qck_ok (m := 4) (qall_c qo32 (qall_c qo37 qall_n)) rfl qe63 qf63_0 (by decide +kernel) (by decide +kernel)
def qc64_0 : List qCt := [((22, [[(0, 0)], [(0, 1)], [((-4), (-4)), (1, 4), (11, 14), (21, 26), (31, 39), (41, 47)], [((-2147483648), 2147483647)], [(0, 5)]], [(0, .inr (.inr (.ref 0))), (1, .inl (1, 0)), (2, .inl (2, 0)), (3, .inl (3, 0)), (4, .inl (4, 0))], [], []), [], [(false, 4978, (0, 0)), (false, 6, (4, 0)), (false, 9000, (0, 0)), (false, 0, (0, 0)), (false, 9000, (0, 0)), (false, 0, (0, 0))])]
def qc64_1 : List qCt := [((40, [[(0, 0)], [(0, 1)], [((-4), (-4)), (1, 4), (11, 14), (21, 26), (31, 39), (41, 47)], [((-2147483648), 2147483647)], [(0, 4)], [(1, 5)], [(1, 5)]], [(0, .inr (.inr (.ref 0))), (1, .inl (1, 0)), (2, .inl (2, 0)), (3, .inl (3, 0)), (4, .inl (4, 0)), (5, .inl (5, 0))], [], [((11, 2), .inl (6, 0))]), [], [(false, 4978, (0, 0)), (false, 6, (4, 0)), (false, 4960, (0, 0)), (false, 6, (5, 0)), (false, 9000, (0, 0)), (false, 0, (0, 0))])]
def qc64 : List qCt := qc64_0 ++ qc64_1
set_option maxRecDepth 100000 in
theorem qe64 : qck0 yT1 [qs32, qs37] qP 20000 [] qc64 qs64 = true := by decide +kernel
set_option maxRecDepth 100000 in
theorem qf64_0 : qc64_0.all (qck1 yT1 [qs32, qs37] qP 20000 [] qc64 qs64) = true := by decide +kernel
set_option maxRecDepth 100000 in
theorem qf64_1 : qc64_1.all (qck1 yT1 [qs32, qs37] qP 20000 [] qc64 qs64) = true := by decide +kernel
set_option maxRecDepth 100000 in
theorem qo64 : qOK yT1 86 1471 qs64 := qck_ok (m := 6) (qall_c qo32 (qall_c qo37 qall_n)) rfl qe64 (by unfold qc64; simp only [List.all_append, Bool.and_eq_true]; exact ⟨qf64_0, qf64_1⟩) (by decide +kernel) (by decide +kernel)
def qc65_0 : List qCt := [((2, [[(0, 0)], [(0, 10)]], [(0, .inr (.inr (.ref 0))), (1, .inl (1, 0))], [], []), [], [(false, 4998, (0, 0)), (false, 11, (1, 0)), (false, 9000, (0, 0)), (false, 0, (0, 0))])]
def qc65 : List qCt := qc65_0
set_option maxRecDepth 100000 in
theorem qe65 : qck0 yT1 [qs32, qs37] qP 20000 [] qc65 qs65 = true := by decide +kernel
set_option maxRecDepth 100000 in
theorem qf65_0 : qc65_0.all (qck1 yT1 [qs32, qs37] qP 20000 [] qc65 qs65) = true := by decide +kernel
set_option maxRecDepth 100000 in
theorem qo65 : qOK yT1 86 1471 qs65 := qck_ok (m := 4) (qall_c qo32 (qall_c qo37 qall_n)) rfl qe65 qf65_0 (by decide +kernel) (by decide +kernel)
def qc66_0 : List qCt := [((5, [[(0, 0)], [((-2147483648), 2147483647)], [((-2147483648), 2147483647)], [((-9223372036854775808), 9223372036854775807)], [(0, 5)]], [(0, .inr (.inr (.ref 0))), (1, .inl (1, 0)), (2, .inl (2, 0)), (3, .inr (.inl (3, 0))), (5, .inl (4, 0))], [], []), [], [(false, 4995, (0, 0)), (false, 6, (4, 0)), (false, 9000, (0, 0)), (false, 0, (0, 0))])]
def qc66 : List qCt := qc66_0
set_option maxRecDepth 100000 in
theorem qe66 : qck0 yT1 [] qP 20000 [] qc66 qs66 = true := by decide +kernel
set_option maxRecDepth 100000 in
theorem qf66_0 : qc66_0.all (qck1 yT1 [] qP 20000 [] qc66 qs66) = true := by decide +kernel
set_option maxRecDepth 100000 in
theorem qo66 : qOK yT1 86 1471 qs66 := qck_ok (m := 4) qall_n rfl qe66 qf66_0 (by decide +kernel) (by decide +kernel)
def qc67_0 : List qCt := [((4, [[(0, 0)], [((-9223372036854775808), 9223372036854775807)], [(0, 5)]], [(0, .inr (.inr (.ref 0))), (1, .inr (.inl (1, 0))), (3, .inl (2, 0))], [], []), [], [(false, 4996, (0, 0)), (false, 6, (2, 0)), (false, 9000, (0, 0)), (false, 0, (0, 0))])]
def qc67 : List qCt := qc67_0
set_option maxRecDepth 100000 in
theorem qe67 : qck0 yT1 [] qP 20000 [] qc67 qs67 = true := by decide +kernel
set_option maxRecDepth 100000 in
theorem qf67_0 : qc67_0.all (qck1 yT1 [] qP 20000 [] qc67 qs67) = true := by decide +kernel
set_option maxRecDepth 100000 in
theorem qo67 : qOK yT1 86 1471 qs67 := qck_ok (m := 4) qall_n rfl qe67 qf67_0 (by decide +kernel) (by decide +kernel)
def qc68_0 : List qCt := [((9, [[(0, 0)], [((-9223372036854775808), 9223372036854775807)], [((-9223372036854775808), 9223372036854775807)], [((-9223372036854775808), 9223372036854775807)], [((-9223372036854775808), 9223372036854775807)], [(0, 100)]], [(0, .inr (.inl (1, 0))), (2, .inr (.inl (2, 0))), (4, .inr (.inl (3, 0))), (6, .inr (.inl (4, 0))), (8, .inl (5, 0))], [], []), [], [(false, 4991, (0, 0)), (false, 101, (5, 0)), (false, 9000, (0, 0)), (false, 0, (0, 0))])]
def qc68 : List qCt := qc68_0
set_option maxRecDepth 100000 in
theorem qe68 : qck0 yT1 [] qP 20000 [] qc68 qs68 = true := by decide +kernel
set_option maxRecDepth 100000 in
theorem qf68_0 : qc68_0.all (qck1 yT1 [] qP 20000 [] qc68 qs68) = true := by decide +kernel
set_option maxRecDepth 100000 in
theorem qo68 : qOK yT1 86 1471 qs68 := qck_ok (m := 4) qall_n rfl qe68 qf68_0 (by decide +kernel) (by decide +kernel)
def qc69_0 : List qCt := [((28, [[(0, 0)], [(0, 10)], [(0, 1)], [((-9223372036854775808), 9223372036854775807)], [(0, 32)]], [(0, .inr (.inr (.ref 0))), (1, .inl (1, 0)), (2, .inl (2, 0)), (3, .inr (.inl (3, 0))), (5, .inl (4, 0))], [], []), [], [(false, 4972, (0, 0)), (false, 33, (4, 0)), (false, 9000, (0, 0)), (false, 0, (0, 0))])]
def qc69 : List qCt := qc69_0
set_option maxRecDepth 100000 in
theorem qe69 : qck0 yT1 [qs66, qs32, qs37, qs67, qs68] qP 20000 [] qc69 qs69 = true := by decide +kernel
set_option maxRecDepth 100000 in
theorem qf69_0 : qc69_0.all (qck1 yT1 [qs66, qs32, qs37, qs67, qs68] qP 20000 [] qc69 qs69) = true := by decide +kernel
set_option maxRecDepth 100000 in
theorem qo69 : qOK yT1 86 1471 qs69 := qck_ok (m := 4) (qall_c qo66 (qall_c qo32 (qall_c qo37 (qall_c qo67 (qall_c qo68 qall_n))))) rfl qe69 qf69_0 (by decide +kernel) (by decide +kernel)
def qc70_0 : List qCt := [((40, [[(0, 0)], [(0, 10)], [(0, 4)], [(0, 1)], [((-9223372036854775808), 9223372036854775807)], [(0, 32)], [(1, 5)]], [(0, .inr (.inr (.ref 0))), (1, .inl (1, 0)), (2, .inl (2, 0)), (3, .inl (3, 0)), (4, .inr (.inl (4, 0))), (6, .inl (5, 0))], [], [((11, 2), .inl (6, 0))]), [], [(false, 4960, (0, 0)), (false, 33, (5, 0)), (false, 9000, (0, 0)), (false, 0, (0, 0))])]
def qc70 : List qCt := qc70_0
set_option maxRecDepth 100000 in
theorem qe70 : qck0 yT1 [qs32, qs37, qs66, qs67, qs68] qP 20000 [] qc70 qs70 = true := by decide +kernel
set_option maxRecDepth 100000 in
theorem qf70_0 : qc70_0.all (qck1 yT1 [qs32, qs37, qs66, qs67, qs68] qP 20000 [] qc70 qs70) = true := by decide +kernel
set_option maxRecDepth 100000 in
theorem qo70 : qOK yT1 86 1471 qs70 := qck_ok (m := 4) (qall_c qo32 (qall_c qo37 (qall_c qo66 (qall_c qo67 (qall_c qo68 qall_n))))) rfl qe70 qf70_0 (by decide +kernel) (by decide +kernel)
def qc71 : List qCt := []
set_option maxRecDepth 100000 in
theorem qe71 : qck0 yT1 [] qP 20000 [] qc71 qs71 = true := by decide +kernel
set_option maxRecDepth 100000 in
theorem qo71 : qOK yT1 86 1471 qs71 := qck_ok (m := 0) qall_n rfl qe71 rfl (by decide +kernel) (by decide +kernel)
def qc72 : List qCt := []
set_option maxRecDepth 100000 in
theorem qe72 : qck0 yT1 [] qP 20000 [] qc72 qs72 = true := by decide +kernel
set_option maxRecDepth 100000 in
theorem qo72 : qOK yT1 86 1471 qs72 := qck_ok (m := 0) qall_n rfl qe72 rfl (by decide +kernel) (by decide +kernel)
def qc73_0 : List qCt := [((2, [[(0, 0)], [(0, 6)]], [(0, .inr (.inr (.ref 40))), (1, .inr (.inr (.ref 19))), (2, .inl (1, 0))], [], []), [], [(false, 4998, (0, 0)), (false, 7, (1, 0)), (false, 9000, (0, 0)), (false, 0, (0, 0))])]
def qc73 : List qCt := qc73_0
set_option maxRecDepth 100000 in
theorem qe73 : qck0 yT1 [] qP 20000 [] qc73 qs73 = true := by decide +kernel
set_option maxRecDepth 100000 in
theorem qf73_0 : qc73_0.all (qck1 yT1 [] qP 20000 [] qc73 qs73) = true := by decide +kernel
set_option maxRecDepth 100000 in
theorem qo73 : qOK yT1 86 1471 qs73 := qck_ok (m := 4) qall_n rfl qe73 qf73_0 (by decide +kernel) (by decide +kernel)
def qc74_0 : List qCt := [((35, [[(0, 0)], [(0, 4)], [(0, 2)], [((-2147483648), 2147483647)], [((-4), (-4)), (0, 20)], [((-4), (-4)), (0, 20)], [(0, 21)], [(1, 5)]], [(0, .inr (.inr (.ref 0))), (1, .inl (1, 0)), (2, .inl (2, 0)), (3, .inl (3, 0)), (4, .inl (4, 0)), (5, .inl (5, 0)), (6, .inl (6, 0))], [], [((11, 2), .inl (7, 0))]), [], [(false, 4965, (0, 0)), (false, 22, (6, 0)), (false, 9000, (0, 0)), (false, 0, (0, 0))])]
def qc74 : List qCt := qc74_0
set_option maxRecDepth 100000 in
theorem qe74 : qck0 yT1 [qs32, qs37, qs73] qP 20000 [] qc74 qs74 = true := by decide +kernel
set_option maxRecDepth 100000 in
theorem qf74_0 : qc74_0.all (qck1 yT1 [qs32, qs37, qs73] qP 20000 [] qc74 qs74) = true := by decide +kernel
set_option maxRecDepth 100000 in
theorem qo74 : qOK yT1 86 1471 qs74 := qck_ok (m := 4) (qall_c qo32 (qall_c qo37 (qall_c qo73 qall_n))) rfl qe74 qf74_0 (by decide +kernel) (by decide +kernel)
def qc75_0 : List qCt := [((4, [[(0, 0)], [(0, 32767)], [(0, 10)]], [(0, .inr (.inr (.ref 0))), (1, .inl (1, 0)), (2, .inl (2, 0))], [], []), [], [(false, 4996, (0, 0)), (false, 11, (2, 0)), (false, 9000, (0, 0)), (false, 0, (0, 0))])]
def qc75 : List qCt := qc75_0
set_option maxRecDepth 100000 in
theorem qe75 : qck0 yT1 [qs32, qs37, qs73] qP 20000 [] qc75 qs75 = true := by decide +kernel
set_option maxRecDepth 100000 in
theorem qf75_0 : qc75_0.all (qck1 yT1 [qs32, qs37, qs73] qP 20000 [] qc75 qs75) = true := by decide +kernel
set_option maxRecDepth 100000 in
theorem qo75 : qOK yT1 86 1471 qs75 := qck_ok (m := 4) (qall_c qo32 (qall_c qo37 (qall_c qo73 qall_n))) rfl qe75 qf75_0 (by decide +kernel) (by decide +kernel)
def qc76_0 : List qCt := [((5, [[(0, 0)], [(0, 48)]], [(0, .inr (.inr (.ref 43))), (1, .inl (0, 0)), (2, .inl (1, 0)), (3, .inl (0, 48))], [], []), [], [(false, 4995, (0, 0)), (false, 49, (1, 0)), (false, 9000, (0, 0)), (false, 0, (0, 0))])]
def qc76 : List qCt := qc76_0
set_option maxRecDepth 100000 in
theorem qe76 : qck0 yT1 [] qP 20000 [] qc76 qs76 = true := by decide +kernel
set_option maxRecDepth 100000 in
theorem qf76_0 : qc76_0.all (qck1 yT1 [] qP 20000 [] qc76 qs76) = true := by decide +kernel
set_option maxRecDepth 100000 in
theorem qo76 : qOK yT1 86 1471 qs76 := qck_ok (m := 4) qall_n rfl qe76 qf76_0 (by decide +kernel) (by decide +kernel)
def qc77_0 : List qCt := [((2, [[(0, 0)], [(0, 8)]], [(0, .inr (.inr (.ref 40))), (1, .inr (.inr (.ref 19))), (2, .inl (1, 0))], [], []), [], [(false, 4998, (0, 0)), (false, 9, (1, 0)), (false, 9000, (0, 0)), (false, 0, (0, 0))])]
def qc77 : List qCt := qc77_0
set_option maxRecDepth 100000 in
theorem qe77 : qck0 yT1 [] qP 20000 [] qc77 qs77 = true := by decide +kernel
set_option maxRecDepth 100000 in
theorem qf77_0 : qc77_0.all (qck1 yT1 [] qP 20000 [] qc77 qs77) = true := by decide +kernel
set_option maxRecDepth 100000 in
theorem qo77 : qOK yT1 86 1471 qs77 := qck_ok (m := 4) qall_n rfl qe77 qf77_0 (by decide +kernel) (by decide +kernel)
def qc78_0 : List qCt := [((11, [[(0, 0)], [(0, 4)], [((-2147483648), 2147483647)], [(0, 21)]], [(0, .inr (.inr (.ref 0))), (1, .inl (1, 0)), (2, .inl (2, 0)), (3, .inl (3, 0))], [], []), [], [(false, 4989, (0, 0)), (false, 22, (3, 0)), (false, 9000, (0, 0)), (false, 0, (0, 0))])]
def qc78 : List qCt := qc78_0
set_option maxRecDepth 100000 in
theorem qe78 : qck0 yT1 [qs76, qs32, qs37, qs73, qs77] qP 20000 [] qc78 qs78 = true := by decide +kernel
set_option maxRecDepth 100000 in
theorem qf78_0 : qc78_0.all (qck1 yT1 [qs76, qs32, qs37, qs73, qs77] qP 20000 [] qc78 qs78) = true := by decide +kernel
set_option maxRecDepth 100000 in
theorem qo78 : qOK yT1 86 1471 qs78 := qck_ok (m := 4) (qall_c qo76 (qall_c qo32 (qall_c qo37 (qall_c qo73 (qall_c qo77 qall_n))))) rfl qe78 qf78_0 (by decide +kernel) (by decide +kernel)
def qc79_0 : List qCt := [((4, [[(0, 0)], [(0, 7)], [(0, 2147483647)], [(0, 6)]], [(0, .inr (.inr (.ref 40))), (1, .inl (1, 0)), (2, .inl (2, 0)), (3, .inl (3, 0))], [], []), [], [(false, 4996, (0, 0)), (false, 7, (3, 0)), (false, 9000, (0, 0)), (false, 0, (0, 0))])]
def qc79 : List qCt := qc79_0
set_option maxRecDepth 100000 in
theorem qe79 : qck0 yT1 [] qP 20000 [] qc79 qs79 = true := by decide +kernel
set_option maxRecDepth 100000 in
theorem qf79_0 : qc79_0.all (qck1 yT1 [] qP 20000 [] qc79 qs79) = true := by decide +kernel
set_option maxRecDepth 100000 in
theorem qo79 : qOK yT1 86 1471 qs79 := qck_ok (m := 4) qall_n rfl qe79 qf79_0 (by decide +kernel) (by decide +kernel)
def qc80_0 : List qCt := [((35, [[(0, 0)], [(0, 4)], [(0, 1)], [((-4), (-4)), (0, 7)], [((-2147483648), 2147483647)], [(0, 8)], [(1, 5)]], [(0, .inr (.inr (.ref 0))), (1, .inl (1, 0)), (2, .inl (2, 0)), (3, .inl (3, 0)), (4, .inl (4, 0)), (5, .inl (5, 0))], [], [((11, 2), .inl (6, 0))]), [], [(false, 4965, (0, 0)), (false, 9, (5, 0)), (false, 9000, (0, 0)), (false, 0, (0, 0))])]
def qc80 : List qCt := qc80_0
set_option maxRecDepth 100000 in
theorem qe80 : qck0 yT1 [qs78, qs79] qP 20000 [] qc80 qs80 = true := by decide +kernel
set_option maxRecDepth 100000 in
theorem qf80_0 : qc80_0.all (qck1 yT1 [qs78, qs79] qP 20000 [] qc80 qs80) = true := by decide +kernel
set_option maxRecDepth 100000 in
theorem qo80 : qOK yT1 86 1471 qs80 := qck_ok (m := 4) (qall_c qo78 (qall_c qo79 qall_n)) rfl qe80 qf80_0 (by decide +kernel) (by decide +kernel)
def qc81_0 : List qCt := [((70, [[(0, 0)], [((-2147483648), 2147483647)], [(1, 60)], [(0, 1)], [(1, 31)], [((-2147483648), 2147483647)], [((-2147483648), 2147483647)], [(0, 60)]], [(0, .inr (.inr (.ref 0))), (1, .inl (1, 0)), (2, .inl (2, 0)), (3, .inl (3, 0)), (4, .inl (4, 0)), (5, .inr (.inr (.ref 20))), (6, .inl (5, 0)), (7, .inl (6, 0)), (8, .inl (7, 0))], [], []), [], [(false, 4930, (0, 0)), (false, 61, (7, 0)), (false, 9000, (0, 0)), (false, 0, (0, 0))])]
def qc81 : List qCt := qc81_0
set_option maxRecDepth 100000 in
theorem qe81 : qck0 yT1 [qs32, qs34, qs35, qs38] qP 20000 [] qc81 qs81 = true := by decide +kernel
set_option maxRecDepth 100000 in
theorem qf81_0 : qc81_0.all (qck1 yT1 [qs32, qs34, qs35, qs38] qP 20000 [] qc81 qs81) = true := by decide +kernel
set_option maxRecDepth 100000 in
theorem qo81 : qOK yT1 86 1471 qs81 := qck_ok (m := 4) (qall_c qo32 (qall_c qo34 (qall_c qo35 (qall_c qo38 qall_n)))) rfl qe81 qf81_0 (by decide +kernel) (by decide +kernel)
def qc82_0 : List qCt := [((10, [[(0, 0)], [(0, 5)], [(0, 5)]], [(0, .inr (.inr (.ref 47))), (1, .inr (.inr (.ref 11))), (2, .inl (1, 0))], [], [((47, 2), .inl (2, 0)), ((11, 2), .inl (2, 0))]), [], [(false, 4990, (0, 0)), (false, 6, (1, 0)), (false, 9000, (0, 0)), (false, 0, (0, 0))]),
  ((49, [[(0, 0)], [(0, 8)], [(0, 8)], [(0, 5)]], [(0, .inr (.inr (.ref 47))), (1, .inr (.inr (.ref 11))), (2, .inl (1, 0))], [], [((47, 3), .inl (2, 0)), ((11, 3), .inl (2, 0)), ((47, 2), .inl (3, 0)), ((11, 2), .inl (3, 0))]), [], [(false, 4951, (0, 0)), (false, 9, (1, 0)), (false, 9000, (0, 0)), (false, 0, (0, 0))])]
def qc82 : List qCt := qc82_0
set_option maxRecDepth 100000 in
theorem qe82 : qck0 yT1 [] qP 20000 [] qc82 qs82 = true := by decide +kernel
set_option maxRecDepth 100000 in
theorem qf82_0 : qc82_0.all (qck1 yT1 [] qP 20000 [] qc82 qs82) = true := by decide +kernel
set_option maxRecDepth 100000 in
theorem qo82 : qOK yT1 86 1471 qs82 := qck_ok (m := 4) qall_n rfl qe82 qf82_0 (by decide +kernel) (by decide +kernel)
def qc83_0 : List qCt := [((10, [[(0, 0)], [(0, 5)], [(0, 5)]], [(0, .inr (.inr (.ref 55))), (1, .inr (.inr (.ref 11))), (2, .inl (1, 0))], [], [((55, 2), .inl (2, 0)), ((11, 2), .inl (2, 0))]), [], [(false, 4990, (0, 0)), (false, 6, (1, 0)), (false, 9000, (0, 0)), (false, 0, (0, 0))]),
  ((49, [[(0, 0)], [(0, 8)], [(0, 8)], [(0, 5)]], [(0, .inr (.inr (.ref 55))), (1, .inr (.inr (.ref 11))), (2, .inl (1, 0))], [], [((55, 3), .inl (2, 0)), ((11, 3), .inl (2, 0)), ((55, 2), .inl (3, 0)), ((11, 2), .inl (3, 0))]), [], [(false, 4951, (0, 0)), (false, 9, (1, 0)), (false, 9000, (0, 0)), (false, 0, (0, 0))])]
def qc83 : List qCt := qc83_0
set_option maxRecDepth 100000 in
theorem qe83 : qck0 yT1 [] qP 20000 [] qc83 qs83 = true := by decide +kernel
set_option maxRecDepth 100000 in
theorem qf83_0 : qc83_0.all (qck1 yT1 [] qP 20000 [] qc83 qs83) = true := by decide +kernel
set_option maxRecDepth 100000 in
theorem qo83 : qOK yT1 86 1471 qs83 := qck_ok (m := 4) qall_n rfl qe83 qf83_0 (by decide +kernel) (by decide +kernel)
def qc84 : List qCt := []
set_option maxRecDepth 100000 in
theorem qe84 : qck0 yT1 [qs82, qs83] qP 20000 [] qc84 qs84 = true := by decide +kernel
set_option maxRecDepth 100000 in
theorem qo84 : qOK yT1 86 1471 qs84 := qck_ok (m := 0) (qall_c qo82 (qall_c qo83 qall_n)) rfl qe84 rfl (by decide +kernel) (by decide +kernel)
def qc85_0 : List qCt := [((10, [[(0, 0)], [(0, 5)], [(0, 5)]], [(0, .inr (.inr (.ref 11))), (1, .inr (.inr (.ref 47))), (2, .inl (1, 0))], [], [((11, 2), .inl (2, 0)), ((47, 2), .inl (2, 0))]), [], [(false, 4990, (0, 0)), (false, 6, (1, 0)), (false, 9000, (0, 0)), (false, 0, (0, 0))]),
  ((49, [[(0, 0)], [(0, 8)], [(0, 8)], [(0, 5)]], [(0, .inr (.inr (.ref 11))), (1, .inr (.inr (.ref 47))), (2, .inl (1, 0))], [], [((11, 3), .inl (2, 0)), ((47, 3), .inl (2, 0)), ((11, 2), .inl (3, 0)), ((47, 2), .inl (3, 0))]), [], [(false, 4951, (0, 0)), (false, 9, (1, 0)), (false, 9000, (0, 0)), (false, 0, (0, 0))])]
def qc85 : List qCt := qc85_0
set_option maxRecDepth 100000 in
theorem qe85 : qck0 yT1 [] qP 20000 [] qc85 qs85 = true := by decide +kernel
set_option maxRecDepth 100000 in
theorem qf85_0 : qc85_0.all (qck1 yT1 [] qP 20000 [] qc85 qs85) = true := by decide +kernel
set_option maxRecDepth 100000 in
theorem qo85 : qOK yT1 86 1471 qs85 := qck_ok (m := 4) qall_n rfl qe85 qf85_0 (by decide +kernel) (by decide +kernel)
def qc86_0 : List qCt := [((10, [[(0, 0)], [(0, 5)], [(0, 5)]], [(0, .inr (.inr (.ref 11))), (1, .inr (.inr (.ref 55))), (2, .inl (1, 0))], [], [((11, 2), .inl (2, 0)), ((55, 2), .inl (2, 0))]), [], [(false, 4990, (0, 0)), (false, 6, (1, 0)), (false, 9000, (0, 0)), (false, 0, (0, 0))]),
  ((49, [[(0, 0)], [(0, 8)], [(0, 8)], [(0, 5)]], [(0, .inr (.inr (.ref 11))), (1, .inr (.inr (.ref 55))), (2, .inl (1, 0))], [], [((11, 3), .inl (2, 0)), ((55, 3), .inl (2, 0)), ((11, 2), .inl (3, 0)), ((55, 2), .inl (3, 0))]), [], [(false, 4951, (0, 0)), (false, 9, (1, 0)), (false, 9000, (0, 0)), (false, 0, (0, 0))])]
def qc86 : List qCt := qc86_0
set_option maxRecDepth 100000 in
theorem qe86 : qck0 yT1 [] qP 20000 [] qc86 qs86 = true := by decide +kernel
set_option maxRecDepth 100000 in
theorem qf86_0 : qc86_0.all (qck1 yT1 [] qP 20000 [] qc86 qs86) = true := by decide +kernel
set_option maxRecDepth 100000 in
theorem qo86 : qOK yT1 86 1471 qs86 := qck_ok (m := 4) qall_n rfl qe86 qf86_0 (by decide +kernel) (by decide +kernel)
def qc87 : List qCt := []
set_option maxRecDepth 100000 in
theorem qe87 : qck0 yT1 [qs85, qs86] qP 20000 [] qc87 qs87 = true := by decide +kernel
set_option maxRecDepth 100000 in
theorem qo87 : qOK yT1 86 1471 qs87 := qck_ok (m := 0) (qall_c qo85 (qall_c qo86 qall_n)) rfl qe87 rfl (by decide +kernel) (by decide +kernel)
def qc88_0 : List qCt := [((5, [[(0, 0)], [(0, 40)]], [(0, .inr (.inr (.ref 64))), (1, .inl (0, 0)), (2, .inl (1, 0)), (3, .inl (0, 40))], [], []), [], [(false, 4995, (0, 0)), (false, 41, (1, 0)), (false, 9000, (0, 0)), (false, 0, (0, 0))])]
def qc88 : List qCt := qc88_0
set_option maxRecDepth 100000 in
theorem qe88 : qck0 yT1 [] qP 20000 [] qc88 qs88 = true := by decide +kernel
set_option maxRecDepth 100000 in
theorem qf88_0 : qc88_0.all (qck1 yT1 [] qP 20000 [] qc88 qs88) = true := by decide +kernel
set_option maxRecDepth 100000 in
theorem qo88 : qOK yT1 86 1471 qs88 := qck_ok (m := 4) qall_n rfl qe88 qf88_0 (by decide +kernel) (by decide +kernel)
def qc89_0 : List qCt := [((5, [[(0, 0)], [(0, 40)]], [(0, .inr (.inr (.ref 66))), (1, .inl (0, 0)), (2, .inl (1, 0)), (3, .inl (0, 40))], [], []), [], [(false, 4995, (0, 0)), (false, 41, (1, 0)), (false, 9000, (0, 0)), (false, 0, (0, 0))])]
def qc89 : List qCt := qc89_0
set_option maxRecDepth 100000 in
theorem qe89 : qck0 yT1 [] qP 20000 [] qc89 qs89 = true := by decide +kernel
set_option maxRecDepth 100000 in
theorem qf89_0 : qc89_0.all (qck1 yT1 [] qP 20000 [] qc89 qs89) = true := by decide +kernel
set_option maxRecDepth 100000 in
theorem qo89 : qOK yT1 86 1471 qs89 := qck_ok (m := 4) qall_n rfl qe89 qf89_0 (by decide +kernel) (by decide +kernel)
def qc90_0 : List qCt := [((5, [[(0, 0)], [(0, 40)]], [(0, .inr (.inr (.ref 68))), (1, .inl (0, 0)), (2, .inl (1, 0)), (3, .inl (0, 40))], [], []), [], [(false, 4995, (0, 0)), (false, 41, (1, 0)), (false, 9000, (0, 0)), (false, 0, (0, 0))])]
def qc90 : List qCt := qc90_0
set_option maxRecDepth 100000 in
theorem qe90 : qck0 yT1 [] qP 20000 [] qc90 qs90 = true := by decide +kernel
set_option maxRecDepth 100000 in
theorem qf90_0 : qc90_0.all (qck1 yT1 [] qP 20000 [] qc90 qs90) = true := by decide +kernel
set_option maxRecDepth 100000 in
theorem qo90 : qOK yT1 86 1471 qs90 := qck_ok (m := 4) qall_n rfl qe90 qf90_0 (by decide +kernel) (by decide +kernel)
def qc91_0 : List qCt := [((5, [[(0, 0)], [(0, 40)]], [(0, .inr (.inr (.ref 70))), (1, .inl (0, 0)), (2, .inl (1, 0)), (3, .inl (0, 40))], [], []), [], [(false, 4995, (0, 0)), (false, 41, (1, 0)), (false, 9000, (0, 0)), (false, 0, (0, 0))])]
def qc91 : List qCt := qc91_0
set_option maxRecDepth 100000 in
theorem qe91 : qck0 yT1 [] qP 20000 [] qc91 qs91 = true := by decide +kernel
set_option maxRecDepth 100000 in
theorem qf91_0 : qc91_0.all (qck1 yT1 [] qP 20000 [] qc91 qs91) = true := by decide +kernel
set_option maxRecDepth 100000 in
theorem qo91 : qOK yT1 86 1471 qs91 := qck_ok (m := 4) qall_n rfl qe91 qf91_0 (by decide +kernel) (by decide +kernel)
def qc92 : List qCt := []
set_option maxRecDepth 100000 in
theorem qe92 : qck0 yT1 [qs88, qs89, qs90, qs91] qP 20000 [] qc92 qs92 = true := by decide +kernel
set_option maxRecDepth 100000 in
theorem qo92 : qOK yT1 86 1471 qs92 := qck_ok (m := 0) (qall_c qo88 (qall_c qo89 (qall_c qo90 (qall_c qo91 qall_n)))) rfl qe92 rfl (by decide +kernel) (by decide +kernel)
def qc93 : List qCt := []
set_option maxRecDepth 100000 in
theorem qe93 : qck0 yT1 [] qP 20000 [] qc93 qs93 = true := by decide +kernel
set_option maxRecDepth 100000 in
theorem qo93 : qOK yT1 86 1471 qs93 := qck_ok (m := 0) qall_n rfl qe93 rfl (by decide +kernel) (by decide +kernel)
