/-! the methods are as their summaries say, 8 -/
def qc107_0 : List qCt := [((0, [[(0, 0)], [(0, 0)], [(0, 160)], [(2, 2)], [(0, 31)], [(1, 8)], [(0, 160)]], [(0, .inr (.inr (.ref 71))), (1, .inl (4, 0))], [], [((74, 26), .inl (5, 0)), ((71, 14), .inl (0, 0)), ((71, 12), .inl (6, 0)), ((71, 10), .inl (0, 0))]), [.inl (6, 2, 0)], [(false, 5000, (0, 0)), (false, 7, (0, 0)), (false, 9, (5, 0)), (false, 9000, (0, 0)), (false, 0, (0, 0)), (false, 0, (0, 0))]),
  ((0, [[(0, 0)], [(0, 0)], [(0, 160)], [(2, 2)], [(0, 31)], [(1, 8)], [(1, 160)]], [(0, .inr (.inr (.ref 71))), (1, .inl (4, 0))], [], [((74, 26), .inl (5, 0)), ((71, 14), .inl (0, 1)), ((71, 12), .inl (6, 0)), ((71, 10), .inl (0, 0))]), [.inl (6, 2, 1)], [(false, 5000, (0, 0)), (false, 7, (0, 0)), (false, 9, (5, 0)), (false, 9000, (0, 0)), (false, 0, (0, 0)), (false, 0, (0, 0))]),
  ((0, [[(0, 0)], [(0, 0)], [(0, 160)], [(2, 2)], [(0, 31)], [(1, 8)], [(1, 160)]], [(0, .inr (.inr (.ref 71))), (1, .inl (4, 0))], [], [((74, 26), .inl (5, 0)), ((71, 14), .inl (0, 2)), ((71, 12), .inl (6, 0)), ((71, 10), .inl (0, 0))]), [.inl (6, 2, 1)], [(false, 5000, (0, 0)), (false, 7, (0, 0)), (false, 9, (5, 0)), (false, 9000, (0, 0)), (false, 0, (0, 0)), (false, 0, (0, 0))]),
  ((0, [[(0, 0)], [(0, 0)], [(0, 160)], [(2, 2)], [(0, 31)], [(1, 8)], [(1, 160)]], [(0, .inr (.inr (.ref 71))), (1, .inl (4, 0))], [], [((74, 26), .inl (5, 0)), ((71, 12), .inl (6, 0)), ((71, 14), .inl (0, 3)), ((71, 10), .inl (0, 0))]), [.inl (6, 2, 1)], [(false, 5000, (0, 0)), (false, 7, (0, 0)), (false, 9, (5, 0)), (false, 9000, (0, 0)), (false, 0, (0, 0)), (false, 0, (0, 0))]),
  ((0, [[(0, 0)], [(0, 0)], [(0, 160)], [(2, 2)], [(1, 8)], [(1, 1), (5, 5)], [(0, 160)]], [(0, .inr (.inr (.ref 71)))], [], [((74, 26), .inl (4, 0)), ((71, 10), .inl (5, 0)), ((71, 14), .inl (0, 2)), ((71, 12), .inl (6, 0))]), [.inl (6, 2, 0)], [(false, 5000, (0, 0)), (false, 7, (5, 0)), (false, 9, (4, 0)), (false, 9000, (0, 0)), (false, 0, (0, 0)), (false, 0, (0, 0))]),
  ((0, [[(0, 0)], [(0, 0)], [(0, 160)], [(2, 2)], [(0, 31)], [(1, 8)], [(1, 160)]], [(0, .inr (.inr (.ref 71))), (1, .inl (4, 0))], [], [((74, 26), .inl (5, 0)), ((71, 10), .inl (0, 1)), ((71, 12), .inl (6, 0)), ((71, 14), .inl (0, 3))]), [.inl (6, 2, 1)], [(false, 5000, (0, 0)), (false, 7, (0, 1)), (false, 9, (5, 0)), (false, 9000, (0, 0)), (false, 0, (0, 0)), (false, 0, (0, 0))]),
  ((0, [[(0, 0)], [(0, 0)], [(0, 160)], [(2, 2)], [(1, 8)], [((-2147483648), 2147483647)], [(1, 6)], [(0, 160)]], [(0, .inr (.inr (.ref 71))), (1, .inl (0, 0))], [], [((74, 26), .inl (4, 0)), ((71, 14), .inl (5, 0)), ((71, 10), .inl (6, 0)), ((71, 12), .inl (7, 0))]), [.inl (7, 2, 0)], [(false, 5000, (0, 0)), (false, 7, (6, 0)), (false, 9, (4, 0)), (false, 9000, (0, 0)), (false, 0, (0, 0)), (false, 0, (0, 0))])]
def qc107 : List qCt := qc107_0
set_option maxRecDepth 100000 in
theorem qe107 : qck0 yT1 [qs106] qP 20000 [] qc107 qs107 = true := by decide +kernel
set_option maxRecDepth 100000 in
theorem qf107_0 : qc107_0.all (qck1 yT1 [qs106] qP 20000 [] qc107 qs107) = true := by decide +kernel
set_option maxRecDepth 100000 in
theorem qo107 : qOK yT1 86 1471 qs107 := qck_ok (m := 6) (qall_c qo106 qall_n) rfl qe107 qf107_0 (by decide +kernel) (by decide +kernel)
def qc108 : List qCt := []
set_option maxRecDepth 100000 in
theorem qe108 : qck0 yT1 [qs102, qs101, qs103, qs104, qs105, qs107] qP 20000 [] qc108 qs108 = true := by decide +kernel
set_option maxRecDepth 100000 in
theorem qo108 : qOK yT1 86 1471 qs108 := qck_ok (m := 0) (qall_c qo102 (qall_c qo101 (qall_c qo103 (qall_c qo104 (qall_c qo105 (qall_c qo107 qall_n)))))) rfl qe108 rfl (by decide +kernel) (by decide +kernel)
def qc109_0 : List qCt := [((52, [[(0, 0)], [((-2147483648), 2147483647)], [(0, 3)], [(0, 160)]], [(0, .inr (.inr (.ref 71))), (1, .inl (1, 0)), (2, .inl (0, 27))], [], [((71, 14), .inl (2, 0)), ((71, 12), .inl (3, 0)), ((71, 10), .inl (0, 0)), ((74, 17), .inl (0, 0))]), [], [(false, 4948, (0, 0)), (false, 7, (0, 0)), (false, 161, (3, 0)), (false, 9000, (0, 0)), (false, 0, (0, 0)), (false, 0, (0, 0))]),
  ((52, [[(0, 0)], [((-2147483648), 2147483647)], [(1, 6)], [((-2147483648), 2147483647)], [(0, 160)]], [(0, .inr (.inr (.ref 71))), (1, .inl (1, 0)), (2, .inl (0, 27))], [], [((71, 10), .inl (2, 0)), ((71, 14), .inl (3, 0)), ((71, 12), .inl (4, 0)), ((74, 17), .inl (0, 0))]), [], [(false, 4948, (0, 0)), (false, 7, (2, 0)), (false, 161, (4, 0)), (false, 9000, (0, 0)), (false, 0, (0, 0)), (false, 0, (0, 0))])]
def qc109 : List qCt := qc109_0
set_option maxRecDepth 100000 in
theorem qe109 : qck0 yT1 [qs101, qs108] qP 20000 [] qc109 qs109 = true := by decide +kernel
set_option maxRecDepth 100000 in
theorem qf109_0 : qc109_0.all (qck1 yT1 [qs101, qs108] qP 20000 [] qc109 qs109) = true := by decide +kernel
set_option maxRecDepth 100000 in
theorem qo109 : qOK yT1 86 1471 qs109 := qck_ok (m := 6) (qall_c qo101 (qall_c qo108 qall_n)) rfl qe109 qf109_0 (by decide +kernel) (by decide +kernel)
def qc110 : List qCt := []
set_option maxRecDepth 100000 in
theorem qe110 : qck0 yT1 [] qP 20000 [] qc110 qs110 = true := by decide +kernel
set_option maxRecDepth 100000 in
theorem qo110 : qOK yT1 86 1471 qs110 := qck_ok (m := 0) qall_n rfl qe110 rfl (by decide +kernel) (by decide +kernel)
def qc111_0 : List qCt := [((5, [[(0, 0)], [((-4), (-4)), (0, 99)], [(0, 5)]], [(0, .inr (.inr (.ref 71))), (1, .inl (0, 0)), (2, .inl (1, 0)), (3, .inl (2, 0))], [], []), [], [(false, 4995, (0, 0)), (false, 6, (2, 0)), (false, 9000, (0, 0)), (false, 0, (0, 0))])]
def qc111 : List qCt := qc111_0
set_option maxRecDepth 100000 in
theorem qe111 : qck0 yT1 [] qP 20000 [] qc111 qs111 = true := by decide +kernel
set_option maxRecDepth 100000 in
theorem qf111_0 : qc111_0.all (qck1 yT1 [] qP 20000 [] qc111 qs111) = true := by decide +kernel
set_option maxRecDepth 100000 in
theorem qo111 : qOK yT1 86 1471 qs111 := qck_ok (m := 4) qall_n rfl qe111 qf111_0 (by decide +kernel) (by decide +kernel)
def qc112_0 : List qCt := [((4, [[(0, 0)], [((-2147483648), 2147483647)], [(0, 31)], [(0, 5)]], [(0, .inr (.inr (.ref 71))), (1, .inl (1, 0)), (2, .inl (2, 0)), (3, .inl (3, 0))], [], []), [], [(false, 4996, (0, 0)), (false, 6, (3, 0)), (false, 9000, (0, 0)), (false, 0, (0, 0))])]
def qc112 : List qCt := qc112_0
set_option maxRecDepth 100000 in
theorem qe112 : qck0 yT1 [qs111] qP 20000 [] qc112 qs112 = true := by decide +kernel
set_option maxRecDepth 100000 in
theorem qf112_0 : qc112_0.all (qck1 yT1 [qs111] qP 20000 [] qc112 qs112) = true := by decide +kernel
set_option maxRecDepth 100000 in
theorem qo112 : qOK yT1 86 1471 qs112 := qck_ok (m := 4) (qall_c qo111 qall_n) rfl qe112 qf112_0 (by decide +kernel) (by decide +kernel)
def qc113 : List qCt := []
set_option maxRecDepth 100000 in
theorem qe113 : qck0 yT1 [] qP 20000 [] qc113 qs113 = true := by decide +kernel
set_option maxRecDepth 100000 in
theorem qo113 : qOK yT1 86 1471 qs113 := qck_ok (m := 0) qall_n rfl qe113 rfl (by decide +kernel) (by decide +kernel)
def qc114 : List qCt := []
set_option maxRecDepth 100000 in
theorem qe114 : qck0 yT1 [] qP 20000 [] qc114 qs114 = true := by decide +kernel
set_option maxRecDepth 100000 in
theorem qo114 : qOK yT1 86 1471 qs114 := qck_ok (m := 0) qall_n rfl qe114 rfl (by decide +kernel) (by decide +kernel)
def qc115 : List qCt := []
set_option maxRecDepth 100000 in
theorem qe115 : qck0 yT1 [] qP 20000 [] qc115 qs115 = true := by decide +kernel
set_option maxRecDepth 100000 in
theorem qo115 : qOK yT1 86 1471 qs115 := qck_ok (m := 0) qall_n rfl qe115 rfl (by decide +kernel) (by decide +kernel)
def qc116 : List qCt := []
set_option maxRecDepth 100000 in
theorem qe116 : qck0 yT1 [] qP 20000 [] qc116 qs116 = true := by decide +kernel
set_option maxRecDepth 100000 in
theorem qo116 : qOK yT1 86 1471 qs116 := qck_ok (m := 0) qall_n rfl qe116 rfl (by decide +kernel) (by decide +kernel)
def qc117 : List qCt := []
set_option maxRecDepth 100000 in
theorem qe117 : qck0 yT1 [] qP 20000 [] qc117 qs117 = true := by decide +kernel
set_option maxRecDepth 100000 in
theorem qo117 : qOK yT1 86 1471 qs117 := qck_ok (m := 0) qall_n rfl qe117 rfl (by decide +kernel) (by decide +kernel)
def qc118 : List qCt := []
set_option maxRecDepth 100000 in
theorem qe118 : qck0 yT1 [] qP 20000 [] qc118 qs118 = true := by decide +kernel
set_option maxRecDepth 100000 in
theorem qo118 : qOK yT1 86 1471 qs118 := qck_ok (m := 0) qall_n rfl qe118 rfl (by decide +kernel) (by decide +kernel)
def qc119_0 : List qCt := [((11, [[(0, 0)], [((-2147483648), 2147483647)], [((-4), (-4)), (0, 4)], [((-1), 4)]], [(0, .inr (.inr (.ref 71))), (1, .inl (0, 0)), (2, .inl (1, 0)), (3, .inl (2, 0)), (4, .inl (3, 0))], [], []), [], [(false, 4989, (0, 0)), (true, (-2), (3, 0)), (false, 9000, (0, 0)), (false, 0, (0, 0))])]
def qc119 : List qCt := qc119_0
set_option maxRecDepth 100000 in
theorem qe119 : qck0 yT1 [qs111] qP 20000 [] qc119 qs119 = true := by decide +kernel
set_option maxRecDepth 100000 in
theorem qf119_0 : qc119_0.all (qck1 yT1 [qs111] qP 20000 [] qc119 qs119) = true := by decide +kernel
set_option maxRecDepth 100000 in
theorem qo119 : qOK yT1 86 1471 qs119 := qck_ok (m := 4) (qall_c qo111 qall_n) rfl qe119 qf119_0 (by decide +kernel) (by decide +kernel)
def qc120 : List qCt := []
set_option maxRecDepth 100000 in
theorem qe120 : qck0 yT1 [qs119] qP 20000 [] qc120 qs120 = true := by decide +kernel
set_option maxRecDepth 100000 in
theorem qo120 : qOK yT1 86 1471 qs120 := qck_ok (m := 0) (qall_c qo119 qall_n) rfl qe120 rfl (by decide +kernel) (by decide +kernel)
def qc121_0 : List qCt := [((2, [[(0, 0)], [(0, 98)], [(0, 98)], [(0, 98)], [(0, 98)], [(0, 98)]], [(0, .inr (.inr (.ref 71))), (1, .inl (0, 0)), (2, .inl (0, 10))], [], [((72, 9), .inl (1, 0)), ((72, 8), .inl (2, 0)), ((72, 7), .inl (3, 0)), ((72, 6), .inl (4, 0)), ((72, 5), .inl (5, 0))]), [], [(false, 4998, (0, 0)), (false, 16, (0, 10)), (false, 9000, (0, 0)), (false, 0, (0, 0))]),
  ((2, [[(0, 0)], [(0, 98)], [(0, 98)], [(0, 98)], [(0, 98)], [(0, 98)], [(0, 98)]], [(0, .inr (.inr (.ref 71))), (1, .inl (0, 0)), (2, .inl (0, 11))], [], [((72, 10), .inl (1, 0)), ((72, 9), .inl (2, 0)), ((72, 8), .inl (3, 0)), ((72, 7), .inl (4, 0)), ((72, 6), .inl (5, 0)), ((72, 5), .inl (6, 0))]), [], [(false, 4998, (0, 0)), (false, 16, (0, 11)), (false, 9000, (0, 0)), (false, 0, (0, 0))]),
  ((2, [[(0, 0)], [(0, 98)], [(0, 98)], [(0, 98)], [(0, 98)], [(0, 98)], [(0, 98)], [(0, 98)]], [(0, .inr (.inr (.ref 71))), (1, .inl (0, 0)), (2, .inl (0, 12))], [], [((72, 11), .inl (1, 0)), ((72, 10), .inl (2, 0)), ((72, 9), .inl (3, 0)), ((72, 8), .inl (4, 0)), ((72, 7), .inl (5, 0)), ((72, 6), .inl (6, 0)), ((72, 5), .inl (7, 0))]), [], [(false, 4998, (0, 0)), (false, 16, (0, 12)), (false, 9000, (0, 0)), (false, 0, (0, 0))]),
  ((2, [[(0, 0)], [(0, 98)], [(0, 98)], [(0, 98)], [(0, 98)], [(0, 98)], [(0, 98)], [(0, 98)], [(0, 98)]], [(0, .inr (.inr (.ref 71))), (1, .inl (0, 0)), (2, .inl (0, 13))], [], [((72, 12), .inl (1, 0)), ((72, 11), .inl (2, 0)), ((72, 10), .inl (3, 0)), ((72, 9), .inl (4, 0)), ((72, 8), .inl (5, 0)), ((72, 7), .inl (6, 0)), ((72, 6), .inl (7, 0)), ((72, 5), .inl (8, 0))]), [], [(false, 4998, (0, 0)), (false, 16, (0, 13)), (false, 9000, (0, 0)), (false, 0, (0, 0))]),
  ((2, [[(0, 0)], [(0, 98)], [(0, 98)], [(0, 98)], [(0, 98)], [(0, 98)], [(0, 98)], [(0, 98)], [(0, 98)], [(0, 98)]], [(0, .inr (.inr (.ref 71))), (1, .inl (0, 0)), (2, .inl (0, 14))], [], [((72, 13), .inl (1, 0)), ((72, 12), .inl (2, 0)), ((72, 11), .inl (3, 0)), ((72, 10), .inl (4, 0)), ((72, 9), .inl (5, 0)), ((72, 8), .inl (6, 0)), ((72, 7), .inl (7, 0)), ((72, 6), .inl (8, 0)), ((72, 5), .inl (9, 0))]), [], [(false, 4998, (0, 0)), (false, 16, (0, 14)), (false, 9000, (0, 0)), (false, 0, (0, 0))]),
  ((2, [[(0, 0)], [(0, 98)], [(0, 98)], [(0, 98)], [(0, 98)], [(0, 98)], [(0, 98)], [(0, 98)], [(0, 98)], [(0, 98)], [(0, 98)]], [(0, .inr (.inr (.ref 71))), (1, .inl (0, 0)), (2, .inl (0, 15))], [], [((72, 14), .inl (1, 0)), ((72, 13), .inl (2, 0)), ((72, 12), .inl (3, 0)), ((72, 11), .inl (4, 0)), ((72, 10), .inl (5, 0)), ((72, 9), .inl (6, 0)), ((72, 8), .inl (7, 0)), ((72, 7), .inl (8, 0)), ((72, 6), .inl (9, 0)), ((72, 5), .inl (10, 0))]), [], [(false, 4998, (0, 0)), (false, 16, (0, 15)), (false, 9000, (0, 0)), (false, 0, (0, 0))]),
  ((2, [[(0, 0)]], [(0, .inr (.inr (.ref 71))), (1, .inl (0, 0)), (2, .inl (0, 5))], [], []), [], [(false, 4998, (0, 0)), (false, 16, (0, 5)), (false, 9000, (0, 0)), (false, 0, (0, 0))]),
  ((2, [[(0, 0)], [(0, 98)]], [(0, .inr (.inr (.ref 71))), (1, .inl (0, 0)), (2, .inl (0, 6))], [], [((72, 5), .inl (1, 0))]), [], [(false, 4998, (0, 0)), (false, 16, (0, 6)), (false, 9000, (0, 0)), (false, 0, (0, 0))]),
  ((2, [[(0, 0)], [(0, 98)], [(0, 98)]], [(0, .inr (.inr (.ref 71))), (1, .inl (0, 0)), (2, .inl (0, 7))], [], [((72, 6), .inl (1, 0)), ((72, 5), .inl (2, 0))]), [], [(false, 4998, (0, 0)), (false, 16, (0, 7)), (false, 9000, (0, 0)), (false, 0, (0, 0))]),
  ((2, [[(0, 0)], [(0, 98)], [(0, 98)], [(0, 98)]], [(0, .inr (.inr (.ref 71))), (1, .inl (0, 0)), (2, .inl (0, 8))], [], [((72, 7), .inl (1, 0)), ((72, 6), .inl (2, 0)), ((72, 5), .inl (3, 0))]), [], [(false, 4998, (0, 0)), (false, 16, (0, 8)), (false, 9000, (0, 0)), (false, 0, (0, 0))]),
  ((2, [[(0, 0)], [(0, 98)], [(0, 98)], [(0, 98)], [(0, 98)]], [(0, .inr (.inr (.ref 71))), (1, .inl (0, 0)), (2, .inl (0, 9))], [], [((72, 8), .inl (1, 0)), ((72, 7), .inl (2, 0)), ((72, 6), .inl (3, 0)), ((72, 5), .inl (4, 0))]), [], [(false, 4998, (0, 0)), (false, 16, (0, 9)), (false, 9000, (0, 0)), (false, 0, (0, 0))])]
def qc121 : List qCt := qc121_0
set_option maxRecDepth 100000 in
theorem qe121 : qck0 yT1 [] qP 20000 [] qc121 qs121 = true := by decide +kernel
set_option maxRecDepth 100000 in
theorem qf121_0 : qc121_0.all (qck1 yT1 [] qP 20000 [] qc121 qs121) = true := by decide +kernel
set_option maxRecDepth 100000 in
theorem qo121 : qOK yT1 86 1471 qs121 := qck_ok (m := 4) qall_n rfl qe121 qf121_0 (by decide +kernel) (by decide +kernel)
def qc122_0 : List qCt := [((16, [[(0, 0)], [(0, 99)], [(0, 99)]], [(0, .inr (.inr (.ref 71))), (1, .inl (1, 0)), (2, .inl (2, 0))], [], []), [], [(false, 4984, (0, 0)), (false, 100, (2, 0)), (false, 9000, (0, 0)), (false, 0, (0, 0))])]
def qc122 : List qCt := qc122_0
set_option maxRecDepth 100000 in
theorem qe122 : qck0 yT1 [qs111, qs121] qP 20000 [] qc122 qs122 = true := by decide +kernel
set_option maxRecDepth 100000 in
theorem qf122_0 : qc122_0.all (qck1 yT1 [qs111, qs121] qP 20000 [] qc122 qs122) = true := by decide +kernel
set_option maxRecDepth 100000 in
theorem qo122 : qOK yT1 86 1471 qs122 := qck_ok (m := 4) (qall_c qo111 (qall_c qo121 qall_n)) rfl qe122 qf122_0 (by decide +kernel) (by decide +kernel)
def qc123 : List qCt := []
set_option maxRecDepth 100000 in
theorem qe123 : qck0 yT1 [] qP 20000 [] qc123 qs123 = true := by decide +kernel
set_option maxRecDepth 100000 in
theorem qo123 : qOK yT1 86 1471 qs123 := qck_ok (m := 0) qall_n rfl qe123 rfl (by decide +kernel) (by decide +kernel)
def qc124_0 : List qCt := [((5, [[(0, 0)], [((-4), (-4)), (0, 99)], [(0, 5)]], [(0, .inr (.inr (.ref 71))), (1, .inl (0, 108)), (2, .inl (1, 0)), (3, .inl (2, 0))], [], []), [], [(false, 4995, (0, 0)), (false, 6, (2, 0)), (false, 9000, (0, 0)), (false, 0, (0, 0))])]
def qc124 : List qCt := qc124_0
set_option maxRecDepth 100000 in
theorem qe124 : qck0 yT1 [] qP 20000 [] qc124 qs124 = true := by decide +kernel
set_option maxRecDepth 100000 in
theorem qf124_0 : qc124_0.all (qck1 yT1 [] qP 20000 [] qc124 qs124) = true := by decide +kernel
set_option maxRecDepth 100000 in
theorem qo124 : qOK yT1 86 1471 qs124 := qck_ok (m := 4) qall_n rfl qe124 qf124_0 (by decide +kernel) (by decide +kernel)
def qc125_0 : List qCt := [((11, [[(0, 0)], [((-2147483648), 2147483647)], [((-4), (-4)), (0, 4)], [((-1), 4)]], [(0, .inr (.inr (.ref 71))), (1, .inl (0, 108)), (2, .inl (1, 0)), (3, .inl (2, 0)), (4, .inl (3, 0))], [], []), [], [(false, 4989, (0, 0)), (true, (-2), (3, 0)), (false, 9000, (0, 0)), (false, 0, (0, 0))])]
def qc125 : List qCt := qc125_0
set_option maxRecDepth 100000 in
theorem qe125 : qck0 yT1 [qs124] qP 20000 [] qc125 qs125 = true := by decide +kernel
set_option maxRecDepth 100000 in
theorem qf125_0 : qc125_0.all (qck1 yT1 [qs124] qP 20000 [] qc125 qs125) = true := by decide +kernel
set_option maxRecDepth 100000 in
theorem qo125 : qOK yT1 86 1471 qs125 := qck_ok (m := 4) (qall_c qo124 qall_n) rfl qe125 qf125_0 (by decide +kernel) (by decide +kernel)
def qc126_0 : List qCt := [((2, [[(0, 0)], [(0, 98)], [(0, 98)], [(0, 98)], [(0, 98)], [(0, 98)]], [(0, .inr (.inr (.ref 71))), (1, .inl (0, 108)), (2, .inl (0, 10))], [], [((72, 117), .inl (1, 0)), ((72, 116), .inl (2, 0)), ((72, 115), .inl (3, 0)), ((72, 114), .inl (4, 0)), ((72, 113), .inl (5, 0))]), [], [(false, 4998, (0, 0)), (false, 16, (0, 10)), (false, 9000, (0, 0)), (false, 0, (0, 0))]),
  ((2, [[(0, 0)], [(0, 98)], [(0, 98)], [(0, 98)], [(0, 98)], [(0, 98)], [(0, 98)]], [(0, .inr (.inr (.ref 71))), (1, .inl (0, 108)), (2, .inl (0, 11))], [], [((72, 118), .inl (1, 0)), ((72, 117), .inl (2, 0)), ((72, 116), .inl (3, 0)), ((72, 115), .inl (4, 0)), ((72, 114), .inl (5, 0)), ((72, 113), .inl (6, 0))]), [], [(false, 4998, (0, 0)), (false, 16, (0, 11)), (false, 9000, (0, 0)), (false, 0, (0, 0))]),
  ((2, [[(0, 0)], [(0, 98)], [(0, 98)], [(0, 98)], [(0, 98)], [(0, 98)], [(0, 98)], [(0, 98)]], [(0, .inr (.inr (.ref 71))), (1, .inl (0, 108)), (2, .inl (0, 12))], [], [((72, 119), .inl (1, 0)), ((72, 118), .inl (2, 0)), ((72, 117), .inl (3, 0)), ((72, 116), .inl (4, 0)), ((72, 115), .inl (5, 0)), ((72, 114), .inl (6, 0)), ((72, 113), .inl (7, 0))]), [], [(false, 4998, (0, 0)), (false, 16, (0, 12)), (false, 9000, (0, 0)), (false, 0, (0, 0))]),
  ((2, [[(0, 0)], [(0, 98)], [(0, 98)], [(0, 98)], [(0, 98)], [(0, 98)], [(0, 98)], [(0, 98)], [(0, 98)]], [(0, .inr (.inr (.ref 71))), (1, .inl (0, 108)), (2, .inl (0, 13))], [], [((72, 120), .inl (1, 0)), ((72, 119), .inl (2, 0)), ((72, 118), .inl (3, 0)), ((72, 117), .inl (4, 0)), ((72, 116), .inl (5, 0)), ((72, 115), .inl (6, 0)), ((72, 114), .inl (7, 0)), ((72, 113), .inl (8, 0))]), [], [(false, 4998, (0, 0)), (false, 16, (0, 13)), (false, 9000, (0, 0)), (false, 0, (0, 0))]),
  ((2, [[(0, 0)], [(0, 98)], [(0, 98)], [(0, 98)], [(0, 98)], [(0, 98)], [(0, 98)], [(0, 98)], [(0, 98)], [(0, 98)]], [(0, .inr (.inr (.ref 71))), (1, .inl (0, 108)), (2, .inl (0, 14))], [], [((72, 121), .inl (1, 0)), ((72, 120), .inl (2, 0)), ((72, 119), .inl (3, 0)), ((72, 118), .inl (4, 0)), ((72, 117), .inl (5, 0)), ((72, 116), .inl (6, 0)), ((72, 115), .inl (7, 0)), ((72, 114), .inl (8, 0)), ((72, 113), .inl (9, 0))]), [], [(false, 4998, (0, 0)), (false, 16, (0, 14)), (false, 9000, (0, 0)), (false, 0, (0, 0))]),
  ((2, [[(0, 0)], [(0, 98)], [(0, 98)], [(0, 98)], [(0, 98)], [(0, 98)], [(0, 98)], [(0, 98)], [(0, 98)], [(0, 98)], [(0, 98)]], [(0, .inr (.inr (.ref 71))), (1, .inl (0, 108)), (2, .inl (0, 15))], [], [((72, 122), .inl (1, 0)), ((72, 121), .inl (2, 0)), ((72, 120), .inl (3, 0)), ((72, 119), .inl (4, 0)), ((72, 118), .inl (5, 0)), ((72, 117), .inl (6, 0)), ((72, 116), .inl (7, 0)), ((72, 115), .inl (8, 0)), ((72, 114), .inl (9, 0)), ((72, 113), .inl (10, 0))]), [], [(false, 4998, (0, 0)), (false, 16, (0, 15)), (false, 9000, (0, 0)), (false, 0, (0, 0))]),
  ((2, [[(0, 0)]], [(0, .inr (.inr (.ref 71))), (1, .inl (0, 108)), (2, .inl (0, 5))], [], []), [], [(false, 4998, (0, 0)), (false, 16, (0, 5)), (false, 9000, (0, 0)), (false, 0, (0, 0))]),
  ((2, [[(0, 0)], [(0, 98)]], [(0, .inr (.inr (.ref 71))), (1, .inl (0, 108)), (2, .inl (0, 6))], [], [((72, 113), .inl (1, 0))]), [], [(false, 4998, (0, 0)), (false, 16, (0, 6)), (false, 9000, (0, 0)), (false, 0, (0, 0))]),
  ((2, [[(0, 0)], [(0, 98)], [(0, 98)]], [(0, .inr (.inr (.ref 71))), (1, .inl (0, 108)), (2, .inl (0, 7))], [], [((72, 114), .inl (1, 0)), ((72, 113), .inl (2, 0))]), [], [(false, 4998, (0, 0)), (false, 16, (0, 7)), (false, 9000, (0, 0)), (false, 0, (0, 0))]),
  ((2, [[(0, 0)], [(0, 98)], [(0, 98)], [(0, 98)]], [(0, .inr (.inr (.ref 71))), (1, .inl (0, 108)), (2, .inl (0, 8))], [], [((72, 115), .inl (1, 0)), ((72, 114), .inl (2, 0)), ((72, 113), .inl (3, 0))]), [], [(false, 4998, (0, 0)), (false, 16, (0, 8)), (false, 9000, (0, 0)), (false, 0, (0, 0))]),
  ((2, [[(0, 0)], [(0, 98)], [(0, 98)], [(0, 98)], [(0, 98)]], [(0, .inr (.inr (.ref 71))), (1, .inl (0, 108)), (2, .inl (0, 9))], [], [((72, 116), .inl (1, 0)), ((72, 115), .inl (2, 0)), ((72, 114), .inl (3, 0)), ((72, 113), .inl (4, 0))]), [], [(false, 4998, (0, 0)), (false, 16, (0, 9)), (false, 9000, (0, 0)), (false, 0, (0, 0))])]
def qc126 : List qCt := qc126_0
set_option maxRecDepth 100000 in
theorem qe126 : qck0 yT1 [] qP 20000 [] qc126 qs126 = true := by decide +kernel
set_option maxRecDepth 100000 in
theorem qf126_0 : qc126_0.all (qck1 yT1 [] qP 20000 [] qc126 qs126) = true := by decide +kernel
set_option maxRecDepth 100000 in
theorem qo126 : qOK yT1 86 1471 qs126 := qck_ok (m := 4) qall_n rfl qe126 qf126_0 (by decide +kernel) (by decide +kernel)
def qc127_0 : List qCt := [((18, [[(0, 0)], [((-2147483648), 2147483647)], [(0, 8)], [((-4), (-4)), (0, 7)]], [(0, .inr (.inr (.ref 71))), (1, .inl (1, 0)), (2, .inl (2, 0))], [], [((71, 20), .inl (3, 0))]), [], [(false, 4982, (0, 0)), (false, 9, (2, 0)), (false, 9000, (0, 0)), (false, 0, (0, 0))])]
def qc127 : List qCt := qc127_0
set_option maxRecDepth 100000 in
theorem qe127 : qck0 yT1 [qs125, qs126] qP 20000 [] qc127 qs127 = true := by decide +kernel
set_option maxRecDepth 100000 in
theorem qf127_0 : qc127_0.all (qck1 yT1 [qs125, qs126] qP 20000 [] qc127 qs127) = true := by decide +kernel
set_option maxRecDepth 100000 in
theorem qo127 : qOK yT1 86 1471 qs127 := qck_ok (m := 4) (qall_c qo125 (qall_c qo126 qall_n)) rfl qe127 qf127_0 (by decide +kernel) (by decide +kernel)
def qc128_0 : List qCt := [((5, [[(0, 0)], [((-4), (-4)), (0, 99)], [(0, 5)]], [(0, .inr (.inr (.ref 71))), (1, .inl (0, 108)), (2, .inl (1, 0)), (3, .inl (2, 0))], [], []), [], [(false, 4995, (0, 0)), (false, 6, (2, 0)), (false, 9000, (0, 0)), (false, 0, (0, 0))])]
def qc128 : List qCt := qc128_0
set_option maxRecDepth 100000 in
theorem qe128 : qck0 yT1 [] qP 20000 [] qc128 qs128 = true := by decide +kernel
set_option maxRecDepth 100000 in
theorem qf128_0 : qc128_0.all (qck1 yT1 [] qP 20000 [] qc128 qs128) = true := by decide +kernel
set_option maxRecDepth 100000 in
theorem qo128 : qOK yT1 86 1471 qs128 := qck_ok (m := 4) qall_n rfl qe128 qf128_0 (by decide +kernel) (by decide +kernel)
def qc129 : List qCt := []
set_option maxRecDepth 100000 in
theorem qe129 : qck0 yT1 [qs123, qs127, qs128] qP 20000 [] qc129 qs129 = true := by decide +kernel
set_option maxRecDepth 100000 in
theorem qo129 : qOK yT1 86 1471 qs129 := qck_ok (m := 0) (qall_c qo123 (qall_c qo127 (qall_c qo128 qall_n))) rfl qe129 rfl (by decide +kernel) (by decide +kernel)
def qc130 : List qCt := []
set_option maxRecDepth 100000 in
theorem qe130 : qck0 yT1 [qs123, qs127] qP 20000 [] qc130 qs130 = true := by decide +kernel
set_option maxRecDepth 100000 in
theorem qo130 : qOK yT1 86 1471 qs130 := qck_ok (m := 0) (qall_c qo123 (qall_c qo127 qall_n)) rfl qe130 rfl (by decide +kernel) (by decide +kernel)
def qc131_0 : List qCt := [((9, [[(0, 0)], [(1, 61)]], [(0, .inr (.inr (.ref 71))), (1, .inl (1, 0))], [], []), [], [(false, 4991, (0, 0)), (false, 62, (1, 0)), (false, 9000, (0, 0)), (false, 0, (0, 0))])]
def qc131 : List qCt := qc131_0
set_option maxRecDepth 100000 in
theorem qe131 : qck0 yT1 [qs123, qs127] qP 20000 [] qc131 qs131 = true := by decide +kernel
set_option maxRecDepth 100000 in
theorem qf131_0 : qc131_0.all (qck1 yT1 [qs123, qs127] qP 20000 [] qc131 qs131) = true := by decide +kernel
set_option maxRecDepth 100000 in
theorem qo131 : qOK yT1 86 1471 qs131 := qck_ok (m := 4) (qall_c qo123 (qall_c qo127 qall_n)) rfl qe131 qf131_0 (by decide +kernel) (by decide +kernel)
def qc132 : List qCt := []
set_option maxRecDepth 100000 in
theorem qe132 : qck0 yT1 [] qP 20000 [] qc132 qs132 = true := by decide +kernel
set_option maxRecDepth 100000 in
theorem qo132 : qOK yT1 86 1471 qs132 := qck_ok (m := 0) qall_n rfl qe132 rfl (by decide +kernel) (by decide +kernel)
def qc133 : List qCt := []
set_option maxRecDepth 100000 in
theorem qe133 : qck0 yT1 [] qP 20000 [] qc133 qs133 = true := by decide +kernel
set_option maxRecDepth 100000 in
theorem qo133 : qOK yT1 86 1471 qs133 := qck_ok (m := 0) qall_n rfl qe133 rfl (by decide +kernel) (by decide +kernel)
def qc134_0 : List qCt := [((48, [[(0, 0)], [(1, 31)], [(0, 0), (10, 14)], [(1, 31)], [(0, 5)], [((-1), 2147483647)], [(0, 3124)], [(0, 3125)]], [(0, .inr (.inr (.ref 71))), (1, .inl (3, 0)), (2, .inl (2, 0)), (3, .inl (4, 0)), (4, .inl (5, 0)), (5, .inl (6, 0)), (6, .inl (7, 0))], [], []), [], [(false, 4952, (0, 0)), (false, 3126, (7, 0)), (false, 9000, (0, 0)), (false, 0, (0, 0)), (false, 9000, (0, 0)), (false, 0, (0, 0))]),
  ((63, [[(0, 0)], [(1, 31)], [(0, 0), (10, 14)], [(1, 31)], [(0, 5)], [((-1), 2147483647)], [(0, 3124)], [(0, 3124)], [(0, 31)], [(0, 5)]], [(0, .inr (.inr (.ref 71))), (1, .inl (3, 0)), (2, .inl (2, 0)), (3, .inl (4, 0)), (4, .inl (5, 0)), (5, .inl (6, 0)), (6, .inl (7, 0)), (7, .inl (8, 0)), (8, .inl (9, 0))], [], []), [], [(false, 4952, (0, 0)), (false, 3126, (7, 0)), (false, 4937, (0, 0)), (false, 6, (9, 0)), (false, 9000, (0, 0)), (false, 0, (0, 0))]),
  ((109, [[(0, 0)], [(1, 31)], [(0, 0), (10, 14)], [(1, 31)], [(0, 5)], [((-1), 2147483647)], [(0, 3124)], [(0, 3124)], [(1, 31)], [((-2147483648), 2147483647)], [(0, 5)]], [(0, .inr (.inr (.ref 71))), (1, .inl (3, 0)), (2, .inl (2, 0)), (3, .inl (4, 0)), (4, .inl (5, 0)), (5, .inl (6, 0)), (6, .inl (7, 0)), (7, .inl (8, 0)), (8, .inl (9, 0)), (9, .inl (10, 0))], [], []), [], [(false, 4952, (0, 0)), (false, 3126, (7, 0)), (false, 4891, (0, 0)), (false, 6, (10, 0)), (false, 9000, (0, 0)), (false, 0, (0, 0))])]
def qc134 : List qCt := qc134_0
set_option maxRecDepth 100000 in
theorem qe134 : qck0 yT1 [qs132, qs133, qs123, qs125] qP 20000 [] qc134 qs134 = true := by decide +kernel
set_option maxRecDepth 100000 in
theorem qf134_0 : qc134_0.all (qck1 yT1 [qs132, qs133, qs123, qs125] qP 20000 [] qc134 qs134) = true := by decide +kernel
set_option maxRecDepth 100000 in
theorem qo134 : qOK yT1 86 1471 qs134 := qck_ok (m := 6) (qall_c qo132 (qall_c qo133 (qall_c qo123 (qall_c qo125 qall_n)))) rfl qe134 qf134_0 (by decide +kernel) (by decide +kernel)
def qc135_0 : List qCt := [((13, [[(0, 0)], [(0, 4)], [(0, 3124)], [(0, 5)], [(0, 1)], [(0, 5)]], [(0, .inr (.inr (.ref 71))), (1, .inl (1, 0)), (2, .inl (2, 0)), (3, .inl (3, 0)), (4, .inl (4, 0)), (5, .inl (5, 0))], [], []), [], [(false, 4987, (0, 0)), (false, 6, (5, 0)), (false, 9000, (0, 0)), (false, 0, (0, 0))])]
def qc135 : List qCt := qc135_0
set_option maxRecDepth 100000 in
theorem qe135 : qck0 yT1 [qs123, qs124, qs133, qs125] qP 20000 [] qc135 qs135 = true := by decide +kernel
set_option maxRecDepth 100000 in
theorem qf135_0 : qc135_0.all (qck1 yT1 [qs123, qs124, qs133, qs125] qP 20000 [] qc135 qs135) = true := by decide +kernel
set_option maxRecDepth 100000 in
theorem qo135 : qOK yT1 86 1471 qs135 := qck_ok (m := 4) (qall_c qo123 (qall_c qo124 (qall_c qo133 (qall_c qo125 qall_n)))) rfl qe135 qf135_0 (by decide +kernel) (by decide +kernel)
def qc136_0 : List qCt := [((30, [[(0, 0)], [(0, 4)], [(0, 0), (10, 13)], [(0, 5)], [(1, 5)]], [(0, .inr (.inr (.ref 71))), (1, .inl (1, 0)), (2, .inl (2, 0)), (3, .inl (3, 0))], [], [((71, 2), .inl (4, 0))]), [], [(false, 4970, (0, 0)), (false, 6, (3, 0)), (false, 9000, (0, 0)), (false, 0, (0, 0)), (false, 9000, (0, 0)), (false, 0, (0, 0))]),
  ((38, [[(0, 0)], [(0, 4)], [(0, 0), (10, 13)], [(0, 4)], [(0, 3125)], [(1, 5)]], [(0, .inr (.inr (.ref 71))), (1, .inl (1, 0)), (2, .inl (2, 0)), (3, .inl (3, 0)), (4, .inl (4, 0))], [], [((71, 2), .inl (5, 0))]), [], [(false, 4970, (0, 0)), (false, 6, (3, 0)), (false, 4962, (0, 0)), (false, 3126, (4, 0)), (false, 9000, (0, 0)), (false, 0, (0, 0))])]
def qc136 : List qCt := qc136_0
set_option maxRecDepth 100000 in
theorem qe136 : qck0 yT1 [qs133, qs135] qP 20000 [] qc136 qs136 = true := by decide +kernel
set_option maxRecDepth 100000 in
theorem qf136_0 : qc136_0.all (qck1 yT1 [qs133, qs135] qP 20000 [] qc136 qs136) = true := by decide +kernel
set_option maxRecDepth 100000 in
theorem qo136 : qOK yT1 86 1471 qs136 := qck_ok (m := 6) (qall_c qo133 (qall_c qo135 qall_n)) rfl qe136 qf136_0 (by decide +kernel) (by decide +kernel)
def qc137_0 : List qCt := [((19, [[(0, 0)], [(0, 1)], [((-1), 2147483647)], [(0, 31)], [(0, 32)]], [(0, .inr (.inr (.ref 71))), (1, .inl (1, 0)), (2, .inl (2, 0)), (3, .inl (3, 0)), (4, .inl (4, 0))], [], []), [], [(false, 4981, (0, 0)), (false, 33, (4, 0)), (false, 9000, (0, 0)), (false, 0, (0, 0))])]
def qc137 : List qCt := qc137_0
set_option maxRecDepth 100000 in
theorem qe137 : qck0 yT1 [qs123, qs127] qP 20000 [] qc137 qs137 = true := by decide +kernel
set_option maxRecDepth 100000 in
theorem qf137_0 : qc137_0.all (qck1 yT1 [qs123, qs127] qP 20000 [] qc137 qs137) = true := by decide +kernel
set_option maxRecDepth 100000 in
theorem qo137 : qOK yT1 86 1471 qs137 := qck_ok (m := 4) (qall_c qo123 (qall_c qo127 qall_n)) rfl qe137 qf137_0 (by decide +kernel) (by decide +kernel)
def qc138_0 : List qCt := [((28, [[(0, 0)], [(0, 1)], [((-2147483648), 2147483647)], [((-4), (-4)), (0, 4)], [(0, 5)]], [(0, .inr (.inr (.ref 71))), (1, .inl (1, 0)), (2, .inl (2, 0)), (3, .inl (3, 0)), (4, .inl (4, 0))], [], []), [], [(false, 4972, (0, 0)), (false, 6, (4, 0)), (false, 9000, (0, 0)), (false, 0, (0, 0))])]
def qc138 : List qCt := qc138_0
set_option maxRecDepth 100000 in
theorem qe138 : qck0 yT1 [qs123, qs127] qP 20000 [] qc138 qs138 = true := by decide +kernel
set_option maxRecDepth 100000 in
theorem qf138_0 : qc138_0.all (qck1 yT1 [qs123, qs127] qP 20000 [] qc138 qs138) = true := by decide +kernel
set_option maxRecDepth 100000 in
theorem qo138 : qOK yT1 86 1471 qs138 := qck_ok (m := 4) (qall_c qo123 (qall_c qo127 qall_n)) rfl qe138 qf138_0 (by decide +kernel) (by decide +kernel)
def qc139_0 : List qCt := [((28, [[(0, 0)], [(0, 1)], [((-2147483648), 2147483647)], [((-4), (-4)), (1, 47)], [(0, 5)]], [(0, .inr (.inr (.ref 71))), (1, .inl (1, 0)), (2, .inl (2, 0)), (3, .inl (3, 0)), (4, .inl (4, 0))], [], []), [], [(false, 4972, (0, 0)), (false, 6, (4, 0)), (false, 9000, (0, 0)), (false, 0, (0, 0)), (false, 9000, (0, 0)), (false, 0, (0, 0))]),
  ((43, [[(0, 0)], [(0, 1)], [((-2147483648), 2147483647)], [((-4), (-4)), (1, 47)], [(0, 4)], [(1, 5)], [(1, 5)]], [(0, .inr (.inr (.ref 71))), (1, .inl (1, 0)), (2, .inl (2, 0)), (3, .inl (3, 0)), (4, .inl (4, 0)), (5, .inl (5, 0))], [], [((71, 2), .inl (6, 0))]), [], [(false, 4972, (0, 0)), (false, 6, (4, 0)), (false, 4957, (0, 0)), (false, 6, (5, 0)), (false, 9000, (0, 0)), (false, 0, (0, 0))])]
def qc139 : List qCt := qc139_0
set_option maxRecDepth 100000 in
theorem qe139 : qck0 yT1 [qs123, qs127] qP 20000 [] qc139 qs139 = true := by decide +kernel
set_option maxRecDepth 100000 in
theorem qf139_0 : qc139_0.all (qck1 yT1 [qs123, qs127] qP 20000 [] qc139 qs139) = true := by decide +kernel
set_option maxRecDepth 100000 in
theorem qo139 : qOK yT1 86 1471 qs139 := qck_ok (m := 6) (qall_c qo123 (qall_c qo127 qall_n)) rfl qe139 qf139_0 (by decide +kernel) (by decide +kernel)
def qc140_0 : List qCt := [((2, [[(0, 0)], [(0, 10)]], [(0, .inr (.inr (.ref 71))), (1, .inl (1, 0))], [], []), [], [(false, 4998, (0, 0)), (false, 11, (1, 0)), (false, 9000, (0, 0)), (false, 0, (0, 0))])]
def qc140 : List qCt := qc140_0
set_option maxRecDepth 100000 in
theorem qe140 : qck0 yT1 [qs123, qs127] qP 20000 [] qc140 qs140 = true := by decide +kernel
set_option maxRecDepth 100000 in
theorem qf140_0 : qc140_0.all (qck1 yT1 [qs123, qs127] qP 20000 [] qc140 qs140) = true := by decide +kernel
set_option maxRecDepth 100000 in
theorem qo140 : qOK yT1 86 1471 qs140 := qck_ok (m := 4) (qall_c qo123 (qall_c qo127 qall_n)) rfl qe140 qf140_0 (by decide +kernel) (by decide +kernel)
def qc142_0 : List qCt := [((35, [[(0, 0)], [((-2147483648), 2147483647)], [((-2147483648), 2147483647)], [((-2147483648), 2147483647)], [((-9223372036854775808), 9223372036854775807)], [(1, 1), (10, 10), (100, 100), (1000, 1000), (10000, 10000), (100000, 100000)], [(0, 32)]], [(0, .inr (.inr (.ref 71))), (1, .inl (1, 0)), (2, .inl (2, 0)), (3, .inl (3, 0)), (4, .inr (.inl (4, 0))), (6, .inr (.inl (5, 0))), (8, .inl (6, 0))], [], []), [], [(false, 4965, (0, 0)), (false, 33, (6, 0)), (false, 9000, (0, 0)), (false, 0, (0, 0)), (false, 9000, (0, 0)), (false, 0, (0, 0))]),
  ((50, [[(0, 0)], [((-2147483648), 2147483647)], [((-2147483648), 2147483647)], [((-2147483648), 2147483647)], [((-9223372036854775808), 9223372036854775807)], [(1, 1), (10, 10), (100, 100), (1000, 1000), (10000, 10000), (100000, 100000)], [(0, 31)], [((-9223372036854775808), 9223372036854775807)], [(0, 5)]], [(0, .inr (.inr (.ref 71))), (1, .inl (1, 0)), (2, .inl (2, 0)), (3, .inl (3, 0)), (4, .inr (.inl (4, 0))), (6, .inr (.inl (5, 0))), (8, .inl (6, 0)), (9, .inr (.inl (7, 0))), (11, .inl (8, 0))], [], []), [], [(false, 4965, (0, 0)), (false, 33, (6, 0)), (false, 4950, (0, 0)), (false, 6, (8, 0)), (false, 9000, (0, 0)), (false, 0, (0, 0))])]
def qc142 : List qCt := qc142_0
set_option maxRecDepth 100000 in
theorem qe142 : qck0 yT1 [qs123, qs127, qs141] qP 20000 [] qc142 qs142 = true := by decide +kernel
set_option maxRecDepth 100000 in
theorem qf142_0 : qc142_0.all (qck1 yT1 [qs123, qs127, qs141] qP 20000 [] qc142 qs142) = true := by decide +kernel
set_option maxRecDepth 100000 in
theorem qo142 : qOK yT1 86 1471 qs142 := qck_ok (m := 6) (qall_c qo123 (qall_c qo127 (qall_c qo141 qall_n))) rfl qe142 qf142_0 (by decide +kernel) (by decide +kernel)
def qc143 : List qCt := []
set_option maxRecDepth 100000 in
theorem qe143 : qck0 yT1 [qs142] qP 20000 [] qc143 qs143 = true := by decide +kernel
set_option maxRecDepth 100000 in
theorem qo143 : qOK yT1 86 1471 qs143 := qck_ok (m := 0) (qall_c qo142 qall_n) rfl qe143 rfl (by decide +kernel) (by decide +kernel)
def qc144 : List qCt := []
set_option maxRecDepth 100000 in
theorem qe144 : qck0 yT1 [qs142] qP 20000 [] qc144 qs144 = true := by decide +kernel
set_option maxRecDepth 100000 in
theorem qo144 : qOK yT1 86 1471 qs144 := qck_ok (m := 0) (qall_c qo142 qall_n) rfl qe144 rfl (by decide +kernel) (by decide +kernel)
def qc145 : List qCt := []
set_option maxRecDepth 100000 in
theorem qe145 : qck0 yT1 [] qP 20000 [49, 61] qc145 qs145 = true := by decide +kernel
set_option maxRecDepth 100000 in
theorem qo145 : qOK yT1 86 1471 qs145 := qck_ok (m := 0) qall_n rfl qe145 rfl (by decide +kernel) (by decide +kernel)
def qc146 : List qCt := []
set_option maxRecDepth 100000 in
theorem qe146 : qck0 yT1 [] qP 20000 [] qc146 qs146 = true := by decide +kernel
set_option maxRecDepth 100000 in
theorem qo146 : qOK yT1 86 1471 qs146 := qck_ok (m := 0) qall_n rfl qe146 rfl (by decide +kernel) (by decide +kernel)
