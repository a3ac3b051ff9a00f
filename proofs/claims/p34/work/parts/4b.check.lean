/-! the methods are as their summaries say, 1 -/
def qc37_0 : List qCt := [((27, [[(0, 0)], [((-2147483648), 2147483647)], [(0, 8)], [((-4), (-4)), (0, 7)]], [(0, .inr (.inr (.ref 19))), (1, .inl (1, 0)), (2, .inl (2, 0))], [], [((19, 4), .inl (3, 0))]), [], [(false, 4973, (0, 0)), (false, 9, (2, 0)), (false, 9000, (0, 0)), (false, 0, (0, 0))])]
def qc37 : List qCt := qc37_0
set_option maxRecDepth 100000 in
theorem qe37 : qck0 yT1 [qs33, qs34, qs35, qs36] qP 20000 [] qc37 qs37 = true := by decide +kernel
set_option maxRecDepth 100000 in
theorem qf37_0 : qc37_0.all (qck1 yT1 [qs33, qs34, qs35, qs36] qP 20000 [] qc37 qs37) = true := by decide +kernel
set_option maxRecDepth 100000 in
theorem qo37 : qOK yT1 86 1471 qs37 := qck_ok (m := 4) (qall_c qo33 (qall_c qo34 (qall_c qo35 (qall_c qo36 qall_n)))) rfl qe37 qf37_0 (by decide +kernel) (by decide +kernel)
def qc38_0 : List qCt := [((5, [[(0, 0)], [((-4), (-4)), (0, 99)], [(0, 5)]], [(0, .inr (.inr (.ref 20))), (1, .inl (1, 0)), (2, .inl (2, 0))], [], []), [], [(false, 4995, (0, 0)), (false, 6, (2, 0)), (false, 9000, (0, 0)), (false, 0, (0, 0))])]
def qc38 : List qCt := qc38_0
set_option maxRecDepth 100000 in
theorem qe38 : qck0 yT1 [] qP 20000 [] qc38 qs38 = true := by decide +kernel
set_option maxRecDepth 100000 in
theorem qf38_0 : qc38_0.all (qck1 yT1 [] qP 20000 [] qc38 qs38) = true := by decide +kernel
set_option maxRecDepth 100000 in
theorem qo38 : qOK yT1 86 1471 qs38 := qck_ok (m := 4) qall_n rfl qe38 qf38_0 (by decide +kernel) (by decide +kernel)
def qc39 : List qCt := []
set_option maxRecDepth 100000 in
theorem qe39 : qck0 yT1 [qs32, qs37, qs38] qP 20000 [] qc39 qs39 = true := by decide +kernel
set_option maxRecDepth 100000 in
theorem qo39 : qOK yT1 86 1471 qs39 := qck_ok (m := 0) (qall_c qo32 (qall_c qo37 (qall_c qo38 qall_n))) rfl qe39 rfl (by decide +kernel) (by decide +kernel)
def qc40 : List qCt := []
set_option maxRecDepth 100000 in
theorem qe40 : qck0 yT1 [qs32, qs37] qP 20000 [] qc40 qs40 = true := by decide +kernel
set_option maxRecDepth 100000 in
theorem qo40 : qOK yT1 86 1471 qs40 := qck_ok (m := 0) (qall_c qo32 (qall_c qo37 qall_n)) rfl qe40 rfl (by decide +kernel) (by decide +kernel)
def qc41_0 : List qCt := [((16, [[(0, 0)], [(1, 61)]], [(0, .inr (.inr (.ref 0))), (1, .inl (1, 0))], [], []), [], [(false, 4984, (0, 0)), (false, 62, (1, 0)), (false, 9000, (0, 0)), (false, 0, (0, 0))])]
def qc41 : List qCt := qc41_0
set_option maxRecDepth 100000 in
theorem qe41 : qck0 yT1 [qs32, qs37] qP 20000 [] qc41 qs41 = true := by decide +kernel
set_option maxRecDepth 100000 in
theorem qf41_0 : qc41_0.all (qck1 yT1 [qs32, qs37] qP 20000 [] qc41 qs41) = true := by decide +kernel
set_option maxRecDepth 100000 in
theorem qo41 : qOK yT1 86 1471 qs41 := qck_ok (m := 4) (qall_c qo32 (qall_c qo37 qall_n)) rfl qe41 qf41_0 (by decide +kernel) (by decide +kernel)
def qc42_0 : List qCt := [((10, [[(0, 0)], [(0, 5)], [(0, 5)]], [(0, .inr (.inr (.ref 30))), (1, .inr (.inr (.ref 11))), (2, .inl (1, 0))], [], [((30, 2), .inl (2, 0)), ((11, 2), .inl (2, 0))]), [], [(false, 4990, (0, 0)), (false, 6, (1, 0)), (false, 9000, (0, 0)), (false, 0, (0, 0))]),
  ((49, [[(0, 0)], [(0, 8)], [(0, 8)], [(0, 5)]], [(0, .inr (.inr (.ref 30))), (1, .inr (.inr (.ref 11))), (2, .inl (1, 0))], [], [((30, 3), .inl (2, 0)), ((11, 3), .inl (2, 0)), ((30, 2), .inl (3, 0)), ((11, 2), .inl (3, 0))]), [], [(false, 4951, (0, 0)), (false, 9, (1, 0)), (false, 9000, (0, 0)), (false, 0, (0, 0))])]
def qc42 : List qCt := qc42_0
set_option maxRecDepth 100000 in
theorem qe42 : qck0 yT1 [] qP 20000 [] qc42 qs42 = true := by decide +kernel
set_option maxRecDepth 100000 in
theorem qf42_0 : qc42_0.all (qck1 yT1 [] qP 20000 [] qc42 qs42) = true := by decide +kernel
set_option maxRecDepth 100000 in
theorem qo42 : qOK yT1 86 1471 qs42 := qck_ok (m := 4) qall_n rfl qe42 qf42_0 (by decide +kernel) (by decide +kernel)
def qc43 : List qCt := []
set_option maxRecDepth 100000 in
theorem qe43 : qck0 yT1 [] qP 20000 [1] qc43 qs43 = true := by decide +kernel
set_option maxRecDepth 100000 in
theorem qo43 : qOK yT1 86 1471 qs43 := qck_ok (m := 0) qall_n rfl qe43 rfl (by decide +kernel) (by decide +kernel)
def qc44_0 : List qCt := [((15, [[(0, 0)], [((-2147483647), 2147483647)], [(0, 5)]], [(0, .inr (.inr (.ref 29))), (1, .inl (1, 0)), (2, .inl (2, 0))], [], [((29, 4), .inl (1, 0))]), [], [(false, 4985, (0, 0)), (false, 6, (2, 0)), (false, 9000, (0, 0)), (false, 0, (0, 0))])]
def qc44 : List qCt := qc44_0
set_option maxRecDepth 100000 in
theorem qe44 : qck0 yT1 [] qP 20000 [] qc44 qs44 = true := by decide +kernel
set_option maxRecDepth 100000 in
theorem qf44_0 : qc44_0.all (qck1 yT1 [] qP 20000 [] qc44 qs44) = true := by decide +kernel
set_option maxRecDepth 100000 in
theorem qo44 : qOK yT1 86 1471 qs44 := qck_ok (m := 4) qall_n rfl qe44 qf44_0 (by decide +kernel) (by decide +kernel)
def qc45_0 : List qCt := [((5, [[(0, 0)], [((-2147483648), 2147483647)], [((-4), (-4)), (0, 4)], [(0, 5)]], [(0, .inr (.inr (.ref 30))), (1, .inl (1, 0)), (2, .inl (2, 0)), (3, .inl (3, 0))], [], []), [], [(false, 4995, (0, 0)), (false, 6, (3, 0)), (false, 9000, (0, 0)), (false, 0, (0, 0))])]
def qc45 : List qCt := qc45_0
set_option maxRecDepth 100000 in
theorem qe45 : qck0 yT1 [] qP 20000 [] qc45 qs45 = true := by decide +kernel
set_option maxRecDepth 100000 in
theorem qf45_0 : qc45_0.all (qck1 yT1 [] qP 20000 [] qc45 qs45) = true := by decide +kernel
set_option maxRecDepth 100000 in
theorem qo45 : qOK yT1 86 1471 qs45 := qck_ok (m := 4) qall_n rfl qe45 qf45_0 (by decide +kernel) (by decide +kernel)
def qc46_0 : List qCt := [((5, [[(0, 0)], [((-4), 99)], [(0, 5)]], [(0, .inr (.inr (.ref 30))), (1, .inl (1, 0)), (2, .inl (2, 0))], [], []), [], [(false, 4995, (0, 0)), (false, 6, (2, 0)), (false, 9000, (0, 0)), (false, 0, (0, 0))])]
def qc46 : List qCt := qc46_0
set_option maxRecDepth 100000 in
theorem qe46 : qck0 yT1 [] qP 20000 [] qc46 qs46 = true := by decide +kernel
set_option maxRecDepth 100000 in
theorem qf46_0 : qc46_0.all (qck1 yT1 [] qP 20000 [] qc46 qs46) = true := by decide +kernel
set_option maxRecDepth 100000 in
theorem qo46 : qOK yT1 86 1471 qs46 := qck_ok (m := 4) qall_n rfl qe46 qf46_0 (by decide +kernel) (by decide +kernel)
def qc47 : List qCt := []
set_option maxRecDepth 100000 in
theorem qe47 : qck0 yT1 [qs44] qP 20000 [] qc47 qs47 = true := by decide +kernel
set_option maxRecDepth 100000 in
theorem qo47 : qOK yT1 86 1471 qs47 := qck_ok (m := 0) (qall_c qo44 qall_n) rfl qe47 rfl (by decide +kernel) (by decide +kernel)
def qc48_0 : List qCt := [((22, [[(0, 0)], [((-2147483648), 2147483647)], [((-2147483648), 2147483647)], [(0, 5)]], [(0, .inr (.inr (.ref 29))), (1, .inl (1, 0)), (2, .inl (0, 4)), (3, .inl (2, 0)), (4, .inl (3, 0))], [], [((29, 3), .inl (0, 5))]), [], [(false, 4978, (0, 0)), (false, 6, (3, 0)), (false, 9000, (0, 0)), (false, 0, (0, 0))])]
def qc48 : List qCt := qc48_0
set_option maxRecDepth 100000 in
theorem qe48 : qck0 yT1 [qs44, qs45, qs46, qs47] qP 20000 [] qc48 qs48 = true := by decide +kernel
set_option maxRecDepth 100000 in
theorem qf48_0 : qc48_0.all (qck1 yT1 [qs44, qs45, qs46, qs47] qP 20000 [] qc48 qs48) = true := by decide +kernel
set_option maxRecDepth 100000 in
theorem qo48 : qOK yT1 86 1471 qs48 := qck_ok (m := 4) (qall_c qo44 (qall_c qo45 (qall_c qo46 (qall_c qo47 qall_n)))) rfl qe48 qf48_0 (by decide +kernel) (by decide +kernel)
def qc49_0 : List qCt := [((22, [[(0, 0)], [((-2147483648), 2147483647)], [((-2147483648), 2147483647)], [(0, 5)], [(4, 5)]], [(0, .inr (.inr (.ref 29))), (1, .inl (1, 0)), (2, .inl (0, 3)), (3, .inl (2, 0)), (4, .inl (3, 0))], [], [((29, 3), .inl (4, 0))]), [], [(false, 4978, (0, 0)), (false, 6, (3, 0)), (false, 9000, (0, 0)), (false, 0, (0, 0))])]
def qc49 : List qCt := qc49_0
set_option maxRecDepth 100000 in
theorem qe49 : qck0 yT1 [qs44, qs45, qs46, qs48] qP 20000 [] qc49 qs49 = true := by decide +kernel
set_option maxRecDepth 100000 in
theorem qf49_0 : qc49_0.all (qck1 yT1 [qs44, qs45, qs46, qs48] qP 20000 [] qc49 qs49) = true := by decide +kernel
set_option maxRecDepth 100000 in
theorem qo49 : qOK yT1 86 1471 qs49 := qck_ok (m := 4) (qall_c qo44 (qall_c qo45 (qall_c qo46 (qall_c qo48 qall_n)))) rfl qe49 qf49_0 (by decide +kernel) (by decide +kernel)
